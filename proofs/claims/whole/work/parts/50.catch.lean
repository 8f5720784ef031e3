/-- what isn't caught by whom -/
def xcs : List String := ["java/lang/IllegalArgumentException", "java/lang/IllegalStateException", "java/util/NoSuchElementException", "java/lang/UnsupportedOperationException", "java/lang/IndexOutOfBoundsException"]
def mN (U : State) : Prop := ∀ a ∈ xcs, ∀ b ∈ xcs, a ≠ b → va_Nc a b U
theorem mN_move {s U : State} (hW : s.WarmedH U.vm) (h : mN s) : mN U := fun a ha b hb hn => va_Nc.moved hW.alike (h a ha b hb hn)
def mPreH (D : va_G) (dA : Nat → ClassId) (base : Nat) (M : mM) (ad : Nat → Nat → Nat) (as : List Value) : Array Value → State → Prop := fun v U => mPre D dA base M ad as v U ∧ mN U
theorem mPreH_blind {D : va_G} {dA : Nat → ClassId} {base : Nat} {M : mM} {ad : Nat → Nat → Nat} {as : List Value} : FrameBlind (mPreH D dA base M ad as) := fun a U g mk h => ⟨mPre_blind a U g mk h.1, mN_move (U := U.calling g mk a) (State.WarmedH.refl U) h.2⟩
/-- the contract of a method with handlers that throws nothing -/
def mMetH (l : Launch) (y : MethodName) (cc : ByteArray) (maxL : Nat) (ret : Option FieldType) (hh : List (Nat × Nat × Nat × Nat)) (rm : Room) (mc ms : Nat) (D : va_G) (dA : Nat → ClassId) (base : Nat) (M : mM) (ad : Nat → Nat → Nat) (as : List Value) (P : Option Value → mM → (Nat → Nat → Nat) → Prop) : Prop :=
  vx_Met l y [.codeWith y cc maxL ret hh] rm (mPreH D dA base M ad as) (mPost D dA base M ad P) (mX D dA base M ad (fun _ => False)) mc ms (fun q => base ≤ q)
theorem m_startH {l : Launch} {y : MethodName} {cc : ByteArray} {maxL : Nat} {ret : Option FieldType} {hh : List (Nat × Nat × Nat × Nat)} {rm : Room} {mc ms : Nat} {D : va_G} {dA : Nat → ClassId} {base : Nat} {M : mM} {ad : Nat → Nat → Nat} {as : List Value} {P : Option Value → mM → (Nat → Nat → Nat) → Prop} (hy : plainName y.cls = true) (hlen : (lg_sl as).length ≤ maxL) {lvs : List (Nat × Value)} (hlv : lv_args 0 as = lvs)
    (body : ∀ (p : Program) (e : Env) (s : State) (m : MethodId) (below : List Frame) (meth : Method) (c : Code) (ls : Array Slot), mCx D dA base p s m as.toArray c cc y.cls → meth.sig.returnType = ret → meth.locks = false → c.maxLocals = maxL → mSt D dA base M ad s.heap s.heap [] → lv_has ls maxL lvs → c.exceptionTable.toList = tableOf hh → mN s →
      W p l e rm s m as.toArray below meth c s.heap [] 0 0 (vx_MQ below (mPost D dA base M ad P) (mX D dA base M ad (fun _ => False)) as.toArray s mc ms (fun q => base ≤ q)) (F0 m 0 ls [])) : mMetH l y cc maxL ret hh rm mc ms D dA base M ad as P := by
  refine vx_ofWH (cc := cc) (maxL := maxL) (ret := ret) (hh := hh) hy rfl ?_
  intro p e s m args below meth c s₁ B hml hv
  have ht := vx_table (x := y) B (atoms_spec (ws := [Cond.codeWith y cc maxL ret hh]) B.pre _ List.mem_cons_self)
  obtain ⟨⟨rfl, hwd, hK, hZ, hR, hbs⟩, hN⟩ := hv
  have hl := lv_entry as (n := maxL) hlen
  rw [lg_entry_eq]
  rw [hlv] at hl
  exact body p e s m below meth c _ ⟨B.exec, B.bytes, findClass_of_methodNamed B.named, fun w hw => hwd w hw _, hK, hZ⟩ B.returns B.notSynchronized hml ⟨hR, va_S.rf, hbs⟩ hl ht hN
theorem r_last {p : Program} {l : Launch} {e : Env} {R : Room} {s : State} {m : MethodId} {args : Array Value} {below : List Frame} {meth : Method} {c : Code} {H : Heap} {locs : List Loc} {cells slots : Nat} {Q : State → Prop} {cc : ByteArray} {pc : Nat} {ls : Array Slot} {rest : List Value} {D : va_G} {dA : Nat → ClassId} {base : Nat} {M : mM} {ad : Nat → Nat → Nat} {own : String} {H0 : Heap} (X : mCx D dA base p s m args c cc own) (hM : mSt D dA base M ad H0 H locs) {k i j a t n : Nat} (ha : ad k i = a) (hi : i < gn M k) (hA : aLk k t n .long) (h0 : ∀ j, ft k j = 1) {x : Int32} {y : Int64} (hx : x = nI j) (hj : j < n) (hdg : decode cc pc = .ok (.lastore, 1))
    (kk : ∀ (H1 : Heap) (locs1 : List Loc), mSt D dA base (sl M k i j y) ad H0 H1 locs1 → W p l e R s m args below meth c H1 locs1 cells slots Q (F0 m (pc + 1) ls rest)) : W p l e R s m args below meth c H locs cells slots Q (F0 m pc ls (.long y :: .int x :: .ref a :: rest)) := by
  obtain ⟨hexec, hb, hown, hts, hK, -⟩ := X
  obtain ⟨hs, hn, ht⟩ := hA
  obtain ⟨hba, hcell⟩ := hM.1.1 k i hi
  unfold mcell at hcell
  rw [hs] at hcell
  subst ha; subst hx
  have hcl : (nI j).toNatClampNeg = j := nI_clamp (by omega)
  refine W.last hexec hb hcell ((hK.2 t _ (ht dA)).1 n (mv M ad k i)) (fun q => by cases q) (by show ¬ (nI j < 0 ∨ (arrV _ _ _).slots.size ≤ _); rw [arrV_size]; exact nI_in hj hn) rfl rfl hdg fun H1 e z oq => ?_
  refine kk H1 _ ⟨mRep_sl hM.1 hi ?_ oq, hM.2.1.put z oq hba, hM.2.2⟩
  unfold mcell
  rw [hs, e, hcl, arrV_store, mv_sl (h0 j)]
theorem hl_13 : Cond.classLink "ScopeKeeperLaw" 13 "java/lang/IllegalArgumentException" ∈ gw := gwm (lt1 143 rfl) rfl
theorem hc_13 : Cond.castable "java/lang/IllegalArgumentException" "java/lang/IllegalArgumentException" ∈ gw := gwm (lt1 157 rfl) rfl
theorem hl_19 : Cond.classLink "ScopeKeeperLaw" 19 "java/lang/IllegalStateException" ∈ gw := gwm (lt1 229 rfl) rfl
theorem hc_19 : Cond.castable "java/lang/IllegalStateException" "java/lang/IllegalStateException" ∈ gw := gwm (lt2 13 rfl) rfl
theorem hl_25 : Cond.classLink "ScopeKeeperLaw" 25 "java/util/NoSuchElementException" ∈ gw := gwm (lt2 60 rfl) rfl
theorem hc_25 : Cond.castable "java/util/NoSuchElementException" "java/util/NoSuchElementException" ∈ gw := gwm (lt2 71 rfl) rfl
theorem hl_43 : Cond.classLink "ScopeKeeperLaw" 43 "java/lang/UnsupportedOperationException" ∈ gw := gwm (lt3 72 rfl) rfl
theorem hc_43 : Cond.castable "java/lang/UnsupportedOperationException" "java/lang/UnsupportedOperationException" ∈ gw := gwm (lt3 83 rfl) rfl
theorem hl_51 : Cond.classLink "ScopeKeeperLaw" 51 "java/lang/IndexOutOfBoundsException" ∈ gw := gwm (lt3 133 rfl) rfl
theorem hc_51 : Cond.castable "java/lang/IndexOutOfBoundsException" "java/lang/IndexOutOfBoundsException" ∈ gw := gwm (lt3 143 rfl) rfl
theorem d_Lw_serve_0 : decode b_Lw_serve 0 = .ok (.aload_n 0, 1) := by decide +kernel
theorem d_Lw_serve_1 : decode b_Lw_serve 1 = .ok (.iload_n 1, 1) := by decide +kernel
theorem d_Lw_serve_2 : decode b_Lw_serve 2 = .ok (.iload_n 2, 1) := by decide +kernel
theorem d_Lw_serve_3 : decode b_Lw_serve 3 = .ok (.iload_n 3, 1) := by decide +kernel
theorem d_Lw_serve_4 : decode b_Lw_serve 4 = .ok (.iload 4, 2) := by decide +kernel
theorem d_Lw_serve_6 : decode b_Lw_serve 6 = .ok (.iload 5, 2) := by decide +kernel
theorem d_Lw_serve_8 : decode b_Lw_serve 8 = .ok (.invokevirtual 7, 3) := by decide +kernel
theorem d_Lw_serve_11 : decode b_Lw_serve 11 = .ok (.goto 7, 3) := by decide +kernel
theorem d_Lw_serve_14 : decode b_Lw_serve 14 = .ok (.astore 6, 2) := by decide +kernel
theorem d_Lw_serve_16 : decode b_Lw_serve 16 = .ok (.iconst 1, 1) := by decide +kernel
theorem d_Lw_serve_17 : decode b_Lw_serve 17 = .ok (.ireturn, 1) := by decide +kernel
theorem d_Lw_serve_18 : decode b_Lw_serve 18 = .ok (.iconst 0, 1) := by decide +kernel
theorem d_Lw_serve_19 : decode b_Lw_serve 19 = .ok (.ireturn, 1) := by decide +kernel
theorem cx_Lw_7 : Cond.methodLink "ScopeKeeperLaw" 7 y_K_serve ∈ gw := gwm (lt1 144 rfl) rfl
theorem hw_Lw_serve : Cond.codeWith y_Lw_serve b_Lw_serve 7 (some FieldType.int) [(0, 11, 14, 13)] ∈ gw := gwm (lt1 142 rfl) rfl
set_option maxHeartbeats 4000000 in
set_option maxRecDepth 100000 in
theorem k_Lw_serve (l : Launch) (D : va_G) (dA : Nat → ClassId) (base : Nat) (M : mM) (ad : Nat → Nat → Nat) (a0 a1 a2 a3 a4 : Int32) (h00 : 0 < gn M 0) (h17 : 0 < gn M 17) (P : Option Value → mM → (Nat → Nat → Nat) → Prop) (PX : String → Prop) (rm : Room) (mc ms : Nat) (hrm : rm.cells = mc ∧ rm.slots = ms ∧ rm.frames ≤ 8 ∧ rm.locals ≤ 260 ∧ mc ≤ 8 ∧ ms ≤ 40) (hC : mMetX l y_K_serve b_K_serve 7 none rm mc ms D dA base M ad [.ref (ad 0 0), .int a0, .int a1, .int a2, .int a3, .int a4] P PX) (hP : ∀ rv N ad1, P rv N ad1 → rv = none) (hX : ∀ E, PX E → E = "java/lang/IllegalArgumentException") : mMetH l y_Lw_serve b_Lw_serve 7 (some FieldType.int) [(0, 11, 14, 13)] ({ frames := 9, cells := 8, slots := 40, locals := 300 } : Room) 8 40 D dA base M ad [.ref (ad 0 0), .int a0, .int a1, .int a2, .int a3, .int a4] (fun rv M1 ad1 => (∃ N, (P none N ad1 ∧ rv = some (.int 0) ∧ M1 = N)) ∨ (PX "java/lang/IllegalArgumentException" ∧ rv = some (.int 1) ∧ M1 = M ∧ ad1 = ad)) := by
  refine m_startH (lvs := [(0, .ref (ad 0 0)), (1, .int a0), (2, .int a1), (3, .int a2), (4, .int a3), (5, .int a4)]) (by decide) (Nat.le_of_ble_eq_true rfl) rfl ?_
  intro p e s m below meth c ls X hr hlk hml hM hl htab hN
  obtain ⟨z1, z2, z3, z4, z5, z6⟩ := hrm
  refine lv_aload_n X.1 X.2.1 d_Lw_serve_0 rfl (lv_at hl 0 rfl) ?_
  refine lv_iload_n X.1 X.2.1 d_Lw_serve_1 rfl (lv_at hl 1 rfl) ?_
  refine lv_iload_n X.1 X.2.1 d_Lw_serve_2 rfl (lv_at hl 2 rfl) ?_
  refine lv_iload_n X.1 X.2.1 d_Lw_serve_3 rfl (lv_at hl 3 rfl) ?_
  refine lv_iload X.1 X.2.1 d_Lw_serve_4 (lv_at hl 4 rfl) ?_
  refine lv_iload X.1 X.2.1 d_Lw_serve_6 (lv_at hl 5 rfl) ?_
  refine r_cVX (As := [.int a0, .int a1, .int a2, .int a3, .int a4]) (rest := []) X hml hl.1 hM hC c_Lw_7 cx_Lw_7 v_K_serve kc_K rfl h00 rfl (Nat.le_of_ble_eq_true rfl) ⟨z1, z2, by dsimp only; omega, by dsimp only; omega⟩ ⟨by dsimp only; omega, by dsimp only; omega⟩ d_Lw_serve_8 (fun E ce q H locs hPx hM hy1 hy2 hy3 => ?_) ?_
  · have hE9 := hX E hPx
    subst hE9
    refine vx_catch X.2.2.1 [] ⟨0, 11, 14, 13⟩ [] (htab.trans rfl) (fun z hz => by cases hz) rfl (by decide) (X.2.2.2.1 _ hl_13) (X.2.2.2.1 _ hc_13) hy1 hy2 hy3 ?_
    refine lv_astore (lv' := (6, .ref q) :: [(0, .ref (ad 0 0)), (1, .int a0), (2, .int a1), (3, .int a2), (4, .int a3), (5, .int a4)]) X.1 X.2.1 d_Lw_serve_14 hl (by decide) rfl (fun ls hl => ?_)
    refine lv_iconst (v := 1) X.1 X.2.1 d_Lw_serve_16 (by decide) ?_
    refine vx_ret ?_
    exact m_iret X hr hlk hM d_Lw_serve_17 ⟨by omega, by omega⟩ (mExt_rf _ _) (Or.inr (⟨hPx, rfl, rfl, rfl⟩))
  · intro rv N ad1 H locs hPv hM hE
    have e1 := hP _ _ _ hPv
    subst e1
    refine lv_goto (tgt := 18) X.1 X.2.1 d_Lw_serve_11 (by decide) ?_
    refine lv_iconst (v := 0) X.1 X.2.1 d_Lw_serve_18 (by decide) ?_
    refine vx_ret ?_
    exact m_iret X hr hlk hM d_Lw_serve_19 ⟨by omega, by omega⟩ hE (Or.inl ⟨N, ⟨hPv, rfl, rfl⟩⟩)
theorem d_Lw_job_0 : decode b_Lw_job 0 = .ok (.aload 4, 2) := by decide +kernel
theorem d_Lw_job_2 : decode b_Lw_job 2 = .ok (.iconst 0, 1) := by decide +kernel
theorem d_Lw_job_3 : decode b_Lw_job 3 = .ok (.aload_n 0, 1) := by decide +kernel
theorem d_Lw_job_4 : decode b_Lw_job 4 = .ok (.iload_n 1, 1) := by decide +kernel
theorem d_Lw_job_5 : decode b_Lw_job 5 = .ok (.iload_n 2, 1) := by decide +kernel
theorem d_Lw_job_6 : decode b_Lw_job 6 = .ok (.iload_n 3, 1) := by decide +kernel
theorem d_Lw_job_7 : decode b_Lw_job 7 = .ok (.invokevirtual 15, 3) := by decide +kernel
theorem d_Lw_job_10 : decode b_Lw_job 10 = .ok (.i2l, 1) := by decide +kernel
theorem d_Lw_job_11 : decode b_Lw_job 11 = .ok (.lastore, 1) := by decide +kernel
theorem d_Lw_job_12 : decode b_Lw_job 12 = .ok (.goto 11, 3) := by decide +kernel
theorem d_Lw_job_15 : decode b_Lw_job 15 = .ok (.astore 5, 2) := by decide +kernel
theorem d_Lw_job_17 : decode b_Lw_job 17 = .ok (.iconst 1, 1) := by decide +kernel
theorem d_Lw_job_18 : decode b_Lw_job 18 = .ok (.ireturn, 1) := by decide +kernel
theorem d_Lw_job_19 : decode b_Lw_job 19 = .ok (.astore 5, 2) := by decide +kernel
theorem d_Lw_job_21 : decode b_Lw_job 21 = .ok (.iconst 2, 1) := by decide +kernel
theorem d_Lw_job_22 : decode b_Lw_job 22 = .ok (.ireturn, 1) := by decide +kernel
theorem d_Lw_job_23 : decode b_Lw_job 23 = .ok (.iconst 0, 1) := by decide +kernel
theorem d_Lw_job_24 : decode b_Lw_job 24 = .ok (.ireturn, 1) := by decide +kernel
theorem cx_Lw_15 : Cond.methodLink "ScopeKeeperLaw" 15 y_K_job ∈ gw := gwm (lt1 230 rfl) rfl
theorem hw_Lw_job : Cond.codeWith y_Lw_job b_Lw_job 6 (some FieldType.int) [(0, 12, 15, 13), (0, 12, 19, 19)] ∈ gw := gwm (lt1 228 rfl) rfl
set_option maxHeartbeats 4000000 in
set_option maxRecDepth 100000 in
theorem k_Lw_job (l : Launch) (D : va_G) (dA : Nat → ClassId) (base : Nat) (M : mM) (ad : Nat → Nat → Nat) (a0 a1 a2 : Int32) (h00 : 0 < gn M 0) (h17 : 0 < gn M 17) (P : Option Value → mM → (Nat → Nat → Nat) → Prop) (PX : String → Prop) (rm : Room) (mc ms : Nat) (hrm : rm.cells = mc ∧ rm.slots = ms ∧ rm.frames ≤ 8 ∧ rm.locals ≤ 260 ∧ mc ≤ 8 ∧ ms ≤ 40) (hC : mMetX l y_K_job b_K_job 7 (some FieldType.int) rm mc ms D dA base M ad [.ref (ad 0 0), .int a0, .int a1, .int a2] P PX) (hP : ∀ rv N ad1, P rv N ad1 → ∃ r, rv = some (.int r)) (hX : ∀ E, PX E → E = "java/lang/IllegalArgumentException" ∨ E = "java/lang/IllegalStateException") : mMetH l y_Lw_job b_Lw_job 6 (some FieldType.int) [(0, 12, 15, 13), (0, 12, 19, 19)] ({ frames := 9, cells := 8, slots := 40, locals := 300 } : Room) 8 40 D dA base M ad [.ref (ad 0 0), .int a0, .int a1, .int a2, .ref (ad 17 0)] (fun rv M1 ad1 => (∃ N, (∃ r, P (some (.int r)) N ad1 ∧ rv = some (.int 0) ∧ M1 = sl N 17 0 0 r.toInt64)) ∨ (PX "java/lang/IllegalArgumentException" ∧ rv = some (.int 1) ∧ M1 = M ∧ ad1 = ad) ∨ (PX "java/lang/IllegalStateException" ∧ rv = some (.int 2) ∧ M1 = M ∧ ad1 = ad)) := by
  refine m_startH (lvs := [(0, .ref (ad 0 0)), (1, .int a0), (2, .int a1), (3, .int a2), (4, .ref (ad 17 0))]) (by decide) (Nat.le_of_ble_eq_true rfl) rfl ?_
  intro p e s m below meth c ls X hr hlk hml hM hl htab hN
  obtain ⟨z1, z2, z3, z4, z5, z6⟩ := hrm
  refine lv_aload X.1 X.2.1 d_Lw_job_0 (lv_at hl 4 rfl) ?_
  refine lv_iconst (v := 0) X.1 X.2.1 d_Lw_job_2 (by decide) ?_
  refine lv_aload_n X.1 X.2.1 d_Lw_job_3 rfl (lv_at hl 0 rfl) ?_
  refine lv_iload_n X.1 X.2.1 d_Lw_job_4 rfl (lv_at hl 1 rfl) ?_
  refine lv_iload_n X.1 X.2.1 d_Lw_job_5 rfl (lv_at hl 2 rfl) ?_
  refine lv_iload_n X.1 X.2.1 d_Lw_job_6 rfl (lv_at hl 3 rfl) ?_
  refine r_cVX (As := [.int a0, .int a1, .int a2]) (rest := [.int 0, .ref (ad 17 0)]) X hml hl.1 hM hC c_Lw_15 cx_Lw_15 v_K_job kc_K rfl h00 rfl (Nat.le_of_ble_eq_true rfl) ⟨z1, z2, by dsimp only; omega, by dsimp only; omega⟩ ⟨by dsimp only; omega, by dsimp only; omega⟩ d_Lw_job_7 (fun E ce q H locs hPx hM hy1 hy2 hy3 => ?_) ?_
  · rcases hX E hPx with rfl | rfl
    · refine vx_catch X.2.2.1 [] ⟨0, 12, 15, 13⟩ [⟨0, 12, 19, 19⟩] (htab.trans rfl) (fun z hz => by cases hz) rfl (by decide) (X.2.2.2.1 _ hl_13) (X.2.2.2.1 _ hc_13) hy1 hy2 hy3 ?_
      refine lv_astore (lv' := (5, .ref q) :: [(0, .ref (ad 0 0)), (1, .int a0), (2, .int a1), (3, .int a2), (4, .ref (ad 17 0))]) X.1 X.2.1 d_Lw_job_15 hl (by decide) rfl (fun ls hl => ?_)
      refine lv_iconst (v := 1) X.1 X.2.1 d_Lw_job_17 (by decide) ?_
      refine vx_ret ?_
      exact m_iret X hr hlk hM d_Lw_job_18 ⟨by omega, by omega⟩ (mExt_rf _ _) (Or.inr (Or.inl ⟨hPx, rfl, rfl, rfl⟩))
    · refine vx_catch X.2.2.1 [⟨0, 12, 15, 13⟩] ⟨0, 12, 19, 19⟩ [] (htab.trans rfl) (fun z hz => by cases List.mem_singleton.mp hz; exact Or.inr ⟨by decide, "java/lang/IllegalArgumentException", X.2.2.2.1 _ hl_13, hN _ (by decide) _ (by decide) (by decide)⟩) rfl (by decide) (X.2.2.2.1 _ hl_19) (X.2.2.2.1 _ hc_19) hy1 hy2 hy3 ?_
      refine lv_astore (lv' := (5, .ref q) :: [(0, .ref (ad 0 0)), (1, .int a0), (2, .int a1), (3, .int a2), (4, .ref (ad 17 0))]) X.1 X.2.1 d_Lw_job_19 hl (by decide) rfl (fun ls hl => ?_)
      refine lv_iconst (v := 2) X.1 X.2.1 d_Lw_job_21 (by decide) ?_
      refine vx_ret ?_
      exact m_iret X hr hlk hM d_Lw_job_22 ⟨by omega, by omega⟩ (mExt_rf _ _) (Or.inr (Or.inr (⟨hPx, rfl, rfl, rfl⟩)))
  · intro rv N ad1 H locs hPv hM hE
    obtain ⟨r, e1⟩ := hP _ _ _ hPv
    subst e1
    refine lv_i2l X.1 X.2.1 d_Lw_job_10 rfl ?_
    refine r_last X hM (hE.1 17 0 h17) (Nat.lt_of_lt_of_le h17 (hE.2 17)) a_out (fun _ => rfl) (j := 0) rfl (by decide) d_Lw_job_11 (fun H locs hM => ?_)
    refine lv_goto (tgt := 23) X.1 X.2.1 d_Lw_job_12 (by decide) ?_
    refine lv_iconst (v := 0) X.1 X.2.1 d_Lw_job_23 (by decide) ?_
    refine vx_ret ?_
    exact m_iret X hr hlk hM d_Lw_job_24 ⟨by omega, by omega⟩ hE (Or.inl ⟨N, ⟨r, hPv, rfl, rfl⟩⟩)
theorem d_Lw_step_0 : decode b_Lw_step 0 = .ok (.aload_n 2, 1) := by decide +kernel
theorem d_Lw_step_1 : decode b_Lw_step 1 = .ok (.iconst 0, 1) := by decide +kernel
theorem d_Lw_step_2 : decode b_Lw_step 2 = .ok (.aload_n 0, 1) := by decide +kernel
theorem d_Lw_step_3 : decode b_Lw_step 3 = .ok (.iload_n 1, 1) := by decide +kernel
theorem d_Lw_step_4 : decode b_Lw_step 4 = .ok (.invokevirtual 21, 3) := by decide +kernel
theorem d_Lw_step_7 : decode b_Lw_step 7 = .ok (.i2l, 1) := by decide +kernel
theorem d_Lw_step_8 : decode b_Lw_step 8 = .ok (.lastore, 1) := by decide +kernel
theorem d_Lw_step_9 : decode b_Lw_step 9 = .ok (.goto 9, 3) := by decide +kernel
theorem d_Lw_step_12 : decode b_Lw_step 12 = .ok (.astore_n 3, 1) := by decide +kernel
theorem d_Lw_step_13 : decode b_Lw_step 13 = .ok (.iconst 1, 1) := by decide +kernel
theorem d_Lw_step_14 : decode b_Lw_step 14 = .ok (.ireturn, 1) := by decide +kernel
theorem d_Lw_step_15 : decode b_Lw_step 15 = .ok (.astore_n 3, 1) := by decide +kernel
theorem d_Lw_step_16 : decode b_Lw_step 16 = .ok (.iconst 2, 1) := by decide +kernel
theorem d_Lw_step_17 : decode b_Lw_step 17 = .ok (.ireturn, 1) := by decide +kernel
theorem d_Lw_step_18 : decode b_Lw_step 18 = .ok (.iconst 0, 1) := by decide +kernel
theorem d_Lw_step_19 : decode b_Lw_step 19 = .ok (.ireturn, 1) := by decide +kernel
theorem cx_Lw_21 : Cond.methodLink "ScopeKeeperLaw" 21 y_K_step ∈ gw := gwm (lt2 61 rfl) rfl
theorem hw_Lw_step : Cond.codeWith y_Lw_step b_Lw_step 4 (some FieldType.int) [(0, 9, 12, 13), (0, 9, 15, 25)] ∈ gw := gwm (lt2 59 rfl) rfl
set_option maxHeartbeats 4000000 in
set_option maxRecDepth 100000 in
theorem k_Lw_step (l : Launch) (D : va_G) (dA : Nat → ClassId) (base : Nat) (M : mM) (ad : Nat → Nat → Nat) (a0 : Int32) (h00 : 0 < gn M 0) (h17 : 0 < gn M 17) (P : Option Value → mM → (Nat → Nat → Nat) → Prop) (PX : String → Prop) (rm : Room) (mc ms : Nat) (hrm : rm.cells = mc ∧ rm.slots = ms ∧ rm.frames ≤ 8 ∧ rm.locals ≤ 260 ∧ mc ≤ 8 ∧ ms ≤ 40) (hC : mMetX l y_K_step b_K_step 4 (some FieldType.int) rm mc ms D dA base M ad [.ref (ad 0 0), .int a0] P PX) (hP : ∀ rv N ad1, P rv N ad1 → ∃ r, rv = some (.int r)) (hX : ∀ E, PX E → E = "java/lang/IllegalArgumentException" ∨ E = "java/util/NoSuchElementException") : mMetH l y_Lw_step b_Lw_step 4 (some FieldType.int) [(0, 9, 12, 13), (0, 9, 15, 25)] ({ frames := 9, cells := 8, slots := 40, locals := 300 } : Room) 8 40 D dA base M ad [.ref (ad 0 0), .int a0, .ref (ad 17 0)] (fun rv M1 ad1 => (∃ N, (∃ r, P (some (.int r)) N ad1 ∧ rv = some (.int 0) ∧ M1 = sl N 17 0 0 r.toInt64)) ∨ (PX "java/lang/IllegalArgumentException" ∧ rv = some (.int 1) ∧ M1 = M ∧ ad1 = ad) ∨ (PX "java/util/NoSuchElementException" ∧ rv = some (.int 2) ∧ M1 = M ∧ ad1 = ad)) := by
  refine m_startH (lvs := [(0, .ref (ad 0 0)), (1, .int a0), (2, .ref (ad 17 0))]) (by decide) (Nat.le_of_ble_eq_true rfl) rfl ?_
  intro p e s m below meth c ls X hr hlk hml hM hl htab hN
  obtain ⟨z1, z2, z3, z4, z5, z6⟩ := hrm
  refine lv_aload_n X.1 X.2.1 d_Lw_step_0 rfl (lv_at hl 2 rfl) ?_
  refine lv_iconst (v := 0) X.1 X.2.1 d_Lw_step_1 (by decide) ?_
  refine lv_aload_n X.1 X.2.1 d_Lw_step_2 rfl (lv_at hl 0 rfl) ?_
  refine lv_iload_n X.1 X.2.1 d_Lw_step_3 rfl (lv_at hl 1 rfl) ?_
  refine r_cVX (As := [.int a0]) (rest := [.int 0, .ref (ad 17 0)]) X hml hl.1 hM hC c_Lw_21 cx_Lw_21 v_K_step kc_K rfl h00 rfl (Nat.le_of_ble_eq_true rfl) ⟨z1, z2, by dsimp only; omega, by dsimp only; omega⟩ ⟨by dsimp only; omega, by dsimp only; omega⟩ d_Lw_step_4 (fun E ce q H locs hPx hM hy1 hy2 hy3 => ?_) ?_
  · rcases hX E hPx with rfl | rfl
    · refine vx_catch X.2.2.1 [] ⟨0, 9, 12, 13⟩ [⟨0, 9, 15, 25⟩] (htab.trans rfl) (fun z hz => by cases hz) rfl (by decide) (X.2.2.2.1 _ hl_13) (X.2.2.2.1 _ hc_13) hy1 hy2 hy3 ?_
      refine lv_astore_n (lv' := (3, .ref q) :: [(0, .ref (ad 0 0)), (1, .int a0), (2, .ref (ad 17 0))]) X.1 X.2.1 d_Lw_step_12 rfl hl (by decide) rfl (fun ls hl => ?_)
      refine lv_iconst (v := 1) X.1 X.2.1 d_Lw_step_13 (by decide) ?_
      refine vx_ret ?_
      exact m_iret X hr hlk hM d_Lw_step_14 ⟨by omega, by omega⟩ (mExt_rf _ _) (Or.inr (Or.inl ⟨hPx, rfl, rfl, rfl⟩))
    · refine vx_catch X.2.2.1 [⟨0, 9, 12, 13⟩] ⟨0, 9, 15, 25⟩ [] (htab.trans rfl) (fun z hz => by cases List.mem_singleton.mp hz; exact Or.inr ⟨by decide, "java/lang/IllegalArgumentException", X.2.2.2.1 _ hl_13, hN _ (by decide) _ (by decide) (by decide)⟩) rfl (by decide) (X.2.2.2.1 _ hl_25) (X.2.2.2.1 _ hc_25) hy1 hy2 hy3 ?_
      refine lv_astore_n (lv' := (3, .ref q) :: [(0, .ref (ad 0 0)), (1, .int a0), (2, .ref (ad 17 0))]) X.1 X.2.1 d_Lw_step_15 rfl hl (by decide) rfl (fun ls hl => ?_)
      refine lv_iconst (v := 2) X.1 X.2.1 d_Lw_step_16 (by decide) ?_
      refine vx_ret ?_
      exact m_iret X hr hlk hM d_Lw_step_17 ⟨by omega, by omega⟩ (mExt_rf _ _) (Or.inr (Or.inr (⟨hPx, rfl, rfl, rfl⟩)))
  · intro rv N ad1 H locs hPv hM hE
    obtain ⟨r, e1⟩ := hP _ _ _ hPv
    subst e1
    refine lv_i2l X.1 X.2.1 d_Lw_step_7 rfl ?_
    refine r_last X hM (hE.1 17 0 h17) (Nat.lt_of_lt_of_le h17 (hE.2 17)) a_out (fun _ => rfl) (j := 0) rfl (by decide) d_Lw_step_8 (fun H locs hM => ?_)
    refine lv_goto (tgt := 18) X.1 X.2.1 d_Lw_step_9 (by decide) ?_
    refine lv_iconst (v := 0) X.1 X.2.1 d_Lw_step_18 (by decide) ?_
    refine vx_ret ?_
    exact m_iret X hr hlk hM d_Lw_step_19 ⟨by omega, by omega⟩ hE (Or.inl ⟨N, ⟨r, hPv, rfl, rfl⟩⟩)
theorem d_Lw_open_0 : decode b_Lw_open 0 = .ok (.aload_n 2, 1) := by decide +kernel
theorem d_Lw_open_1 : decode b_Lw_open 1 = .ok (.iconst 0, 1) := by decide +kernel
theorem d_Lw_open_2 : decode b_Lw_open 2 = .ok (.aload_n 0, 1) := by decide +kernel
theorem d_Lw_open_3 : decode b_Lw_open 3 = .ok (.iload_n 1, 1) := by decide +kernel
theorem d_Lw_open_4 : decode b_Lw_open 4 = .ok (.invokevirtual 27, 3) := by decide +kernel
theorem d_Lw_open_7 : decode b_Lw_open 7 = .ok (.i2l, 1) := by decide +kernel
theorem d_Lw_open_8 : decode b_Lw_open 8 = .ok (.lastore, 1) := by decide +kernel
theorem d_Lw_open_9 : decode b_Lw_open 9 = .ok (.goto 9, 3) := by decide +kernel
theorem d_Lw_open_12 : decode b_Lw_open 12 = .ok (.astore_n 3, 1) := by decide +kernel
theorem d_Lw_open_13 : decode b_Lw_open 13 = .ok (.iconst 1, 1) := by decide +kernel
theorem d_Lw_open_14 : decode b_Lw_open 14 = .ok (.ireturn, 1) := by decide +kernel
theorem d_Lw_open_15 : decode b_Lw_open 15 = .ok (.astore_n 3, 1) := by decide +kernel
theorem d_Lw_open_16 : decode b_Lw_open 16 = .ok (.iconst 2, 1) := by decide +kernel
theorem d_Lw_open_17 : decode b_Lw_open 17 = .ok (.ireturn, 1) := by decide +kernel
theorem d_Lw_open_18 : decode b_Lw_open 18 = .ok (.iconst 0, 1) := by decide +kernel
theorem d_Lw_open_19 : decode b_Lw_open 19 = .ok (.ireturn, 1) := by decide +kernel
theorem cx_Lw_27 : Cond.methodLink "ScopeKeeperLaw" 27 y_K_open ∈ gw := gwm (lt3 15 rfl) rfl
theorem hw_Lw_open : Cond.codeWith y_Lw_open b_Lw_open 4 (some FieldType.int) [(0, 9, 12, 13), (0, 9, 15, 19)] ∈ gw := gwm (lt3 14 rfl) rfl
set_option maxHeartbeats 4000000 in
set_option maxRecDepth 100000 in
theorem k_Lw_open (l : Launch) (D : va_G) (dA : Nat → ClassId) (base : Nat) (M : mM) (ad : Nat → Nat → Nat) (a0 : Int32) (h00 : 0 < gn M 0) (h17 : 0 < gn M 17) (P : Option Value → mM → (Nat → Nat → Nat) → Prop) (PX : String → Prop) (rm : Room) (mc ms : Nat) (hrm : rm.cells = mc ∧ rm.slots = ms ∧ rm.frames ≤ 8 ∧ rm.locals ≤ 260 ∧ mc ≤ 8 ∧ ms ≤ 40) (hC : mMetX l y_K_open b_K_open 5 (some FieldType.int) rm mc ms D dA base M ad [.ref (ad 0 0), .int a0] P PX) (hP : ∀ rv N ad1, P rv N ad1 → ∃ r, rv = some (.int r)) (hX : ∀ E, PX E → E = "java/lang/IllegalArgumentException" ∨ E = "java/lang/IllegalStateException") : mMetH l y_Lw_open b_Lw_open 4 (some FieldType.int) [(0, 9, 12, 13), (0, 9, 15, 19)] ({ frames := 9, cells := 8, slots := 40, locals := 300 } : Room) 8 40 D dA base M ad [.ref (ad 0 0), .int a0, .ref (ad 17 0)] (fun rv M1 ad1 => (∃ N, (∃ r, P (some (.int r)) N ad1 ∧ rv = some (.int 0) ∧ M1 = sl N 17 0 0 r.toInt64)) ∨ (PX "java/lang/IllegalArgumentException" ∧ rv = some (.int 1) ∧ M1 = M ∧ ad1 = ad) ∨ (PX "java/lang/IllegalStateException" ∧ rv = some (.int 2) ∧ M1 = M ∧ ad1 = ad)) := by
  refine m_startH (lvs := [(0, .ref (ad 0 0)), (1, .int a0), (2, .ref (ad 17 0))]) (by decide) (Nat.le_of_ble_eq_true rfl) rfl ?_
  intro p e s m below meth c ls X hr hlk hml hM hl htab hN
  obtain ⟨z1, z2, z3, z4, z5, z6⟩ := hrm
  refine lv_aload_n X.1 X.2.1 d_Lw_open_0 rfl (lv_at hl 2 rfl) ?_
  refine lv_iconst (v := 0) X.1 X.2.1 d_Lw_open_1 (by decide) ?_
  refine lv_aload_n X.1 X.2.1 d_Lw_open_2 rfl (lv_at hl 0 rfl) ?_
  refine lv_iload_n X.1 X.2.1 d_Lw_open_3 rfl (lv_at hl 1 rfl) ?_
  refine r_cVX (As := [.int a0]) (rest := [.int 0, .ref (ad 17 0)]) X hml hl.1 hM hC c_Lw_27 cx_Lw_27 v_K_open kc_K rfl h00 rfl (Nat.le_of_ble_eq_true rfl) ⟨z1, z2, by dsimp only; omega, by dsimp only; omega⟩ ⟨by dsimp only; omega, by dsimp only; omega⟩ d_Lw_open_4 (fun E ce q H locs hPx hM hy1 hy2 hy3 => ?_) ?_
  · rcases hX E hPx with rfl | rfl
    · refine vx_catch X.2.2.1 [] ⟨0, 9, 12, 13⟩ [⟨0, 9, 15, 19⟩] (htab.trans rfl) (fun z hz => by cases hz) rfl (by decide) (X.2.2.2.1 _ hl_13) (X.2.2.2.1 _ hc_13) hy1 hy2 hy3 ?_
      refine lv_astore_n (lv' := (3, .ref q) :: [(0, .ref (ad 0 0)), (1, .int a0), (2, .ref (ad 17 0))]) X.1 X.2.1 d_Lw_open_12 rfl hl (by decide) rfl (fun ls hl => ?_)
      refine lv_iconst (v := 1) X.1 X.2.1 d_Lw_open_13 (by decide) ?_
      refine vx_ret ?_
      exact m_iret X hr hlk hM d_Lw_open_14 ⟨by omega, by omega⟩ (mExt_rf _ _) (Or.inr (Or.inl ⟨hPx, rfl, rfl, rfl⟩))
    · refine vx_catch X.2.2.1 [⟨0, 9, 12, 13⟩] ⟨0, 9, 15, 19⟩ [] (htab.trans rfl) (fun z hz => by cases List.mem_singleton.mp hz; exact Or.inr ⟨by decide, "java/lang/IllegalArgumentException", X.2.2.2.1 _ hl_13, hN _ (by decide) _ (by decide) (by decide)⟩) rfl (by decide) (X.2.2.2.1 _ hl_19) (X.2.2.2.1 _ hc_19) hy1 hy2 hy3 ?_
      refine lv_astore_n (lv' := (3, .ref q) :: [(0, .ref (ad 0 0)), (1, .int a0), (2, .ref (ad 17 0))]) X.1 X.2.1 d_Lw_open_15 rfl hl (by decide) rfl (fun ls hl => ?_)
      refine lv_iconst (v := 2) X.1 X.2.1 d_Lw_open_16 (by decide) ?_
      refine vx_ret ?_
      exact m_iret X hr hlk hM d_Lw_open_17 ⟨by omega, by omega⟩ (mExt_rf _ _) (Or.inr (Or.inr (⟨hPx, rfl, rfl, rfl⟩)))
  · intro rv N ad1 H locs hPv hM hE
    obtain ⟨r, e1⟩ := hP _ _ _ hPv
    subst e1
    refine lv_i2l X.1 X.2.1 d_Lw_open_7 rfl ?_
    refine r_last X hM (hE.1 17 0 h17) (Nat.lt_of_lt_of_le h17 (hE.2 17)) a_out (fun _ => rfl) (j := 0) rfl (by decide) d_Lw_open_8 (fun H locs hM => ?_)
    refine lv_goto (tgt := 18) X.1 X.2.1 d_Lw_open_9 (by decide) ?_
    refine lv_iconst (v := 0) X.1 X.2.1 d_Lw_open_18 (by decide) ?_
    refine vx_ret ?_
    exact m_iret X hr hlk hM d_Lw_open_19 ⟨by omega, by omega⟩ hE (Or.inl ⟨N, ⟨r, hPv, rfl, rfl⟩⟩)
theorem d_Lw_close_0 : decode b_Lw_close 0 = .ok (.aload_n 2, 1) := by decide +kernel
theorem d_Lw_close_1 : decode b_Lw_close 1 = .ok (.iconst 0, 1) := by decide +kernel
theorem d_Lw_close_2 : decode b_Lw_close 2 = .ok (.aload_n 0, 1) := by decide +kernel
theorem d_Lw_close_3 : decode b_Lw_close 3 = .ok (.iload_n 1, 1) := by decide +kernel
theorem d_Lw_close_4 : decode b_Lw_close 4 = .ok (.invokevirtual 30, 3) := by decide +kernel
theorem d_Lw_close_7 : decode b_Lw_close 7 = .ok (.i2l, 1) := by decide +kernel
theorem d_Lw_close_8 : decode b_Lw_close 8 = .ok (.lastore, 1) := by decide +kernel
theorem d_Lw_close_9 : decode b_Lw_close 9 = .ok (.goto 6, 3) := by decide +kernel
theorem d_Lw_close_12 : decode b_Lw_close 12 = .ok (.astore_n 3, 1) := by decide +kernel
theorem d_Lw_close_13 : decode b_Lw_close 13 = .ok (.iconst 1, 1) := by decide +kernel
theorem d_Lw_close_14 : decode b_Lw_close 14 = .ok (.ireturn, 1) := by decide +kernel
theorem d_Lw_close_15 : decode b_Lw_close 15 = .ok (.iconst 0, 1) := by decide +kernel
theorem d_Lw_close_16 : decode b_Lw_close 16 = .ok (.ireturn, 1) := by decide +kernel
theorem cx_Lw_30 : Cond.methodLink "ScopeKeeperLaw" 30 y_K_close ∈ gw := gwm (lt3 31 rfl) rfl
theorem hw_Lw_close : Cond.codeWith y_Lw_close b_Lw_close 4 (some FieldType.int) [(0, 9, 12, 25)] ∈ gw := gwm (lt3 30 rfl) rfl
set_option maxHeartbeats 4000000 in
set_option maxRecDepth 100000 in
theorem k_Lw_close (l : Launch) (D : va_G) (dA : Nat → ClassId) (base : Nat) (M : mM) (ad : Nat → Nat → Nat) (a0 : Int32) (h00 : 0 < gn M 0) (h17 : 0 < gn M 17) (P : Option Value → mM → (Nat → Nat → Nat) → Prop) (PX : String → Prop) (rm : Room) (mc ms : Nat) (hrm : rm.cells = mc ∧ rm.slots = ms ∧ rm.frames ≤ 8 ∧ rm.locals ≤ 260 ∧ mc ≤ 8 ∧ ms ≤ 40) (hC : mMetX l y_K_close b_K_close 4 (some FieldType.int) rm mc ms D dA base M ad [.ref (ad 0 0), .int a0] P PX) (hP : ∀ rv N ad1, P rv N ad1 → ∃ r, rv = some (.int r)) (hX : ∀ E, PX E → E = "java/util/NoSuchElementException") : mMetH l y_Lw_close b_Lw_close 4 (some FieldType.int) [(0, 9, 12, 25)] ({ frames := 9, cells := 8, slots := 40, locals := 300 } : Room) 8 40 D dA base M ad [.ref (ad 0 0), .int a0, .ref (ad 17 0)] (fun rv M1 ad1 => (∃ N, (∃ r, P (some (.int r)) N ad1 ∧ rv = some (.int 0) ∧ M1 = sl N 17 0 0 r.toInt64)) ∨ (PX "java/util/NoSuchElementException" ∧ rv = some (.int 1) ∧ M1 = M ∧ ad1 = ad)) := by
  refine m_startH (lvs := [(0, .ref (ad 0 0)), (1, .int a0), (2, .ref (ad 17 0))]) (by decide) (Nat.le_of_ble_eq_true rfl) rfl ?_
  intro p e s m below meth c ls X hr hlk hml hM hl htab hN
  obtain ⟨z1, z2, z3, z4, z5, z6⟩ := hrm
  refine lv_aload_n X.1 X.2.1 d_Lw_close_0 rfl (lv_at hl 2 rfl) ?_
  refine lv_iconst (v := 0) X.1 X.2.1 d_Lw_close_1 (by decide) ?_
  refine lv_aload_n X.1 X.2.1 d_Lw_close_2 rfl (lv_at hl 0 rfl) ?_
  refine lv_iload_n X.1 X.2.1 d_Lw_close_3 rfl (lv_at hl 1 rfl) ?_
  refine r_cVX (As := [.int a0]) (rest := [.int 0, .ref (ad 17 0)]) X hml hl.1 hM hC c_Lw_30 cx_Lw_30 v_K_close kc_K rfl h00 rfl (Nat.le_of_ble_eq_true rfl) ⟨z1, z2, by dsimp only; omega, by dsimp only; omega⟩ ⟨by dsimp only; omega, by dsimp only; omega⟩ d_Lw_close_4 (fun E ce q H locs hPx hM hy1 hy2 hy3 => ?_) ?_
  · have hE9 := hX E hPx
    subst hE9
    refine vx_catch X.2.2.1 [] ⟨0, 9, 12, 25⟩ [] (htab.trans rfl) (fun z hz => by cases hz) rfl (by decide) (X.2.2.2.1 _ hl_25) (X.2.2.2.1 _ hc_25) hy1 hy2 hy3 ?_
    refine lv_astore_n (lv' := (3, .ref q) :: [(0, .ref (ad 0 0)), (1, .int a0), (2, .ref (ad 17 0))]) X.1 X.2.1 d_Lw_close_12 rfl hl (by decide) rfl (fun ls hl => ?_)
    refine lv_iconst (v := 1) X.1 X.2.1 d_Lw_close_13 (by decide) ?_
    refine vx_ret ?_
    exact m_iret X hr hlk hM d_Lw_close_14 ⟨by omega, by omega⟩ (mExt_rf _ _) (Or.inr (⟨hPx, rfl, rfl, rfl⟩))
  · intro rv N ad1 H locs hPv hM hE
    obtain ⟨r, e1⟩ := hP _ _ _ hPv
    subst e1
    refine lv_i2l X.1 X.2.1 d_Lw_close_7 rfl ?_
    refine r_last X hM (hE.1 17 0 h17) (Nat.lt_of_lt_of_le h17 (hE.2 17)) a_out (fun _ => rfl) (j := 0) rfl (by decide) d_Lw_close_8 (fun H locs hM => ?_)
    refine lv_goto (tgt := 15) X.1 X.2.1 d_Lw_close_9 (by decide) ?_
    refine lv_iconst (v := 0) X.1 X.2.1 d_Lw_close_15 (by decide) ?_
    refine vx_ret ?_
    exact m_iret X hr hlk hM d_Lw_close_16 ⟨by omega, by omega⟩ hE (Or.inl ⟨N, ⟨r, hPv, rfl, rfl⟩⟩)
theorem d_Lw_claim_0 : decode b_Lw_claim 0 = .ok (.aload_n 2, 1) := by decide +kernel
theorem d_Lw_claim_1 : decode b_Lw_claim 1 = .ok (.iconst 0, 1) := by decide +kernel
theorem d_Lw_claim_2 : decode b_Lw_claim 2 = .ok (.aload_n 0, 1) := by decide +kernel
theorem d_Lw_claim_3 : decode b_Lw_claim 3 = .ok (.iload_n 1, 1) := by decide +kernel
theorem d_Lw_claim_4 : decode b_Lw_claim 4 = .ok (.invokevirtual 33, 3) := by decide +kernel
theorem d_Lw_claim_7 : decode b_Lw_claim 7 = .ok (.i2l, 1) := by decide +kernel
theorem d_Lw_claim_8 : decode b_Lw_claim 8 = .ok (.lastore, 1) := by decide +kernel
theorem d_Lw_claim_9 : decode b_Lw_claim 9 = .ok (.goto 12, 3) := by decide +kernel
theorem d_Lw_claim_12 : decode b_Lw_claim 12 = .ok (.astore_n 3, 1) := by decide +kernel
theorem d_Lw_claim_13 : decode b_Lw_claim 13 = .ok (.iconst 1, 1) := by decide +kernel
theorem d_Lw_claim_14 : decode b_Lw_claim 14 = .ok (.ireturn, 1) := by decide +kernel
theorem d_Lw_claim_15 : decode b_Lw_claim 15 = .ok (.astore_n 3, 1) := by decide +kernel
theorem d_Lw_claim_16 : decode b_Lw_claim 16 = .ok (.iconst 2, 1) := by decide +kernel
theorem d_Lw_claim_17 : decode b_Lw_claim 17 = .ok (.ireturn, 1) := by decide +kernel
theorem d_Lw_claim_18 : decode b_Lw_claim 18 = .ok (.astore_n 3, 1) := by decide +kernel
theorem d_Lw_claim_19 : decode b_Lw_claim 19 = .ok (.iconst 3, 1) := by decide +kernel
theorem d_Lw_claim_20 : decode b_Lw_claim 20 = .ok (.ireturn, 1) := by decide +kernel
theorem d_Lw_claim_21 : decode b_Lw_claim 21 = .ok (.iconst 0, 1) := by decide +kernel
theorem d_Lw_claim_22 : decode b_Lw_claim 22 = .ok (.ireturn, 1) := by decide +kernel
theorem cx_Lw_33 : Cond.methodLink "ScopeKeeperLaw" 33 y_K_claim ∈ gw := gwm (lt3 51 rfl) rfl
theorem hw_Lw_claim : Cond.codeWith y_Lw_claim b_Lw_claim 4 (some FieldType.int) [(0, 9, 12, 13), (0, 9, 15, 25), (0, 9, 18, 19)] ∈ gw := gwm (lt3 50 rfl) rfl
set_option maxHeartbeats 4000000 in
set_option maxRecDepth 100000 in
theorem k_Lw_claim (l : Launch) (D : va_G) (dA : Nat → ClassId) (base : Nat) (M : mM) (ad : Nat → Nat → Nat) (a0 : Int32) (h00 : 0 < gn M 0) (h17 : 0 < gn M 17) (P : Option Value → mM → (Nat → Nat → Nat) → Prop) (PX : String → Prop) (rm : Room) (mc ms : Nat) (hrm : rm.cells = mc ∧ rm.slots = ms ∧ rm.frames ≤ 8 ∧ rm.locals ≤ 260 ∧ mc ≤ 8 ∧ ms ≤ 40) (hC : mMetX l y_K_claim b_K_claim 6 (some FieldType.int) rm mc ms D dA base M ad [.ref (ad 0 0), .int a0] P PX) (hP : ∀ rv N ad1, P rv N ad1 → ∃ r, rv = some (.int r)) (hX : ∀ E, PX E → E = "java/lang/IllegalArgumentException" ∨ E = "java/util/NoSuchElementException" ∨ E = "java/lang/IllegalStateException") : mMetH l y_Lw_claim b_Lw_claim 4 (some FieldType.int) [(0, 9, 12, 13), (0, 9, 15, 25), (0, 9, 18, 19)] ({ frames := 9, cells := 8, slots := 40, locals := 300 } : Room) 8 40 D dA base M ad [.ref (ad 0 0), .int a0, .ref (ad 17 0)] (fun rv M1 ad1 => (∃ N, (∃ r, P (some (.int r)) N ad1 ∧ rv = some (.int 0) ∧ M1 = sl N 17 0 0 r.toInt64)) ∨ (PX "java/lang/IllegalArgumentException" ∧ rv = some (.int 1) ∧ M1 = M ∧ ad1 = ad) ∨ (PX "java/util/NoSuchElementException" ∧ rv = some (.int 2) ∧ M1 = M ∧ ad1 = ad) ∨ (PX "java/lang/IllegalStateException" ∧ rv = some (.int 3) ∧ M1 = M ∧ ad1 = ad)) := by
  refine m_startH (lvs := [(0, .ref (ad 0 0)), (1, .int a0), (2, .ref (ad 17 0))]) (by decide) (Nat.le_of_ble_eq_true rfl) rfl ?_
  intro p e s m below meth c ls X hr hlk hml hM hl htab hN
  obtain ⟨z1, z2, z3, z4, z5, z6⟩ := hrm
  refine lv_aload_n X.1 X.2.1 d_Lw_claim_0 rfl (lv_at hl 2 rfl) ?_
  refine lv_iconst (v := 0) X.1 X.2.1 d_Lw_claim_1 (by decide) ?_
  refine lv_aload_n X.1 X.2.1 d_Lw_claim_2 rfl (lv_at hl 0 rfl) ?_
  refine lv_iload_n X.1 X.2.1 d_Lw_claim_3 rfl (lv_at hl 1 rfl) ?_
  refine r_cVX (As := [.int a0]) (rest := [.int 0, .ref (ad 17 0)]) X hml hl.1 hM hC c_Lw_33 cx_Lw_33 v_K_claim kc_K rfl h00 rfl (Nat.le_of_ble_eq_true rfl) ⟨z1, z2, by dsimp only; omega, by dsimp only; omega⟩ ⟨by dsimp only; omega, by dsimp only; omega⟩ d_Lw_claim_4 (fun E ce q H locs hPx hM hy1 hy2 hy3 => ?_) ?_
  · rcases hX E hPx with rfl | rfl | rfl
    · refine vx_catch X.2.2.1 [] ⟨0, 9, 12, 13⟩ [⟨0, 9, 15, 25⟩, ⟨0, 9, 18, 19⟩] (htab.trans rfl) (fun z hz => by cases hz) rfl (by decide) (X.2.2.2.1 _ hl_13) (X.2.2.2.1 _ hc_13) hy1 hy2 hy3 ?_
      refine lv_astore_n (lv' := (3, .ref q) :: [(0, .ref (ad 0 0)), (1, .int a0), (2, .ref (ad 17 0))]) X.1 X.2.1 d_Lw_claim_12 rfl hl (by decide) rfl (fun ls hl => ?_)
      refine lv_iconst (v := 1) X.1 X.2.1 d_Lw_claim_13 (by decide) ?_
      refine vx_ret ?_
      exact m_iret X hr hlk hM d_Lw_claim_14 ⟨by omega, by omega⟩ (mExt_rf _ _) (Or.inr (Or.inl ⟨hPx, rfl, rfl, rfl⟩))
    · refine vx_catch X.2.2.1 [⟨0, 9, 12, 13⟩] ⟨0, 9, 15, 25⟩ [⟨0, 9, 18, 19⟩] (htab.trans rfl) (fun z hz => by cases List.mem_singleton.mp hz; exact Or.inr ⟨by decide, "java/lang/IllegalArgumentException", X.2.2.2.1 _ hl_13, hN _ (by decide) _ (by decide) (by decide)⟩) rfl (by decide) (X.2.2.2.1 _ hl_25) (X.2.2.2.1 _ hc_25) hy1 hy2 hy3 ?_
      refine lv_astore_n (lv' := (3, .ref q) :: [(0, .ref (ad 0 0)), (1, .int a0), (2, .ref (ad 17 0))]) X.1 X.2.1 d_Lw_claim_15 rfl hl (by decide) rfl (fun ls hl => ?_)
      refine lv_iconst (v := 2) X.1 X.2.1 d_Lw_claim_16 (by decide) ?_
      refine vx_ret ?_
      exact m_iret X hr hlk hM d_Lw_claim_17 ⟨by omega, by omega⟩ (mExt_rf _ _) (Or.inr (Or.inr (Or.inl ⟨hPx, rfl, rfl, rfl⟩)))
    · refine vx_catch X.2.2.1 [⟨0, 9, 12, 13⟩, ⟨0, 9, 15, 25⟩] ⟨0, 9, 18, 19⟩ [] (htab.trans rfl) (fun z hz => by
        rcases List.mem_cons.mp hz with rfl | hz
        · exact Or.inr ⟨by decide, "java/lang/IllegalArgumentException", X.2.2.2.1 _ hl_13, hN _ (by decide) _ (by decide) (by decide)⟩
        · cases List.mem_singleton.mp hz; exact Or.inr ⟨by decide, "java/util/NoSuchElementException", X.2.2.2.1 _ hl_25, hN _ (by decide) _ (by decide) (by decide)⟩) rfl (by decide) (X.2.2.2.1 _ hl_19) (X.2.2.2.1 _ hc_19) hy1 hy2 hy3 ?_
      refine lv_astore_n (lv' := (3, .ref q) :: [(0, .ref (ad 0 0)), (1, .int a0), (2, .ref (ad 17 0))]) X.1 X.2.1 d_Lw_claim_18 rfl hl (by decide) rfl (fun ls hl => ?_)
      refine lv_iconst (v := 3) X.1 X.2.1 d_Lw_claim_19 (by decide) ?_
      refine vx_ret ?_
      exact m_iret X hr hlk hM d_Lw_claim_20 ⟨by omega, by omega⟩ (mExt_rf _ _) (Or.inr (Or.inr (Or.inr (⟨hPx, rfl, rfl, rfl⟩))))
  · intro rv N ad1 H locs hPv hM hE
    obtain ⟨r, e1⟩ := hP _ _ _ hPv
    subst e1
    refine lv_i2l X.1 X.2.1 d_Lw_claim_7 rfl ?_
    refine r_last X hM (hE.1 17 0 h17) (Nat.lt_of_lt_of_le h17 (hE.2 17)) a_out (fun _ => rfl) (j := 0) rfl (by decide) d_Lw_claim_8 (fun H locs hM => ?_)
    refine lv_goto (tgt := 21) X.1 X.2.1 d_Lw_claim_9 (by decide) ?_
    refine lv_iconst (v := 0) X.1 X.2.1 d_Lw_claim_21 (by decide) ?_
    refine vx_ret ?_
    exact m_iret X hr hlk hM d_Lw_claim_22 ⟨by omega, by omega⟩ hE (Or.inl ⟨N, ⟨r, hPv, rfl, rfl⟩⟩)
theorem d_Lw_skip_0 : decode b_Lw_skip 0 = .ok (.aload_n 2, 1) := by decide +kernel
theorem d_Lw_skip_1 : decode b_Lw_skip 1 = .ok (.iconst 0, 1) := by decide +kernel
theorem d_Lw_skip_2 : decode b_Lw_skip 2 = .ok (.aload_n 0, 1) := by decide +kernel
theorem d_Lw_skip_3 : decode b_Lw_skip 3 = .ok (.iload_n 1, 1) := by decide +kernel
theorem d_Lw_skip_4 : decode b_Lw_skip 4 = .ok (.invokevirtual 36, 3) := by decide +kernel
theorem d_Lw_skip_7 : decode b_Lw_skip 7 = .ok (.i2l, 1) := by decide +kernel
theorem d_Lw_skip_8 : decode b_Lw_skip 8 = .ok (.lastore, 1) := by decide +kernel
theorem d_Lw_skip_9 : decode b_Lw_skip 9 = .ok (.goto 12, 3) := by decide +kernel
theorem d_Lw_skip_12 : decode b_Lw_skip 12 = .ok (.astore_n 3, 1) := by decide +kernel
theorem d_Lw_skip_13 : decode b_Lw_skip 13 = .ok (.iconst 1, 1) := by decide +kernel
theorem d_Lw_skip_14 : decode b_Lw_skip 14 = .ok (.ireturn, 1) := by decide +kernel
theorem d_Lw_skip_15 : decode b_Lw_skip 15 = .ok (.astore_n 3, 1) := by decide +kernel
theorem d_Lw_skip_16 : decode b_Lw_skip 16 = .ok (.iconst 2, 1) := by decide +kernel
theorem d_Lw_skip_17 : decode b_Lw_skip 17 = .ok (.ireturn, 1) := by decide +kernel
theorem d_Lw_skip_18 : decode b_Lw_skip 18 = .ok (.astore_n 3, 1) := by decide +kernel
theorem d_Lw_skip_19 : decode b_Lw_skip 19 = .ok (.iconst 3, 1) := by decide +kernel
theorem d_Lw_skip_20 : decode b_Lw_skip 20 = .ok (.ireturn, 1) := by decide +kernel
theorem d_Lw_skip_21 : decode b_Lw_skip 21 = .ok (.iconst 0, 1) := by decide +kernel
theorem d_Lw_skip_22 : decode b_Lw_skip 22 = .ok (.ireturn, 1) := by decide +kernel
theorem cx_Lw_36 : Cond.methodLink "ScopeKeeperLaw" 36 y_K_skip ∈ gw := gwm (lt3 64 rfl) rfl
theorem hw_Lw_skip : Cond.codeWith y_Lw_skip b_Lw_skip 4 (some FieldType.int) [(0, 9, 12, 13), (0, 9, 15, 25), (0, 9, 18, 19)] ∈ gw := gwm (lt3 63 rfl) rfl
set_option maxHeartbeats 4000000 in
set_option maxRecDepth 100000 in
theorem k_Lw_skip (l : Launch) (D : va_G) (dA : Nat → ClassId) (base : Nat) (M : mM) (ad : Nat → Nat → Nat) (a0 : Int32) (h00 : 0 < gn M 0) (h17 : 0 < gn M 17) (P : Option Value → mM → (Nat → Nat → Nat) → Prop) (PX : String → Prop) (rm : Room) (mc ms : Nat) (hrm : rm.cells = mc ∧ rm.slots = ms ∧ rm.frames ≤ 8 ∧ rm.locals ≤ 260 ∧ mc ≤ 8 ∧ ms ≤ 40) (hC : mMetX l y_K_skip b_K_skip 4 (some FieldType.int) rm mc ms D dA base M ad [.ref (ad 0 0), .int a0] P PX) (hP : ∀ rv N ad1, P rv N ad1 → ∃ r, rv = some (.int r)) (hX : ∀ E, PX E → E = "java/lang/IllegalArgumentException" ∨ E = "java/util/NoSuchElementException" ∨ E = "java/lang/IllegalStateException") : mMetH l y_Lw_skip b_Lw_skip 4 (some FieldType.int) [(0, 9, 12, 13), (0, 9, 15, 25), (0, 9, 18, 19)] ({ frames := 9, cells := 8, slots := 40, locals := 300 } : Room) 8 40 D dA base M ad [.ref (ad 0 0), .int a0, .ref (ad 17 0)] (fun rv M1 ad1 => (∃ N, (∃ r, P (some (.int r)) N ad1 ∧ rv = some (.int 0) ∧ M1 = sl N 17 0 0 r.toInt64)) ∨ (PX "java/lang/IllegalArgumentException" ∧ rv = some (.int 1) ∧ M1 = M ∧ ad1 = ad) ∨ (PX "java/util/NoSuchElementException" ∧ rv = some (.int 2) ∧ M1 = M ∧ ad1 = ad) ∨ (PX "java/lang/IllegalStateException" ∧ rv = some (.int 3) ∧ M1 = M ∧ ad1 = ad)) := by
  refine m_startH (lvs := [(0, .ref (ad 0 0)), (1, .int a0), (2, .ref (ad 17 0))]) (by decide) (Nat.le_of_ble_eq_true rfl) rfl ?_
  intro p e s m below meth c ls X hr hlk hml hM hl htab hN
  obtain ⟨z1, z2, z3, z4, z5, z6⟩ := hrm
  refine lv_aload_n X.1 X.2.1 d_Lw_skip_0 rfl (lv_at hl 2 rfl) ?_
  refine lv_iconst (v := 0) X.1 X.2.1 d_Lw_skip_1 (by decide) ?_
  refine lv_aload_n X.1 X.2.1 d_Lw_skip_2 rfl (lv_at hl 0 rfl) ?_
  refine lv_iload_n X.1 X.2.1 d_Lw_skip_3 rfl (lv_at hl 1 rfl) ?_
  refine r_cVX (As := [.int a0]) (rest := [.int 0, .ref (ad 17 0)]) X hml hl.1 hM hC c_Lw_36 cx_Lw_36 v_K_skip kc_K rfl h00 rfl (Nat.le_of_ble_eq_true rfl) ⟨z1, z2, by dsimp only; omega, by dsimp only; omega⟩ ⟨by dsimp only; omega, by dsimp only; omega⟩ d_Lw_skip_4 (fun E ce q H locs hPx hM hy1 hy2 hy3 => ?_) ?_
  · rcases hX E hPx with rfl | rfl | rfl
    · refine vx_catch X.2.2.1 [] ⟨0, 9, 12, 13⟩ [⟨0, 9, 15, 25⟩, ⟨0, 9, 18, 19⟩] (htab.trans rfl) (fun z hz => by cases hz) rfl (by decide) (X.2.2.2.1 _ hl_13) (X.2.2.2.1 _ hc_13) hy1 hy2 hy3 ?_
      refine lv_astore_n (lv' := (3, .ref q) :: [(0, .ref (ad 0 0)), (1, .int a0), (2, .ref (ad 17 0))]) X.1 X.2.1 d_Lw_skip_12 rfl hl (by decide) rfl (fun ls hl => ?_)
      refine lv_iconst (v := 1) X.1 X.2.1 d_Lw_skip_13 (by decide) ?_
      refine vx_ret ?_
      exact m_iret X hr hlk hM d_Lw_skip_14 ⟨by omega, by omega⟩ (mExt_rf _ _) (Or.inr (Or.inl ⟨hPx, rfl, rfl, rfl⟩))
    · refine vx_catch X.2.2.1 [⟨0, 9, 12, 13⟩] ⟨0, 9, 15, 25⟩ [⟨0, 9, 18, 19⟩] (htab.trans rfl) (fun z hz => by cases List.mem_singleton.mp hz; exact Or.inr ⟨by decide, "java/lang/IllegalArgumentException", X.2.2.2.1 _ hl_13, hN _ (by decide) _ (by decide) (by decide)⟩) rfl (by decide) (X.2.2.2.1 _ hl_25) (X.2.2.2.1 _ hc_25) hy1 hy2 hy3 ?_
      refine lv_astore_n (lv' := (3, .ref q) :: [(0, .ref (ad 0 0)), (1, .int a0), (2, .ref (ad 17 0))]) X.1 X.2.1 d_Lw_skip_15 rfl hl (by decide) rfl (fun ls hl => ?_)
      refine lv_iconst (v := 2) X.1 X.2.1 d_Lw_skip_16 (by decide) ?_
      refine vx_ret ?_
      exact m_iret X hr hlk hM d_Lw_skip_17 ⟨by omega, by omega⟩ (mExt_rf _ _) (Or.inr (Or.inr (Or.inl ⟨hPx, rfl, rfl, rfl⟩)))
    · refine vx_catch X.2.2.1 [⟨0, 9, 12, 13⟩, ⟨0, 9, 15, 25⟩] ⟨0, 9, 18, 19⟩ [] (htab.trans rfl) (fun z hz => by
        rcases List.mem_cons.mp hz with rfl | hz
        · exact Or.inr ⟨by decide, "java/lang/IllegalArgumentException", X.2.2.2.1 _ hl_13, hN _ (by decide) _ (by decide) (by decide)⟩
        · cases List.mem_singleton.mp hz; exact Or.inr ⟨by decide, "java/util/NoSuchElementException", X.2.2.2.1 _ hl_25, hN _ (by decide) _ (by decide) (by decide)⟩) rfl (by decide) (X.2.2.2.1 _ hl_19) (X.2.2.2.1 _ hc_19) hy1 hy2 hy3 ?_
      refine lv_astore_n (lv' := (3, .ref q) :: [(0, .ref (ad 0 0)), (1, .int a0), (2, .ref (ad 17 0))]) X.1 X.2.1 d_Lw_skip_18 rfl hl (by decide) rfl (fun ls hl => ?_)
      refine lv_iconst (v := 3) X.1 X.2.1 d_Lw_skip_19 (by decide) ?_
      refine vx_ret ?_
      exact m_iret X hr hlk hM d_Lw_skip_20 ⟨by omega, by omega⟩ (mExt_rf _ _) (Or.inr (Or.inr (Or.inr (⟨hPx, rfl, rfl, rfl⟩))))
  · intro rv N ad1 H locs hPv hM hE
    obtain ⟨r, e1⟩ := hP _ _ _ hPv
    subst e1
    refine lv_i2l X.1 X.2.1 d_Lw_skip_7 rfl ?_
    refine r_last X hM (hE.1 17 0 h17) (Nat.lt_of_lt_of_le h17 (hE.2 17)) a_out (fun _ => rfl) (j := 0) rfl (by decide) d_Lw_skip_8 (fun H locs hM => ?_)
    refine lv_goto (tgt := 21) X.1 X.2.1 d_Lw_skip_9 (by decide) ?_
    refine lv_iconst (v := 0) X.1 X.2.1 d_Lw_skip_21 (by decide) ?_
    refine vx_ret ?_
    exact m_iret X hr hlk hM d_Lw_skip_22 ⟨by omega, by omega⟩ hE (Or.inl ⟨N, ⟨r, hPv, rfl, rfl⟩⟩)
theorem d_Lw_fetch_0 : decode b_Lw_fetch 0 = .ok (.aload_n 3, 1) := by decide +kernel
theorem d_Lw_fetch_1 : decode b_Lw_fetch 1 = .ok (.iconst 0, 1) := by decide +kernel
theorem d_Lw_fetch_2 : decode b_Lw_fetch 2 = .ok (.aload_n 0, 1) := by decide +kernel
theorem d_Lw_fetch_3 : decode b_Lw_fetch 3 = .ok (.iload_n 1, 1) := by decide +kernel
theorem d_Lw_fetch_4 : decode b_Lw_fetch 4 = .ok (.iload_n 2, 1) := by decide +kernel
theorem d_Lw_fetch_5 : decode b_Lw_fetch 5 = .ok (.invokevirtual 39, 3) := by decide +kernel
theorem d_Lw_fetch_8 : decode b_Lw_fetch 8 = .ok (.i2l, 1) := by decide +kernel
theorem d_Lw_fetch_9 : decode b_Lw_fetch 9 = .ok (.lastore, 1) := by decide +kernel
theorem d_Lw_fetch_10 : decode b_Lw_fetch 10 = .ok (.goto 15, 3) := by decide +kernel
theorem d_Lw_fetch_13 : decode b_Lw_fetch 13 = .ok (.astore 4, 2) := by decide +kernel
theorem d_Lw_fetch_15 : decode b_Lw_fetch 15 = .ok (.iconst 1, 1) := by decide +kernel
theorem d_Lw_fetch_16 : decode b_Lw_fetch 16 = .ok (.ireturn, 1) := by decide +kernel
theorem d_Lw_fetch_17 : decode b_Lw_fetch 17 = .ok (.astore 4, 2) := by decide +kernel
theorem d_Lw_fetch_19 : decode b_Lw_fetch 19 = .ok (.iconst 2, 1) := by decide +kernel
theorem d_Lw_fetch_20 : decode b_Lw_fetch 20 = .ok (.ireturn, 1) := by decide +kernel
theorem d_Lw_fetch_21 : decode b_Lw_fetch 21 = .ok (.astore 4, 2) := by decide +kernel
theorem d_Lw_fetch_23 : decode b_Lw_fetch 23 = .ok (.iconst 3, 1) := by decide +kernel
theorem d_Lw_fetch_24 : decode b_Lw_fetch 24 = .ok (.ireturn, 1) := by decide +kernel
theorem d_Lw_fetch_25 : decode b_Lw_fetch 25 = .ok (.iconst 0, 1) := by decide +kernel
theorem d_Lw_fetch_26 : decode b_Lw_fetch 26 = .ok (.ireturn, 1) := by decide +kernel
theorem cx_Lw_39 : Cond.methodLink "ScopeKeeperLaw" 39 y_K_fetch ∈ gw := gwm (lt3 73 rfl) rfl
theorem hw_Lw_fetch : Cond.codeWith y_Lw_fetch b_Lw_fetch 5 (some FieldType.int) [(0, 10, 13, 13), (0, 10, 17, 25), (0, 10, 21, 43)] ∈ gw := gwm (lt3 71 rfl) rfl
set_option maxHeartbeats 4000000 in
set_option maxRecDepth 100000 in
theorem k_Lw_fetch (l : Launch) (D : va_G) (dA : Nat → ClassId) (base : Nat) (M : mM) (ad : Nat → Nat → Nat) (a0 a1 : Int32) (h00 : 0 < gn M 0) (h17 : 0 < gn M 17) (P : Option Value → mM → (Nat → Nat → Nat) → Prop) (PX : String → Prop) (rm : Room) (mc ms : Nat) (hrm : rm.cells = mc ∧ rm.slots = ms ∧ rm.frames ≤ 8 ∧ rm.locals ≤ 260 ∧ mc ≤ 8 ∧ ms ≤ 40) (hC : mMetX l y_K_fetch b_K_fetch 8 (some FieldType.int) rm mc ms D dA base M ad [.ref (ad 0 0), .int a0, .int a1] P PX) (hP : ∀ rv N ad1, P rv N ad1 → ∃ r, rv = some (.int r)) (hX : ∀ E, PX E → E = "java/lang/IllegalArgumentException" ∨ E = "java/util/NoSuchElementException" ∨ E = "java/lang/UnsupportedOperationException") : mMetH l y_Lw_fetch b_Lw_fetch 5 (some FieldType.int) [(0, 10, 13, 13), (0, 10, 17, 25), (0, 10, 21, 43)] ({ frames := 9, cells := 8, slots := 40, locals := 300 } : Room) 8 40 D dA base M ad [.ref (ad 0 0), .int a0, .int a1, .ref (ad 17 0)] (fun rv M1 ad1 => (∃ N, (∃ r, P (some (.int r)) N ad1 ∧ rv = some (.int 0) ∧ M1 = sl N 17 0 0 r.toInt64)) ∨ (PX "java/lang/IllegalArgumentException" ∧ rv = some (.int 1) ∧ M1 = M ∧ ad1 = ad) ∨ (PX "java/util/NoSuchElementException" ∧ rv = some (.int 2) ∧ M1 = M ∧ ad1 = ad) ∨ (PX "java/lang/UnsupportedOperationException" ∧ rv = some (.int 3) ∧ M1 = M ∧ ad1 = ad)) := by
  refine m_startH (lvs := [(0, .ref (ad 0 0)), (1, .int a0), (2, .int a1), (3, .ref (ad 17 0))]) (by decide) (Nat.le_of_ble_eq_true rfl) rfl ?_
  intro p e s m below meth c ls X hr hlk hml hM hl htab hN
  obtain ⟨z1, z2, z3, z4, z5, z6⟩ := hrm
  refine lv_aload_n X.1 X.2.1 d_Lw_fetch_0 rfl (lv_at hl 3 rfl) ?_
  refine lv_iconst (v := 0) X.1 X.2.1 d_Lw_fetch_1 (by decide) ?_
  refine lv_aload_n X.1 X.2.1 d_Lw_fetch_2 rfl (lv_at hl 0 rfl) ?_
  refine lv_iload_n X.1 X.2.1 d_Lw_fetch_3 rfl (lv_at hl 1 rfl) ?_
  refine lv_iload_n X.1 X.2.1 d_Lw_fetch_4 rfl (lv_at hl 2 rfl) ?_
  refine r_cVX (As := [.int a0, .int a1]) (rest := [.int 0, .ref (ad 17 0)]) X hml hl.1 hM hC c_Lw_39 cx_Lw_39 v_K_fetch kc_K rfl h00 rfl (Nat.le_of_ble_eq_true rfl) ⟨z1, z2, by dsimp only; omega, by dsimp only; omega⟩ ⟨by dsimp only; omega, by dsimp only; omega⟩ d_Lw_fetch_5 (fun E ce q H locs hPx hM hy1 hy2 hy3 => ?_) ?_
  · rcases hX E hPx with rfl | rfl | rfl
    · refine vx_catch X.2.2.1 [] ⟨0, 10, 13, 13⟩ [⟨0, 10, 17, 25⟩, ⟨0, 10, 21, 43⟩] (htab.trans rfl) (fun z hz => by cases hz) rfl (by decide) (X.2.2.2.1 _ hl_13) (X.2.2.2.1 _ hc_13) hy1 hy2 hy3 ?_
      refine lv_astore (lv' := (4, .ref q) :: [(0, .ref (ad 0 0)), (1, .int a0), (2, .int a1), (3, .ref (ad 17 0))]) X.1 X.2.1 d_Lw_fetch_13 hl (by decide) rfl (fun ls hl => ?_)
      refine lv_iconst (v := 1) X.1 X.2.1 d_Lw_fetch_15 (by decide) ?_
      refine vx_ret ?_
      exact m_iret X hr hlk hM d_Lw_fetch_16 ⟨by omega, by omega⟩ (mExt_rf _ _) (Or.inr (Or.inl ⟨hPx, rfl, rfl, rfl⟩))
    · refine vx_catch X.2.2.1 [⟨0, 10, 13, 13⟩] ⟨0, 10, 17, 25⟩ [⟨0, 10, 21, 43⟩] (htab.trans rfl) (fun z hz => by cases List.mem_singleton.mp hz; exact Or.inr ⟨by decide, "java/lang/IllegalArgumentException", X.2.2.2.1 _ hl_13, hN _ (by decide) _ (by decide) (by decide)⟩) rfl (by decide) (X.2.2.2.1 _ hl_25) (X.2.2.2.1 _ hc_25) hy1 hy2 hy3 ?_
      refine lv_astore (lv' := (4, .ref q) :: [(0, .ref (ad 0 0)), (1, .int a0), (2, .int a1), (3, .ref (ad 17 0))]) X.1 X.2.1 d_Lw_fetch_17 hl (by decide) rfl (fun ls hl => ?_)
      refine lv_iconst (v := 2) X.1 X.2.1 d_Lw_fetch_19 (by decide) ?_
      refine vx_ret ?_
      exact m_iret X hr hlk hM d_Lw_fetch_20 ⟨by omega, by omega⟩ (mExt_rf _ _) (Or.inr (Or.inr (Or.inl ⟨hPx, rfl, rfl, rfl⟩)))
    · refine vx_catch X.2.2.1 [⟨0, 10, 13, 13⟩, ⟨0, 10, 17, 25⟩] ⟨0, 10, 21, 43⟩ [] (htab.trans rfl) (fun z hz => by
        rcases List.mem_cons.mp hz with rfl | hz
        · exact Or.inr ⟨by decide, "java/lang/IllegalArgumentException", X.2.2.2.1 _ hl_13, hN _ (by decide) _ (by decide) (by decide)⟩
        · cases List.mem_singleton.mp hz; exact Or.inr ⟨by decide, "java/util/NoSuchElementException", X.2.2.2.1 _ hl_25, hN _ (by decide) _ (by decide) (by decide)⟩) rfl (by decide) (X.2.2.2.1 _ hl_43) (X.2.2.2.1 _ hc_43) hy1 hy2 hy3 ?_
      refine lv_astore (lv' := (4, .ref q) :: [(0, .ref (ad 0 0)), (1, .int a0), (2, .int a1), (3, .ref (ad 17 0))]) X.1 X.2.1 d_Lw_fetch_21 hl (by decide) rfl (fun ls hl => ?_)
      refine lv_iconst (v := 3) X.1 X.2.1 d_Lw_fetch_23 (by decide) ?_
      refine vx_ret ?_
      exact m_iret X hr hlk hM d_Lw_fetch_24 ⟨by omega, by omega⟩ (mExt_rf _ _) (Or.inr (Or.inr (Or.inr (⟨hPx, rfl, rfl, rfl⟩))))
  · intro rv N ad1 H locs hPv hM hE
    obtain ⟨r, e1⟩ := hP _ _ _ hPv
    subst e1
    refine lv_i2l X.1 X.2.1 d_Lw_fetch_8 rfl ?_
    refine r_last X hM (hE.1 17 0 h17) (Nat.lt_of_lt_of_le h17 (hE.2 17)) a_out (fun _ => rfl) (j := 0) rfl (by decide) d_Lw_fetch_9 (fun H locs hM => ?_)
    refine lv_goto (tgt := 25) X.1 X.2.1 d_Lw_fetch_10 (by decide) ?_
    refine lv_iconst (v := 0) X.1 X.2.1 d_Lw_fetch_25 (by decide) ?_
    refine vx_ret ?_
    exact m_iret X hr hlk hM d_Lw_fetch_26 ⟨by omega, by omega⟩ hE (Or.inl ⟨N, ⟨r, hPv, rfl, rfl⟩⟩)
theorem d_Lw_registration_0 : decode b_Lw_registration 0 = .ok (.aload_n 3, 1) := by decide +kernel
theorem d_Lw_registration_1 : decode b_Lw_registration 1 = .ok (.iconst 0, 1) := by decide +kernel
theorem d_Lw_registration_2 : decode b_Lw_registration 2 = .ok (.aload_n 0, 1) := by decide +kernel
theorem d_Lw_registration_3 : decode b_Lw_registration 3 = .ok (.iload_n 1, 1) := by decide +kernel
theorem d_Lw_registration_4 : decode b_Lw_registration 4 = .ok (.iload_n 2, 1) := by decide +kernel
theorem d_Lw_registration_5 : decode b_Lw_registration 5 = .ok (.invokevirtual 45, 3) := by decide +kernel
theorem d_Lw_registration_8 : decode b_Lw_registration 8 = .ok (.i2l, 1) := by decide +kernel
theorem d_Lw_registration_9 : decode b_Lw_registration 9 = .ok (.lastore, 1) := by decide +kernel
theorem d_Lw_registration_10 : decode b_Lw_registration 10 = .ok (.goto 11, 3) := by decide +kernel
theorem d_Lw_registration_13 : decode b_Lw_registration 13 = .ok (.astore 4, 2) := by decide +kernel
theorem d_Lw_registration_15 : decode b_Lw_registration 15 = .ok (.iconst 1, 1) := by decide +kernel
theorem d_Lw_registration_16 : decode b_Lw_registration 16 = .ok (.ireturn, 1) := by decide +kernel
theorem d_Lw_registration_17 : decode b_Lw_registration 17 = .ok (.astore 4, 2) := by decide +kernel
theorem d_Lw_registration_19 : decode b_Lw_registration 19 = .ok (.iconst 2, 1) := by decide +kernel
theorem d_Lw_registration_20 : decode b_Lw_registration 20 = .ok (.ireturn, 1) := by decide +kernel
theorem d_Lw_registration_21 : decode b_Lw_registration 21 = .ok (.iconst 0, 1) := by decide +kernel
theorem d_Lw_registration_22 : decode b_Lw_registration 22 = .ok (.ireturn, 1) := by decide +kernel
theorem cx_Lw_45 : Cond.methodLink "ScopeKeeperLaw" 45 y_K_registration ∈ gw := gwm (lt3 125 rfl) rfl
theorem hw_Lw_registration : Cond.codeWith y_Lw_registration b_Lw_registration 5 (some FieldType.int) [(0, 10, 13, 13), (0, 10, 17, 25)] ∈ gw := gwm (lt3 124 rfl) rfl
set_option maxHeartbeats 4000000 in
set_option maxRecDepth 100000 in
theorem k_Lw_registration (l : Launch) (D : va_G) (dA : Nat → ClassId) (base : Nat) (M : mM) (ad : Nat → Nat → Nat) (a0 a1 : Int32) (h00 : 0 < gn M 0) (h17 : 0 < gn M 17) (P : Option Value → mM → (Nat → Nat → Nat) → Prop) (PX : String → Prop) (rm : Room) (mc ms : Nat) (hrm : rm.cells = mc ∧ rm.slots = ms ∧ rm.frames ≤ 8 ∧ rm.locals ≤ 260 ∧ mc ≤ 8 ∧ ms ≤ 40) (hC : mMetX l y_K_registration b_K_registration 4 (some FieldType.int) rm mc ms D dA base M ad [.ref (ad 0 0), .int a0, .int a1] P PX) (hP : ∀ rv N ad1, P rv N ad1 → ∃ r, rv = some (.int r)) (hX : ∀ E, PX E → E = "java/lang/IllegalArgumentException" ∨ E = "java/util/NoSuchElementException") : mMetH l y_Lw_registration b_Lw_registration 5 (some FieldType.int) [(0, 10, 13, 13), (0, 10, 17, 25)] ({ frames := 9, cells := 8, slots := 40, locals := 300 } : Room) 8 40 D dA base M ad [.ref (ad 0 0), .int a0, .int a1, .ref (ad 17 0)] (fun rv M1 ad1 => (∃ N, (∃ r, P (some (.int r)) N ad1 ∧ rv = some (.int 0) ∧ M1 = sl N 17 0 0 r.toInt64)) ∨ (PX "java/lang/IllegalArgumentException" ∧ rv = some (.int 1) ∧ M1 = M ∧ ad1 = ad) ∨ (PX "java/util/NoSuchElementException" ∧ rv = some (.int 2) ∧ M1 = M ∧ ad1 = ad)) := by
  refine m_startH (lvs := [(0, .ref (ad 0 0)), (1, .int a0), (2, .int a1), (3, .ref (ad 17 0))]) (by decide) (Nat.le_of_ble_eq_true rfl) rfl ?_
  intro p e s m below meth c ls X hr hlk hml hM hl htab hN
  obtain ⟨z1, z2, z3, z4, z5, z6⟩ := hrm
  refine lv_aload_n X.1 X.2.1 d_Lw_registration_0 rfl (lv_at hl 3 rfl) ?_
  refine lv_iconst (v := 0) X.1 X.2.1 d_Lw_registration_1 (by decide) ?_
  refine lv_aload_n X.1 X.2.1 d_Lw_registration_2 rfl (lv_at hl 0 rfl) ?_
  refine lv_iload_n X.1 X.2.1 d_Lw_registration_3 rfl (lv_at hl 1 rfl) ?_
  refine lv_iload_n X.1 X.2.1 d_Lw_registration_4 rfl (lv_at hl 2 rfl) ?_
  refine r_cVX (As := [.int a0, .int a1]) (rest := [.int 0, .ref (ad 17 0)]) X hml hl.1 hM hC c_Lw_45 cx_Lw_45 v_K_registration kc_K rfl h00 rfl (Nat.le_of_ble_eq_true rfl) ⟨z1, z2, by dsimp only; omega, by dsimp only; omega⟩ ⟨by dsimp only; omega, by dsimp only; omega⟩ d_Lw_registration_5 (fun E ce q H locs hPx hM hy1 hy2 hy3 => ?_) ?_
  · rcases hX E hPx with rfl | rfl
    · refine vx_catch X.2.2.1 [] ⟨0, 10, 13, 13⟩ [⟨0, 10, 17, 25⟩] (htab.trans rfl) (fun z hz => by cases hz) rfl (by decide) (X.2.2.2.1 _ hl_13) (X.2.2.2.1 _ hc_13) hy1 hy2 hy3 ?_
      refine lv_astore (lv' := (4, .ref q) :: [(0, .ref (ad 0 0)), (1, .int a0), (2, .int a1), (3, .ref (ad 17 0))]) X.1 X.2.1 d_Lw_registration_13 hl (by decide) rfl (fun ls hl => ?_)
      refine lv_iconst (v := 1) X.1 X.2.1 d_Lw_registration_15 (by decide) ?_
      refine vx_ret ?_
      exact m_iret X hr hlk hM d_Lw_registration_16 ⟨by omega, by omega⟩ (mExt_rf _ _) (Or.inr (Or.inl ⟨hPx, rfl, rfl, rfl⟩))
    · refine vx_catch X.2.2.1 [⟨0, 10, 13, 13⟩] ⟨0, 10, 17, 25⟩ [] (htab.trans rfl) (fun z hz => by cases List.mem_singleton.mp hz; exact Or.inr ⟨by decide, "java/lang/IllegalArgumentException", X.2.2.2.1 _ hl_13, hN _ (by decide) _ (by decide) (by decide)⟩) rfl (by decide) (X.2.2.2.1 _ hl_25) (X.2.2.2.1 _ hc_25) hy1 hy2 hy3 ?_
      refine lv_astore (lv' := (4, .ref q) :: [(0, .ref (ad 0 0)), (1, .int a0), (2, .int a1), (3, .ref (ad 17 0))]) X.1 X.2.1 d_Lw_registration_17 hl (by decide) rfl (fun ls hl => ?_)
      refine lv_iconst (v := 2) X.1 X.2.1 d_Lw_registration_19 (by decide) ?_
      refine vx_ret ?_
      exact m_iret X hr hlk hM d_Lw_registration_20 ⟨by omega, by omega⟩ (mExt_rf _ _) (Or.inr (Or.inr (⟨hPx, rfl, rfl, rfl⟩)))
  · intro rv N ad1 H locs hPv hM hE
    obtain ⟨r, e1⟩ := hP _ _ _ hPv
    subst e1
    refine lv_i2l X.1 X.2.1 d_Lw_registration_8 rfl ?_
    refine r_last X hM (hE.1 17 0 h17) (Nat.lt_of_lt_of_le h17 (hE.2 17)) a_out (fun _ => rfl) (j := 0) rfl (by decide) d_Lw_registration_9 (fun H locs hM => ?_)
    refine lv_goto (tgt := 21) X.1 X.2.1 d_Lw_registration_10 (by decide) ?_
    refine lv_iconst (v := 0) X.1 X.2.1 d_Lw_registration_21 (by decide) ?_
    refine vx_ret ?_
    exact m_iret X hr hlk hM d_Lw_registration_22 ⟨by omega, by omega⟩ hE (Or.inl ⟨N, ⟨r, hPv, rfl, rfl⟩⟩)
theorem d_Lw_worker_0 : decode b_Lw_worker 0 = .ok (.aload_n 3, 1) := by decide +kernel
theorem d_Lw_worker_1 : decode b_Lw_worker 1 = .ok (.iconst 0, 1) := by decide +kernel
theorem d_Lw_worker_2 : decode b_Lw_worker 2 = .ok (.aload_n 0, 1) := by decide +kernel
theorem d_Lw_worker_3 : decode b_Lw_worker 3 = .ok (.iload_n 1, 1) := by decide +kernel
theorem d_Lw_worker_4 : decode b_Lw_worker 4 = .ok (.iload_n 2, 1) := by decide +kernel
theorem d_Lw_worker_5 : decode b_Lw_worker 5 = .ok (.invokevirtual 48, 3) := by decide +kernel
theorem d_Lw_worker_8 : decode b_Lw_worker 8 = .ok (.i2l, 1) := by decide +kernel
theorem d_Lw_worker_9 : decode b_Lw_worker 9 = .ok (.lastore, 1) := by decide +kernel
theorem d_Lw_worker_10 : decode b_Lw_worker 10 = .ok (.goto 11, 3) := by decide +kernel
theorem d_Lw_worker_13 : decode b_Lw_worker 13 = .ok (.astore 4, 2) := by decide +kernel
theorem d_Lw_worker_15 : decode b_Lw_worker 15 = .ok (.iconst 1, 1) := by decide +kernel
theorem d_Lw_worker_16 : decode b_Lw_worker 16 = .ok (.ireturn, 1) := by decide +kernel
theorem d_Lw_worker_17 : decode b_Lw_worker 17 = .ok (.astore 4, 2) := by decide +kernel
theorem d_Lw_worker_19 : decode b_Lw_worker 19 = .ok (.iconst 2, 1) := by decide +kernel
theorem d_Lw_worker_20 : decode b_Lw_worker 20 = .ok (.ireturn, 1) := by decide +kernel
theorem d_Lw_worker_21 : decode b_Lw_worker 21 = .ok (.iconst 0, 1) := by decide +kernel
theorem d_Lw_worker_22 : decode b_Lw_worker 22 = .ok (.ireturn, 1) := by decide +kernel
theorem cx_Lw_48 : Cond.methodLink "ScopeKeeperLaw" 48 y_K_worker ∈ gw := gwm (lt3 134 rfl) rfl
theorem hw_Lw_worker : Cond.codeWith y_Lw_worker b_Lw_worker 5 (some FieldType.int) [(0, 10, 13, 13), (0, 10, 17, 51)] ∈ gw := gwm (lt3 132 rfl) rfl
set_option maxHeartbeats 4000000 in
set_option maxRecDepth 100000 in
theorem k_Lw_worker (l : Launch) (D : va_G) (dA : Nat → ClassId) (base : Nat) (M : mM) (ad : Nat → Nat → Nat) (a0 a1 : Int32) (h00 : 0 < gn M 0) (h17 : 0 < gn M 17) (P : Option Value → mM → (Nat → Nat → Nat) → Prop) (PX : String → Prop) (rm : Room) (mc ms : Nat) (hrm : rm.cells = mc ∧ rm.slots = ms ∧ rm.frames ≤ 8 ∧ rm.locals ≤ 260 ∧ mc ≤ 8 ∧ ms ≤ 40) (hC : mMetX l y_K_worker b_K_worker 6 (some FieldType.int) rm mc ms D dA base M ad [.ref (ad 0 0), .int a0, .int a1] P PX) (hP : ∀ rv N ad1, P rv N ad1 → ∃ r, rv = some (.int r)) (hX : ∀ E, PX E → E = "java/lang/IllegalArgumentException" ∨ E = "java/lang/IndexOutOfBoundsException") : mMetH l y_Lw_worker b_Lw_worker 5 (some FieldType.int) [(0, 10, 13, 13), (0, 10, 17, 51)] ({ frames := 9, cells := 8, slots := 40, locals := 300 } : Room) 8 40 D dA base M ad [.ref (ad 0 0), .int a0, .int a1, .ref (ad 17 0)] (fun rv M1 ad1 => (∃ N, (∃ r, P (some (.int r)) N ad1 ∧ rv = some (.int 0) ∧ M1 = sl N 17 0 0 r.toInt64)) ∨ (PX "java/lang/IllegalArgumentException" ∧ rv = some (.int 1) ∧ M1 = M ∧ ad1 = ad) ∨ (PX "java/lang/IndexOutOfBoundsException" ∧ rv = some (.int 2) ∧ M1 = M ∧ ad1 = ad)) := by
  refine m_startH (lvs := [(0, .ref (ad 0 0)), (1, .int a0), (2, .int a1), (3, .ref (ad 17 0))]) (by decide) (Nat.le_of_ble_eq_true rfl) rfl ?_
  intro p e s m below meth c ls X hr hlk hml hM hl htab hN
  obtain ⟨z1, z2, z3, z4, z5, z6⟩ := hrm
  refine lv_aload_n X.1 X.2.1 d_Lw_worker_0 rfl (lv_at hl 3 rfl) ?_
  refine lv_iconst (v := 0) X.1 X.2.1 d_Lw_worker_1 (by decide) ?_
  refine lv_aload_n X.1 X.2.1 d_Lw_worker_2 rfl (lv_at hl 0 rfl) ?_
  refine lv_iload_n X.1 X.2.1 d_Lw_worker_3 rfl (lv_at hl 1 rfl) ?_
  refine lv_iload_n X.1 X.2.1 d_Lw_worker_4 rfl (lv_at hl 2 rfl) ?_
  refine r_cVX (As := [.int a0, .int a1]) (rest := [.int 0, .ref (ad 17 0)]) X hml hl.1 hM hC c_Lw_48 cx_Lw_48 v_K_worker kc_K rfl h00 rfl (Nat.le_of_ble_eq_true rfl) ⟨z1, z2, by dsimp only; omega, by dsimp only; omega⟩ ⟨by dsimp only; omega, by dsimp only; omega⟩ d_Lw_worker_5 (fun E ce q H locs hPx hM hy1 hy2 hy3 => ?_) ?_
  · rcases hX E hPx with rfl | rfl
    · refine vx_catch X.2.2.1 [] ⟨0, 10, 13, 13⟩ [⟨0, 10, 17, 51⟩] (htab.trans rfl) (fun z hz => by cases hz) rfl (by decide) (X.2.2.2.1 _ hl_13) (X.2.2.2.1 _ hc_13) hy1 hy2 hy3 ?_
      refine lv_astore (lv' := (4, .ref q) :: [(0, .ref (ad 0 0)), (1, .int a0), (2, .int a1), (3, .ref (ad 17 0))]) X.1 X.2.1 d_Lw_worker_13 hl (by decide) rfl (fun ls hl => ?_)
      refine lv_iconst (v := 1) X.1 X.2.1 d_Lw_worker_15 (by decide) ?_
      refine vx_ret ?_
      exact m_iret X hr hlk hM d_Lw_worker_16 ⟨by omega, by omega⟩ (mExt_rf _ _) (Or.inr (Or.inl ⟨hPx, rfl, rfl, rfl⟩))
    · refine vx_catch X.2.2.1 [⟨0, 10, 13, 13⟩] ⟨0, 10, 17, 51⟩ [] (htab.trans rfl) (fun z hz => by cases List.mem_singleton.mp hz; exact Or.inr ⟨by decide, "java/lang/IllegalArgumentException", X.2.2.2.1 _ hl_13, hN _ (by decide) _ (by decide) (by decide)⟩) rfl (by decide) (X.2.2.2.1 _ hl_51) (X.2.2.2.1 _ hc_51) hy1 hy2 hy3 ?_
      refine lv_astore (lv' := (4, .ref q) :: [(0, .ref (ad 0 0)), (1, .int a0), (2, .int a1), (3, .ref (ad 17 0))]) X.1 X.2.1 d_Lw_worker_17 hl (by decide) rfl (fun ls hl => ?_)
      refine lv_iconst (v := 2) X.1 X.2.1 d_Lw_worker_19 (by decide) ?_
      refine vx_ret ?_
      exact m_iret X hr hlk hM d_Lw_worker_20 ⟨by omega, by omega⟩ (mExt_rf _ _) (Or.inr (Or.inr (⟨hPx, rfl, rfl, rfl⟩)))
  · intro rv N ad1 H locs hPv hM hE
    obtain ⟨r, e1⟩ := hP _ _ _ hPv
    subst e1
    refine lv_i2l X.1 X.2.1 d_Lw_worker_8 rfl ?_
    refine r_last X hM (hE.1 17 0 h17) (Nat.lt_of_lt_of_le h17 (hE.2 17)) a_out (fun _ => rfl) (j := 0) rfl (by decide) d_Lw_worker_9 (fun H locs hM => ?_)
    refine lv_goto (tgt := 21) X.1 X.2.1 d_Lw_worker_10 (by decide) ?_
    refine lv_iconst (v := 0) X.1 X.2.1 d_Lw_worker_21 (by decide) ?_
    refine vx_ret ?_
    exact m_iret X hr hlk hM d_Lw_worker_22 ⟨by omega, by omega⟩ hE (Or.inl ⟨N, ⟨r, hPv, rfl, rfl⟩⟩)
theorem d_Lw_outcome_0 : decode b_Lw_outcome 0 = .ok (.aload_n 2, 1) := by decide +kernel
theorem d_Lw_outcome_1 : decode b_Lw_outcome 1 = .ok (.iconst 0, 1) := by decide +kernel
theorem d_Lw_outcome_2 : decode b_Lw_outcome 2 = .ok (.aload_n 0, 1) := by decide +kernel
theorem d_Lw_outcome_3 : decode b_Lw_outcome 3 = .ok (.iload_n 1, 1) := by decide +kernel
theorem d_Lw_outcome_4 : decode b_Lw_outcome 4 = .ok (.invokevirtual 53, 3) := by decide +kernel
theorem d_Lw_outcome_7 : decode b_Lw_outcome 7 = .ok (.i2l, 1) := by decide +kernel
theorem d_Lw_outcome_8 : decode b_Lw_outcome 8 = .ok (.lastore, 1) := by decide +kernel
theorem d_Lw_outcome_9 : decode b_Lw_outcome 9 = .ok (.goto 6, 3) := by decide +kernel
theorem d_Lw_outcome_12 : decode b_Lw_outcome 12 = .ok (.astore_n 3, 1) := by decide +kernel
theorem d_Lw_outcome_13 : decode b_Lw_outcome 13 = .ok (.iconst 1, 1) := by decide +kernel
theorem d_Lw_outcome_14 : decode b_Lw_outcome 14 = .ok (.ireturn, 1) := by decide +kernel
theorem d_Lw_outcome_15 : decode b_Lw_outcome 15 = .ok (.iconst 0, 1) := by decide +kernel
theorem d_Lw_outcome_16 : decode b_Lw_outcome 16 = .ok (.ireturn, 1) := by decide +kernel
theorem cx_Lw_53 : Cond.methodLink "ScopeKeeperLaw" 53 y_K_outcome ∈ gw := gwm (lt3 165 rfl) rfl
theorem hw_Lw_outcome : Cond.codeWith y_Lw_outcome b_Lw_outcome 4 (some FieldType.int) [(0, 9, 12, 51)] ∈ gw := gwm (lt3 164 rfl) rfl
set_option maxHeartbeats 4000000 in
set_option maxRecDepth 100000 in
theorem k_Lw_outcome (l : Launch) (D : va_G) (dA : Nat → ClassId) (base : Nat) (M : mM) (ad : Nat → Nat → Nat) (a0 : Int32) (h00 : 0 < gn M 0) (h17 : 0 < gn M 17) (P : Option Value → mM → (Nat → Nat → Nat) → Prop) (PX : String → Prop) (rm : Room) (mc ms : Nat) (hrm : rm.cells = mc ∧ rm.slots = ms ∧ rm.frames ≤ 8 ∧ rm.locals ≤ 260 ∧ mc ≤ 8 ∧ ms ≤ 40) (hC : mMetX l y_K_outcome b_K_outcome 2 (some FieldType.int) rm mc ms D dA base M ad [.ref (ad 0 0), .int a0] P PX) (hP : ∀ rv N ad1, P rv N ad1 → ∃ r, rv = some (.int r)) (hX : ∀ E, PX E → E = "java/lang/IndexOutOfBoundsException") : mMetH l y_Lw_outcome b_Lw_outcome 4 (some FieldType.int) [(0, 9, 12, 51)] ({ frames := 9, cells := 8, slots := 40, locals := 300 } : Room) 8 40 D dA base M ad [.ref (ad 0 0), .int a0, .ref (ad 17 0)] (fun rv M1 ad1 => (∃ N, (∃ r, P (some (.int r)) N ad1 ∧ rv = some (.int 0) ∧ M1 = sl N 17 0 0 r.toInt64)) ∨ (PX "java/lang/IndexOutOfBoundsException" ∧ rv = some (.int 1) ∧ M1 = M ∧ ad1 = ad)) := by
  refine m_startH (lvs := [(0, .ref (ad 0 0)), (1, .int a0), (2, .ref (ad 17 0))]) (by decide) (Nat.le_of_ble_eq_true rfl) rfl ?_
  intro p e s m below meth c ls X hr hlk hml hM hl htab hN
  obtain ⟨z1, z2, z3, z4, z5, z6⟩ := hrm
  refine lv_aload_n X.1 X.2.1 d_Lw_outcome_0 rfl (lv_at hl 2 rfl) ?_
  refine lv_iconst (v := 0) X.1 X.2.1 d_Lw_outcome_1 (by decide) ?_
  refine lv_aload_n X.1 X.2.1 d_Lw_outcome_2 rfl (lv_at hl 0 rfl) ?_
  refine lv_iload_n X.1 X.2.1 d_Lw_outcome_3 rfl (lv_at hl 1 rfl) ?_
  refine r_cVX (As := [.int a0]) (rest := [.int 0, .ref (ad 17 0)]) X hml hl.1 hM hC c_Lw_53 cx_Lw_53 v_K_outcome kc_K rfl h00 rfl (Nat.le_of_ble_eq_true rfl) ⟨z1, z2, by dsimp only; omega, by dsimp only; omega⟩ ⟨by dsimp only; omega, by dsimp only; omega⟩ d_Lw_outcome_4 (fun E ce q H locs hPx hM hy1 hy2 hy3 => ?_) ?_
  · have hE9 := hX E hPx
    subst hE9
    refine vx_catch X.2.2.1 [] ⟨0, 9, 12, 51⟩ [] (htab.trans rfl) (fun z hz => by cases hz) rfl (by decide) (X.2.2.2.1 _ hl_51) (X.2.2.2.1 _ hc_51) hy1 hy2 hy3 ?_
    refine lv_astore_n (lv' := (3, .ref q) :: [(0, .ref (ad 0 0)), (1, .int a0), (2, .ref (ad 17 0))]) X.1 X.2.1 d_Lw_outcome_12 rfl hl (by decide) rfl (fun ls hl => ?_)
    refine lv_iconst (v := 1) X.1 X.2.1 d_Lw_outcome_13 (by decide) ?_
    refine vx_ret ?_
    exact m_iret X hr hlk hM d_Lw_outcome_14 ⟨by omega, by omega⟩ (mExt_rf _ _) (Or.inr (⟨hPx, rfl, rfl, rfl⟩))
  · intro rv N ad1 H locs hPv hM hE
    obtain ⟨r, e1⟩ := hP _ _ _ hPv
    subst e1
    refine lv_i2l X.1 X.2.1 d_Lw_outcome_7 rfl ?_
    refine r_last X hM (hE.1 17 0 h17) (Nat.lt_of_lt_of_le h17 (hE.2 17)) a_out (fun _ => rfl) (j := 0) rfl (by decide) d_Lw_outcome_8 (fun H locs hM => ?_)
    refine lv_goto (tgt := 15) X.1 X.2.1 d_Lw_outcome_9 (by decide) ?_
    refine lv_iconst (v := 0) X.1 X.2.1 d_Lw_outcome_15 (by decide) ?_
    refine vx_ret ?_
    exact m_iret X hr hlk hM d_Lw_outcome_16 ⟨by omega, by omega⟩ hE (Or.inl ⟨N, ⟨r, hPv, rfl, rfl⟩⟩)
theorem d_Lw_trace_0 : decode b_Lw_trace 0 = .ok (.aload_n 2, 1) := by decide +kernel
theorem d_Lw_trace_1 : decode b_Lw_trace 1 = .ok (.iconst 0, 1) := by decide +kernel
theorem d_Lw_trace_2 : decode b_Lw_trace 2 = .ok (.aload_n 0, 1) := by decide +kernel
theorem d_Lw_trace_3 : decode b_Lw_trace 3 = .ok (.iload_n 1, 1) := by decide +kernel
theorem d_Lw_trace_4 : decode b_Lw_trace 4 = .ok (.invokevirtual 56, 3) := by decide +kernel
theorem d_Lw_trace_7 : decode b_Lw_trace 7 = .ok (.i2l, 1) := by decide +kernel
theorem d_Lw_trace_8 : decode b_Lw_trace 8 = .ok (.lastore, 1) := by decide +kernel
theorem d_Lw_trace_9 : decode b_Lw_trace 9 = .ok (.goto 6, 3) := by decide +kernel
theorem d_Lw_trace_12 : decode b_Lw_trace 12 = .ok (.astore_n 3, 1) := by decide +kernel
theorem d_Lw_trace_13 : decode b_Lw_trace 13 = .ok (.iconst 1, 1) := by decide +kernel
theorem d_Lw_trace_14 : decode b_Lw_trace 14 = .ok (.ireturn, 1) := by decide +kernel
theorem d_Lw_trace_15 : decode b_Lw_trace 15 = .ok (.iconst 0, 1) := by decide +kernel
theorem d_Lw_trace_16 : decode b_Lw_trace 16 = .ok (.ireturn, 1) := by decide +kernel
theorem cx_Lw_56 : Cond.methodLink "ScopeKeeperLaw" 56 y_K_trace ∈ gw := gwm (lt3 173 rfl) rfl
theorem hw_Lw_trace : Cond.codeWith y_Lw_trace b_Lw_trace 4 (some FieldType.int) [(0, 9, 12, 51)] ∈ gw := gwm (lt3 172 rfl) rfl
set_option maxHeartbeats 4000000 in
set_option maxRecDepth 100000 in
theorem k_Lw_trace (l : Launch) (D : va_G) (dA : Nat → ClassId) (base : Nat) (M : mM) (ad : Nat → Nat → Nat) (a0 : Int32) (h00 : 0 < gn M 0) (h17 : 0 < gn M 17) (P : Option Value → mM → (Nat → Nat → Nat) → Prop) (PX : String → Prop) (rm : Room) (mc ms : Nat) (hrm : rm.cells = mc ∧ rm.slots = ms ∧ rm.frames ≤ 8 ∧ rm.locals ≤ 260 ∧ mc ≤ 8 ∧ ms ≤ 40) (hC : mMetX l y_K_trace b_K_trace 2 (some FieldType.int) rm mc ms D dA base M ad [.ref (ad 0 0), .int a0] P PX) (hP : ∀ rv N ad1, P rv N ad1 → ∃ r, rv = some (.int r)) (hX : ∀ E, PX E → E = "java/lang/IndexOutOfBoundsException") : mMetH l y_Lw_trace b_Lw_trace 4 (some FieldType.int) [(0, 9, 12, 51)] ({ frames := 9, cells := 8, slots := 40, locals := 300 } : Room) 8 40 D dA base M ad [.ref (ad 0 0), .int a0, .ref (ad 17 0)] (fun rv M1 ad1 => (∃ N, (∃ r, P (some (.int r)) N ad1 ∧ rv = some (.int 0) ∧ M1 = sl N 17 0 0 r.toInt64)) ∨ (PX "java/lang/IndexOutOfBoundsException" ∧ rv = some (.int 1) ∧ M1 = M ∧ ad1 = ad)) := by
  refine m_startH (lvs := [(0, .ref (ad 0 0)), (1, .int a0), (2, .ref (ad 17 0))]) (by decide) (Nat.le_of_ble_eq_true rfl) rfl ?_
  intro p e s m below meth c ls X hr hlk hml hM hl htab hN
  obtain ⟨z1, z2, z3, z4, z5, z6⟩ := hrm
  refine lv_aload_n X.1 X.2.1 d_Lw_trace_0 rfl (lv_at hl 2 rfl) ?_
  refine lv_iconst (v := 0) X.1 X.2.1 d_Lw_trace_1 (by decide) ?_
  refine lv_aload_n X.1 X.2.1 d_Lw_trace_2 rfl (lv_at hl 0 rfl) ?_
  refine lv_iload_n X.1 X.2.1 d_Lw_trace_3 rfl (lv_at hl 1 rfl) ?_
  refine r_cVX (As := [.int a0]) (rest := [.int 0, .ref (ad 17 0)]) X hml hl.1 hM hC c_Lw_56 cx_Lw_56 v_K_trace kc_K rfl h00 rfl (Nat.le_of_ble_eq_true rfl) ⟨z1, z2, by dsimp only; omega, by dsimp only; omega⟩ ⟨by dsimp only; omega, by dsimp only; omega⟩ d_Lw_trace_4 (fun E ce q H locs hPx hM hy1 hy2 hy3 => ?_) ?_
  · have hE9 := hX E hPx
    subst hE9
    refine vx_catch X.2.2.1 [] ⟨0, 9, 12, 51⟩ [] (htab.trans rfl) (fun z hz => by cases hz) rfl (by decide) (X.2.2.2.1 _ hl_51) (X.2.2.2.1 _ hc_51) hy1 hy2 hy3 ?_
    refine lv_astore_n (lv' := (3, .ref q) :: [(0, .ref (ad 0 0)), (1, .int a0), (2, .ref (ad 17 0))]) X.1 X.2.1 d_Lw_trace_12 rfl hl (by decide) rfl (fun ls hl => ?_)
    refine lv_iconst (v := 1) X.1 X.2.1 d_Lw_trace_13 (by decide) ?_
    refine vx_ret ?_
    exact m_iret X hr hlk hM d_Lw_trace_14 ⟨by omega, by omega⟩ (mExt_rf _ _) (Or.inr (⟨hPx, rfl, rfl, rfl⟩))
  · intro rv N ad1 H locs hPv hM hE
    obtain ⟨r, e1⟩ := hP _ _ _ hPv
    subst e1
    refine lv_i2l X.1 X.2.1 d_Lw_trace_7 rfl ?_
    refine r_last X hM (hE.1 17 0 h17) (Nat.lt_of_lt_of_le h17 (hE.2 17)) a_out (fun _ => rfl) (j := 0) rfl (by decide) d_Lw_trace_8 (fun H locs hM => ?_)
    refine lv_goto (tgt := 15) X.1 X.2.1 d_Lw_trace_9 (by decide) ?_
    refine lv_iconst (v := 0) X.1 X.2.1 d_Lw_trace_15 (by decide) ?_
    refine vx_ret ?_
    exact m_iret X hr hlk hM d_Lw_trace_16 ⟨by omega, by omega⟩ hE (Or.inl ⟨N, ⟨r, hPv, rfl, rfl⟩⟩)
theorem d_Lw_count_0 : decode b_Lw_count 0 = .ok (.aload_n 2, 1) := by decide +kernel
theorem d_Lw_count_1 : decode b_Lw_count 1 = .ok (.iconst 0, 1) := by decide +kernel
theorem d_Lw_count_2 : decode b_Lw_count 2 = .ok (.aload_n 0, 1) := by decide +kernel
theorem d_Lw_count_3 : decode b_Lw_count 3 = .ok (.iload_n 1, 1) := by decide +kernel
theorem d_Lw_count_4 : decode b_Lw_count 4 = .ok (.invokevirtual 59, 3) := by decide +kernel
theorem d_Lw_count_7 : decode b_Lw_count 7 = .ok (.i2l, 1) := by decide +kernel
theorem d_Lw_count_8 : decode b_Lw_count 8 = .ok (.lastore, 1) := by decide +kernel
theorem d_Lw_count_9 : decode b_Lw_count 9 = .ok (.goto 6, 3) := by decide +kernel
theorem d_Lw_count_12 : decode b_Lw_count 12 = .ok (.astore_n 3, 1) := by decide +kernel
theorem d_Lw_count_13 : decode b_Lw_count 13 = .ok (.iconst 1, 1) := by decide +kernel
theorem d_Lw_count_14 : decode b_Lw_count 14 = .ok (.ireturn, 1) := by decide +kernel
theorem d_Lw_count_15 : decode b_Lw_count 15 = .ok (.iconst 0, 1) := by decide +kernel
theorem d_Lw_count_16 : decode b_Lw_count 16 = .ok (.ireturn, 1) := by decide +kernel
theorem cx_Lw_59 : Cond.methodLink "ScopeKeeperLaw" 59 y_K_count ∈ gw := gwm (lt3 181 rfl) rfl
theorem hw_Lw_count : Cond.codeWith y_Lw_count b_Lw_count 4 (some FieldType.int) [(0, 9, 12, 13)] ∈ gw := gwm (lt3 180 rfl) rfl
set_option maxHeartbeats 4000000 in
set_option maxRecDepth 100000 in
theorem k_Lw_count (l : Launch) (D : va_G) (dA : Nat → ClassId) (base : Nat) (M : mM) (ad : Nat → Nat → Nat) (a0 : Int32) (h00 : 0 < gn M 0) (h17 : 0 < gn M 17) (P : Option Value → mM → (Nat → Nat → Nat) → Prop) (PX : String → Prop) (rm : Room) (mc ms : Nat) (hrm : rm.cells = mc ∧ rm.slots = ms ∧ rm.frames ≤ 8 ∧ rm.locals ≤ 260 ∧ mc ≤ 8 ∧ ms ≤ 40) (hC : mMetX l y_K_count b_K_count 3 (some FieldType.int) rm mc ms D dA base M ad [.ref (ad 0 0), .int a0] P PX) (hP : ∀ rv N ad1, P rv N ad1 → ∃ r, rv = some (.int r)) (hX : ∀ E, PX E → E = "java/lang/IllegalArgumentException") : mMetH l y_Lw_count b_Lw_count 4 (some FieldType.int) [(0, 9, 12, 13)] ({ frames := 9, cells := 8, slots := 40, locals := 300 } : Room) 8 40 D dA base M ad [.ref (ad 0 0), .int a0, .ref (ad 17 0)] (fun rv M1 ad1 => (∃ N, (∃ r, P (some (.int r)) N ad1 ∧ rv = some (.int 0) ∧ M1 = sl N 17 0 0 r.toInt64)) ∨ (PX "java/lang/IllegalArgumentException" ∧ rv = some (.int 1) ∧ M1 = M ∧ ad1 = ad)) := by
  refine m_startH (lvs := [(0, .ref (ad 0 0)), (1, .int a0), (2, .ref (ad 17 0))]) (by decide) (Nat.le_of_ble_eq_true rfl) rfl ?_
  intro p e s m below meth c ls X hr hlk hml hM hl htab hN
  obtain ⟨z1, z2, z3, z4, z5, z6⟩ := hrm
  refine lv_aload_n X.1 X.2.1 d_Lw_count_0 rfl (lv_at hl 2 rfl) ?_
  refine lv_iconst (v := 0) X.1 X.2.1 d_Lw_count_1 (by decide) ?_
  refine lv_aload_n X.1 X.2.1 d_Lw_count_2 rfl (lv_at hl 0 rfl) ?_
  refine lv_iload_n X.1 X.2.1 d_Lw_count_3 rfl (lv_at hl 1 rfl) ?_
  refine r_cVX (As := [.int a0]) (rest := [.int 0, .ref (ad 17 0)]) X hml hl.1 hM hC c_Lw_59 cx_Lw_59 v_K_count kc_K rfl h00 rfl (Nat.le_of_ble_eq_true rfl) ⟨z1, z2, by dsimp only; omega, by dsimp only; omega⟩ ⟨by dsimp only; omega, by dsimp only; omega⟩ d_Lw_count_4 (fun E ce q H locs hPx hM hy1 hy2 hy3 => ?_) ?_
  · have hE9 := hX E hPx
    subst hE9
    refine vx_catch X.2.2.1 [] ⟨0, 9, 12, 13⟩ [] (htab.trans rfl) (fun z hz => by cases hz) rfl (by decide) (X.2.2.2.1 _ hl_13) (X.2.2.2.1 _ hc_13) hy1 hy2 hy3 ?_
    refine lv_astore_n (lv' := (3, .ref q) :: [(0, .ref (ad 0 0)), (1, .int a0), (2, .ref (ad 17 0))]) X.1 X.2.1 d_Lw_count_12 rfl hl (by decide) rfl (fun ls hl => ?_)
    refine lv_iconst (v := 1) X.1 X.2.1 d_Lw_count_13 (by decide) ?_
    refine vx_ret ?_
    exact m_iret X hr hlk hM d_Lw_count_14 ⟨by omega, by omega⟩ (mExt_rf _ _) (Or.inr (⟨hPx, rfl, rfl, rfl⟩))
  · intro rv N ad1 H locs hPv hM hE
    obtain ⟨r, e1⟩ := hP _ _ _ hPv
    subst e1
    refine lv_i2l X.1 X.2.1 d_Lw_count_7 rfl ?_
    refine r_last X hM (hE.1 17 0 h17) (Nat.lt_of_lt_of_le h17 (hE.2 17)) a_out (fun _ => rfl) (j := 0) rfl (by decide) d_Lw_count_8 (fun H locs hM => ?_)
    refine lv_goto (tgt := 15) X.1 X.2.1 d_Lw_count_9 (by decide) ?_
    refine lv_iconst (v := 0) X.1 X.2.1 d_Lw_count_15 (by decide) ?_
    refine vx_ret ?_
    exact m_iret X hr hlk hM d_Lw_count_16 ⟨by omega, by omega⟩ hE (Or.inl ⟨N, ⟨r, hPv, rfl, rfl⟩⟩)
