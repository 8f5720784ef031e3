def hLk (own : String) (idx : Nat) (y : MethodName) (cc : ByteArray) (maxL : Nat) (ret : Option FieldType) (hh : List (Nat × Nat × Nat × Nat)) (n : Nat) : Prop := Cond.methodLink own idx y ∈ gw ∧ Cond.initialized y.cls ∈ gw ∧ Cond.codeWith y cc maxL ret hh ∈ gw ∧ Cond.static y ∈ gw ∧ y.cls ≠ "java/lang/invoke/MethodHandle" ∧ y.cls ≠ "java/lang/invoke/VarHandle" ∧ (parseMethodDescriptor y.desc).map (fun d => d.parameters.length) = some n
theorem r_cSH {p : Program} {l : Launch} {e : Env} {R : Room} {s : State} {m : MethodId} {args : Array Value} {below : List Frame} {meth : Method} {c : Code} {H : Heap} {locs : List Loc} {cells slots : Nat} {Q : State → Prop} {cc : ByteArray} {pc : Nat} {ls : Array Slot} {rest : List Value} {D : va_G} {dA : Nat → ClassId} {base : Nat} {M : mM} {ad : Nat → Nat → Nat} {own : String} {P : Option Value → mM → (Nat → Nat → Nat) → Prop} {mc ms : Nat} {y : MethodName} {bytes : ByteArray} {maxL nL n idx : Nat} {ret : Option FieldType} {hh : List (Nat × Nat × Nat × Nat)} {rm : Room} {As : List Value}
    (X : mCx D dA base p s m args c cc own) (hml : c.maxLocals = nL) (hsz : ls.size = nL) (hM : mSt D dA base M ad s.heap H locs) (hN : mN s) (hC : mMetH l y bytes maxL ret hh rm mc ms D dA base M ad As P) (hk : hLk own idx y bytes maxL ret hh n) (hn : As.length = n) (hcat : (rest.map fun v => v.category).sum ≤ 8)
    (hroom : rm.cells = mc ∧ rm.slots = ms ∧ rm.frames + 1 ≤ R.frames ∧ 8 + (maxL + 11) + rm.locals ≤ R.locals) (hcs : cells + mc ≤ R.cells ∧ slots + ms ≤ R.slots) (hdg : decode cc pc = .ok (.invokestatic idx, 3))
    (kk : ∀ (rv : Option Value) (M' : mM) (ad' : Nat → Nat → Nat) (H1 : Heap) (locs1 : List Loc), P rv M' ad' → mSt D dA base M' ad' s.heap H1 locs1 → mExt M ad M' ad' → W p l e R s m args below meth c H1 locs1 (cells + mc) (slots + ms) Q (F0 m (pc + 3) ls (rv.toList ++ rest))) : W p l e R s m args below meth c H locs cells slots Q (F0 m pc ls (As.reverse ++ rest)) := by
  have hts := X.2.2.2.1
  have hpre : PreS s H (mPreH D dA base M ad As) As := ⟨mPreH_blind, fun U hU hW => ⟨r_pre X hM _ (X_wd X) U hU hW, mN_move hW hN⟩⟩
  obtain ⟨k1, k2, k3, k4, k5, k6, k7⟩ := hk
  refine r_callX (vx_runSX (hh := hh) (bytes := bytes) (maxL := maxL) (ret := ret) ⟨X.1, X.2.1, hml, X.2.2.1, hts⟩ hC ⟨⟨hroom.1, hroom.2.1, hroom.2.2.1, hroom.2.2.2, fun w hw a' U hW => ?_, List.mem_cons_self⟩, hts _ k3, hts _ k2, ⟨k5, k6⟩, fun sig h => ?_, hts _ k1, hts _ k4⟩ hpre rfl hn hsz rfl (lv_room hcat) hdg hcs) hM (fun E ce q H1 locs1 hF => hF.elim) kk
  · cases List.mem_singleton.mp hw
    exact okW_move (gw_ok _ k3) hW (hts _ k3)
  · rw [h] at k7
    exact (Option.some.inj k7).symm
theorem kiM_w {M : mM} (h0 : gn M 0 = 1) (hz : ∀ k, 1 ≤ k → k ≤ 16 → gn M k = 0) : wK (kiM M) ∧ wT (kiM M) ∧ wO (kiM M) := by
  obtain ⟨r0, r3, r5, r7, r8, r9, r11, r30⟩ := kiA_r hz
  obtain ⟨n0, n1, n2, n4, n5, n6, n7, n15, n16⟩ := kiA_n h0 hz
  obtain ⟨i1, i2, i4, i6, i10, i31, i32⟩ := kiA_i M
  have gI : ∀ {k u v : Nat}, k ≠ 1 → k ≠ 2 → gi (kiM M) k u v = gi (kiA M) k u v := fun h1 h2 => (ccL_gi _ _ h2).trans (scL_gi _ _ h1)
  have gR : ∀ {k u v : Nat}, k ≠ 1 → k ≠ 2 → k ≠ 8 → k ≠ 11 → gr (kiM M) k u v = gr (kiA M) k u v := fun h1 h2 h3 h4 => (ccL_gr _ _ h2 h4).trans (scL_gr _ _ h1 h3)
  have gN : ∀ {a : Nat}, a ≠ 1 → a ≠ 2 → gn (kiM M) a = gn (kiA M) a := fun h1 h2 => by
    unfold kiM
    rw [ccL_gn, if_neg h2, scL_gn, if_neg h1]
  have e7 : gn (kiM M) 7 = 0 := (gN (by decide) (by decide)).trans n7
  have e4 : gn (kiM M) 4 = 0 := (gN (by decide) (by decide)).trans n4
  have e5 : gn (kiM M) 5 = 0 := (gN (by decide) (by decide)).trans n5
  have eR : nRg (kiM M) = 0 := by unfold nRg; rw [gI (by decide) (by decide), i6]; rfl
  have eT : tsz (kiM M) = 0 := by unfold tsz; rw [gI (by decide) (by decide), i31]; rfl
  refine ⟨⟨⟨by rw [gN (by decide) (by decide), n0]; exact Nat.one_pos, ?_, ?_, ?_, ?_, ?_, ?_, ?_, ?_⟩, fun i hi => ?_, fun i hi => ccL_11 _ _ hi, ⟨?_, by omega, fun i hi => by omega⟩, ⟨?_, by omega, fun i hi => by omega⟩, ?_, by omega, fun i hi => by omega⟩, ⟨?_, by omega⟩, ⟨⟨?_, ?_, ?_⟩, fun i hi => by omega, fun i hi => by omega, fun i hi => by omega, ?_⟩⟩
  · rw [gR (by decide) (by decide) (by decide) (by decide)]; exact r0
  · rw [gR (by decide) (by decide) (by decide) (by decide)]; exact r3
  · rw [gR (by decide) (by decide) (by decide) (by decide)]; exact r5
  · rw [gR (by decide) (by decide) (by decide) (by decide)]; exact r7
  · rw [gR (by decide) (by decide) (by decide) (by decide)]; exact r8
  · rw [gR (by decide) (by decide) (by decide) (by decide)]; exact r9
  · rw [gR (by decide) (by decide) (by decide) (by decide)]; exact r11
  · rw [gR (by decide) (by decide) (by decide) (by decide)]; exact r30
  · exact (ccL_gr _ _ (by decide) (by decide)).trans (scL_8 _ _ hi)
  · rw [e7, gI (by decide) (by decide), i4]; rfl
  · rw [eR, gI (by decide) (by decide), i6]; rfl
  · rw [e4, gI (by decide) (by decide), i10]; rfl
  · rw [eT, gI (by decide) (by decide), i31]; rfl
  · rw [e7]; exact (gN (by decide) (by decide)).trans n6
  · rw [e7]; exact (gN (by decide) (by decide)).trans n15
  · rw [e7]; exact (gN (by decide) (by decide)).trans n16
  · rw [gI (by decide) (by decide), i1]; exact Or.inr rfl
theorem h_Lw_66 : hLk "ScopeKeeperLaw" 66 y_Lw_serve b_Lw_serve 7 (some FieldType.int) [(0, 11, 14, 13)] 6 := ⟨gwm (lt1 140 rfl) rfl, gwm (lt1 0 rfl) rfl, hw_Lw_serve, gwm (lt1 141 rfl) rfl, by decide +kernel, by decide +kernel, by decide +kernel⟩
theorem h_Lw_81 : hLk "ScopeKeeperLaw" 81 y_Lw_job b_Lw_job 6 (some FieldType.int) [(0, 12, 15, 13), (0, 12, 19, 19)] 5 := ⟨gwm (lt1 226 rfl) rfl, gwm (lt1 0 rfl) rfl, hw_Lw_job, gwm (lt1 227 rfl) rfl, by decide +kernel, by decide +kernel, by decide +kernel⟩
theorem h_Lw_85 : hLk "ScopeKeeperLaw" 85 y_Lw_step b_Lw_step 4 (some FieldType.int) [(0, 9, 12, 13), (0, 9, 15, 25)] 3 := ⟨gwm (lt2 57 rfl) rfl, gwm (lt1 0 rfl) rfl, hw_Lw_step, gwm (lt2 58 rfl) rfl, by decide +kernel, by decide +kernel, by decide +kernel⟩
theorem h_Lw_89 : hLk "ScopeKeeperLaw" 89 y_Lw_open b_Lw_open 4 (some FieldType.int) [(0, 9, 12, 13), (0, 9, 15, 19)] 3 := ⟨gwm (lt3 12 rfl) rfl, gwm (lt1 0 rfl) rfl, hw_Lw_open, gwm (lt3 13 rfl) rfl, by decide +kernel, by decide +kernel, by decide +kernel⟩
theorem h_Lw_92 : hLk "ScopeKeeperLaw" 92 y_Lw_close b_Lw_close 4 (some FieldType.int) [(0, 9, 12, 25)] 3 := ⟨gwm (lt3 28 rfl) rfl, gwm (lt1 0 rfl) rfl, hw_Lw_close, gwm (lt3 29 rfl) rfl, by decide +kernel, by decide +kernel, by decide +kernel⟩
theorem h_Lw_95 : hLk "ScopeKeeperLaw" 95 y_Lw_claim b_Lw_claim 4 (some FieldType.int) [(0, 9, 12, 13), (0, 9, 15, 25), (0, 9, 18, 19)] 3 := ⟨gwm (lt3 48 rfl) rfl, gwm (lt1 0 rfl) rfl, hw_Lw_claim, gwm (lt3 49 rfl) rfl, by decide +kernel, by decide +kernel, by decide +kernel⟩
theorem h_Lw_98 : hLk "ScopeKeeperLaw" 98 y_Lw_skip b_Lw_skip 4 (some FieldType.int) [(0, 9, 12, 13), (0, 9, 15, 25), (0, 9, 18, 19)] 3 := ⟨gwm (lt3 61 rfl) rfl, gwm (lt1 0 rfl) rfl, hw_Lw_skip, gwm (lt3 62 rfl) rfl, by decide +kernel, by decide +kernel, by decide +kernel⟩
theorem h_Lw_101 : hLk "ScopeKeeperLaw" 101 y_Lw_fetch b_Lw_fetch 5 (some FieldType.int) [(0, 10, 13, 13), (0, 10, 17, 25), (0, 10, 21, 43)] 4 := ⟨gwm (lt3 69 rfl) rfl, gwm (lt1 0 rfl) rfl, hw_Lw_fetch, gwm (lt3 70 rfl) rfl, by decide +kernel, by decide +kernel, by decide +kernel⟩
theorem h_Lw_105 : hLk "ScopeKeeperLaw" 105 y_Lw_registration b_Lw_registration 5 (some FieldType.int) [(0, 10, 13, 13), (0, 10, 17, 25)] 4 := ⟨gwm (lt3 122 rfl) rfl, gwm (lt1 0 rfl) rfl, hw_Lw_registration, gwm (lt3 123 rfl) rfl, by decide +kernel, by decide +kernel, by decide +kernel⟩
theorem h_Lw_108 : hLk "ScopeKeeperLaw" 108 y_Lw_worker b_Lw_worker 5 (some FieldType.int) [(0, 10, 13, 13), (0, 10, 17, 51)] 4 := ⟨gwm (lt3 130 rfl) rfl, gwm (lt1 0 rfl) rfl, hw_Lw_worker, gwm (lt3 131 rfl) rfl, by decide +kernel, by decide +kernel, by decide +kernel⟩
theorem h_Lw_111 : hLk "ScopeKeeperLaw" 111 y_Lw_outcome b_Lw_outcome 4 (some FieldType.int) [(0, 9, 12, 51)] 3 := ⟨gwm (lt3 162 rfl) rfl, gwm (lt1 0 rfl) rfl, hw_Lw_outcome, gwm (lt3 163 rfl) rfl, by decide +kernel, by decide +kernel, by decide +kernel⟩
theorem h_Lw_114 : hLk "ScopeKeeperLaw" 114 y_Lw_trace b_Lw_trace 4 (some FieldType.int) [(0, 9, 12, 51)] 3 := ⟨gwm (lt3 170 rfl) rfl, gwm (lt1 0 rfl) rfl, hw_Lw_trace, gwm (lt3 171 rfl) rfl, by decide +kernel, by decide +kernel, by decide +kernel⟩
theorem h_Lw_117 : hLk "ScopeKeeperLaw" 117 y_Lw_count b_Lw_count 4 (some FieldType.int) [(0, 9, 12, 13)] 3 := ⟨gwm (lt3 178 rfl) rfl, gwm (lt1 0 rfl) rfl, hw_Lw_count, gwm (lt3 179 rfl) rfl, by decide +kernel, by decide +kernel, by decide +kernel⟩
