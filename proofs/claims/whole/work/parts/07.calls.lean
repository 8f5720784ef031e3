theorem okW_move {w : Cond} (h : okW w = true) {s U : State} {a a' : Array Value} (hW : s.WarmedH U.vm) (hb : w.before a s = true) : w.before a' U = true := by
  by_cases hg : goodWord w = true
  · exact word_at hW (good_of_word hg) hb
  · cases w with
    | fieldLinkNest x i b n d h => exact va_Nw.use rfl (va_Nw.warmF hW (va_Nw.of rfl hb))
    | methodLinkNest x i y h => exact va_Nw.use rfl (va_Nw.warmM hW (va_Nw.of rfl hb))
    | castable x y => exact va_Nw.use rfl (va_Nw.warmC hW (va_Nw.of rfl hb))
    | declares x => exact va_Nw.use rfl (va_Nw.warmD hW (va_Nw.of rfl hb))
    | arrayOver ty =>
      cases ty with
      | object C => exact va_AO.use (va_AO.moved hW.alike (va_AO.of hb))
      | _ => exact absurd h hg
    | _ => exact absurd h hg
def mWd (U : State) : Prop := ∀ w ∈ gw, ∀ a : Array Value, w.before a U = true
theorem mWd_move {s U : State} (hW : s.WarmedH U.vm) (h : mWd s) : mWd U := fun w hw _ => okW_move (gw_ok w hw) hW (h w hw #[])
def mPre (D : va_G) (dA : Nat → ClassId) (base : Nat) (M : mM) (ad : Nat → Nat → Nat) (as : List Value) : Array Value → State → Prop := fun v U => v = as.toArray ∧ mWd U ∧ mK D dA U ∧ mZ base U ∧ mRep D dA base M ad U.heap ∧ base ≤ U.heap.size
/-- names that were live stay where they are -/
def mExt (M : mM) (ad : Nat → Nat → Nat) (M' : mM) (ad' : Nat → Nat → Nat) : Prop := (∀ a b, b < gn M a → ad' a b = ad a b) ∧ ∀ a, gn M a ≤ gn M' a
theorem mExt_rf (M : mM) (ad : Nat → Nat → Nat) : mExt M ad M ad := ⟨fun _ _ _ => rfl, fun _ => Nat.le_refl _⟩
theorem mExt_tr {M M1 M2 : mM} {ad ad1 ad2 : Nat → Nat → Nat} (h : mExt M ad M1 ad1) (h2 : mExt M1 ad1 M2 ad2) : mExt M ad M2 ad2 := ⟨fun a b hb => (h2.1 a b (Nat.lt_of_lt_of_le hb (h.2 a))).trans (h.1 a b hb), fun a => Nat.le_trans (h.2 a) (h2.2 a)⟩
def mPost (D : va_G) (dA : Nat → ClassId) (base : Nat) (M : mM) (ad : Nat → Nat → Nat) (P : Option Value → mM → (Nat → Nat → Nat) → Prop) : Array Value → State → Outcome → State → Prop := fun _ st oc t => ∃ (rv : Option Value) (M' : mM) (ad' : Nat → Nat → Nat), oc = .returned rv ∧ P rv M' ad' ∧ mRep D dA base M' ad' t.heap ∧ mExt M ad M' ad' ∧ va_F (fun q => base ≤ q) st t
/-- A CONTRACT: from every heap that holds the memory M (names at ad), with the arguments 'as': it returns, and P says what, and which memory the heap holds then. At most mc cells of ms slots come. -/
def mMet (l : Launch) (y : MethodName) (cc : ByteArray) (maxL : Nat) (ret : Option FieldType) (rm : Room) (mc ms : Nat) (D : va_G) (dA : Nat → ClassId) (base : Nat) (M : mM) (ad : Nat → Nat → Nat) (as : List Value) (P : Option Value → mM → (Nat → Nat → Nat) → Prop) : Prop :=
  Met l y [.code y cc maxL ret] rm (mPre D dA base M ad as) (mPost D dA base M ad P) mc ms (fun q => base ≤ q)
theorem mZ_move {base : Nat} {s U : State} (hW : s.WarmedH U.vm) (hz : ∀ q : Nat, q < s.heap.size → ¬ base ≤ q → U.heap[q]? = s.heap[q]?) (h : mZ base s) : mZ base U :=
  ⟨vx_Zq.moved hW.alike (h.1.kept hz), vx_Zq.moved hW.alike (h.2.1.kept hz), fun x hx => (h.2.2 x hx).elim fun sa hs => ⟨sa, vk_R.warm hW hs⟩⟩
theorem mPre_blind {D : va_G} {dA : Nat → ClassId} {base : Nat} {M : mM} {ad : Nat → Nat → Nat} {as : List Value} : FrameBlind (mPre D dA base M ad as) := fun a U g mk h => ⟨h.1, mWd_move (U := U.calling g mk a) (State.WarmedH.refl U) h.2.1, va_K.moved (u := U) (U := U.calling g mk a) (Vm.Alike.refl U.vm) h.2.2.1, mZ_move (U := U.calling g mk a) (State.WarmedH.refl U) (fun _ _ _ => rfl) h.2.2.2.1, h.2.2.2.2.1, h.2.2.2.2.2⟩
theorem m_start {l : Launch} {y : MethodName} {cc : ByteArray} {maxL : Nat} {ret : Option FieldType} {rm : Room} {mc ms : Nat} {D : va_G} {dA : Nat → ClassId} {base : Nat} {M : mM} {ad : Nat → Nat → Nat} {as : List Value} {P : Option Value → mM → (Nat → Nat → Nat) → Prop} (hy : plainName y.cls = true) (hlen : (lg_sl as).length ≤ maxL) {lvs : List (Nat × Value)} (hlv : lv_args 0 as = lvs)
    (body : ∀ (p : Program) (e : Env) (s : State) (m : MethodId) (below : List Frame) (meth : Method) (c : Code) (ls : Array Slot), mCx D dA base p s m as.toArray c cc y.cls → meth.sig.returnType = ret → meth.locks = false → meth.name = y.name → c.maxLocals = maxL → mSt D dA base M ad s.heap s.heap [] → lv_has ls maxL lvs →
      W p l e rm s m as.toArray below meth c s.heap [] 0 0 (MQ below (mPost D dA base M ad P) as.toArray s mc ms (fun q => base ≤ q)) (F0 m 0 ls [])) : mMet l y cc maxL ret rm mc ms D dA base M ad as P := by
  refine Met.ofW (cc := cc) (maxL := maxL) (ret := ret) hy rfl ?_
  intro p e s m args below meth c s₁ B hml hv
  obtain ⟨rfl, hwd, hK, hZ, hR, hbs⟩ := hv
  have hl := lv_entry as (n := maxL) hlen
  rw [lg_entry_eq]
  rw [hlv] at hl
  exact body p e s m below meth c _ ⟨B.exec, B.bytes, findClass_of_methodNamed B.named, fun w hw => hwd w hw _, hK, hZ⟩ B.returns B.notSynchronized (name_of_methodNamed B.named B.method).1 hml ⟨hR, va_S.rf, hbs⟩ hl
section MRET
variable {p : Program} {l : Launch} {e : Env} {R : Room} {s : State} {m : MethodId} {args : Array Value} {below : List Frame} {meth : Method} {c : Code} {H : Heap} {locs : List Loc} {cells slots : Nat} {Q : State → Prop}
variable {cc : ByteArray} {pc : Nat} {ls : Array Slot} {rest : List Value} {D : va_G} {dA : Nat → ClassId} {base : Nat} {M M' : mM} {ad ad' : Nat → Nat → Nat} {own : String} {H0 : Heap} {P : Option Value → mM → (Nat → Nat → Nat) → Prop} {mc ms : Nat}
theorem m_iret (X : mCx D dA base p s m args c cc own) (hr : meth.sig.returnType = some .int) (hlk : meth.locks = false) (hM : mSt D dA base M' ad' s.heap H locs) {v : Int32} (hdg : decode cc pc = .ok (.ireturn, 1)) (hcs : cells ≤ mc ∧ slots ≤ ms) (hE : mExt M ad M' ad') (hP : P (some (.int v)) M' ad') :
    W p l e R s m args below meth c H locs cells slots (MQ below (mPost D dA base M ad P) args s mc ms (fun q => base ≤ q)) (F0 m pc ls [.int v]) :=
  W.widen hcs.1 hcs.2 (W.iret X.1 X.2.1 hr (fun t ht _ => ⟨_, M', ad', rfl, hP, by rw [ht]; exact hM.1, hE, hM.2.1.F ht⟩) hM.2.1.2.2 hdg hlk)
theorem m_zret (X : mCx D dA base p s m args c cc own) {ty : FieldType} (hr : meth.sig.returnType = some ty) (hlk : meth.locks = false) (hM : mSt D dA base M' ad' s.heap H locs) {v : Int32} (hn : narrow ty (.int v) = .int v) (hdg : decode cc pc = .ok (.ireturn, 1)) (hcs : cells ≤ mc ∧ slots ≤ ms) (hE : mExt M ad M' ad') (hP : P (some (.int v)) M' ad') :
    W p l e R s m args below meth c H locs cells slots (MQ below (mPost D dA base M ad P) args s mc ms (fun q => base ≤ q)) (F0 m pc ls [.int v]) :=
  W.widen hcs.1 hcs.2 (W.zret X.1 X.2.1 hr hn (fun t ht _ => ⟨_, M', ad', rfl, hP, by rw [ht]; exact hM.1, hE, hM.2.1.F ht⟩) hM.2.1.2.2 hdg hlk)
theorem m_vret (X : mCx D dA base p s m args c cc own) (hr : meth.sig.returnType = none) (hlk : meth.locks = false) (hM : mSt D dA base M' ad' s.heap H locs) (hdg : decode cc pc = .ok (.return_, 1)) (hcs : cells ≤ mc ∧ slots ≤ ms) (hE : mExt M ad M' ad') (hP : P none M' ad') :
    W p l e R s m args below meth c H locs cells slots (MQ below (mPost D dA base M ad P) args s mc ms (fun q => base ≤ q)) (F0 m pc ls []) :=
  W.widen hcs.1 hcs.2 (W.vret X.1 X.2.1 hr (fun t ht _ => ⟨_, M', ad', rfl, hP, by rw [ht]; exact hM.1, hE, hM.2.1.F ht⟩) hM.2.1.2.2 hdg hlk)
theorem m_aret (X : mCx D dA base p s m args c cc own) {C : String} (hr : meth.sig.returnType = some (.object C)) (hlk : meth.locks = false) (hM : mSt D dA base M' ad' s.heap H locs) {v : Value} (hv : v.isRef = true) (hdg : decode cc pc = .ok (.areturn, 1)) (hcs : cells ≤ mc ∧ slots ≤ ms) (hE : mExt M ad M' ad') (hP : P (some v) M' ad') :
    W p l e R s m args below meth c H locs cells slots (MQ below (mPost D dA base M ad P) args s mc ms (fun q => base ≤ q)) (F0 m pc ls [v]) :=
  W.widen hcs.1 hcs.2 (W.aret X.1 X.2.1 hr (Or.inl ⟨C, rfl⟩) (by cases v <;> simp_all [Value.isRef]) (fun t ht _ => ⟨_, M', ad', rfl, hP, by rw [ht]; exact hM.1, hE, hM.2.1.F ht⟩) hM.2.1.2.2 hdg hlk)
theorem r_call {st0 : List Value} {a : Array Value} (hr : va_Run p l e R s m args below meth c H locs cells slots mc ms (F0 m pc ls st0) rest (mPost D dA base M ad P a) (fun q => base ≤ q)) (hM : mSt D dA base M ad H0 H locs)
    (kk : ∀ (rv : Option Value) (M' : mM) (ad' : Nat → Nat → Nat) (H1 : Heap) (locs1 : List Loc), P rv M' ad' → mSt D dA base M' ad' H0 H1 locs1 → mExt M ad M' ad' → W p l e R s m args below meth c H1 locs1 (cells + mc) (slots + ms) Q (F0 m (pc + 3) ls (rv.toList ++ rest))) : W p l e R s m args below meth c H locs cells slots Q (F0 m pc ls st0) := by
  intro T hT X
  obtain ⟨v, st₀, t, T', L, h0, X', hL, e1, e2, ⟨rv, M', ad', hv, hp, hrep, hext, hz, hkeep⟩, st⟩ := hr T hT X
  cases hv
  rw [h0] at hz hkeep
  obtain ⟨t2, a1, b1⟩ := kk v M' ad' T'.heap (locs ++ L) hp ⟨by rw [e1]; exact hrep, ⟨Nat.le_trans hM.2.1.1 (by rw [e1]; exact hz), fun q h1 h2 => by rw [e1, hkeep q (Nat.lt_of_lt_of_le h1 hM.2.1.1) h2]; exact hM.2.1.2.1 q h1 h2, fun q hq => by
      rcases List.mem_append.mp hq with h | h
      · exact hM.2.1.2.2 q h
      · exact hL q h⟩, hM.2.2⟩ hext T' rfl X'
  exact ⟨t2, st t2 a1, b1⟩
/-- what a call's link needs -/
def cLk (own : String) (idx : Nat) (y : MethodName) (cc : ByteArray) (maxL : Nat) (ret : Option FieldType) (n : Nat) : Prop :=
  (Cond.methodLink own idx y ∈ gw ∨ ∃ host, Cond.methodLinkNest own idx y host ∈ gw) ∧ Cond.initialized y.cls ∈ gw ∧ Cond.code y cc maxL ret ∈ gw ∧ y.cls ≠ "java/lang/invoke/MethodHandle" ∧ y.cls ≠ "java/lang/invoke/VarHandle" ∧ (parseMethodDescriptor y.desc).map (fun d => d.parameters.length) = some n
theorem cLk_good {own : String} {idx : Nat} {y : MethodName} {bytes : ByteArray} {maxL n : Nat} {ret : Option FieldType} (h : cLk own idx y bytes maxL ret n) : GoodIn gw [.code y bytes maxL ret] := by
  intro w hw
  rw [List.mem_singleton.mp hw]
  exact ⟨h.2.2.1, Or.inl rfl⟩
theorem cLk_B {own : String} {idx : Nat} {y : MethodName} {bytes : ByteArray} {maxL n : Nat} {ret : Option FieldType} (h : cLk own idx y bytes maxL ret n) (hl : Cond.methodLink own idx y ∈ gw) (hts : ∀ w ∈ gw, w.before args s = true) {rm : Room} (hrc : rm.cells = mc) (hrs : rm.slots = ms) (hR : rm.frames + 1 ≤ R.frames ∧ 8 + (maxL + 11) + rm.locals ≤ R.locals) : CallB R s args own idx y bytes maxL ret [.code y bytes maxL ret] rm mc ms n :=
  callB_of n hts (cLk_good h) rfl hrc hrs (hts _ h.2.1) (hts _ hl) ⟨h.2.2.2.1, h.2.2.2.2.1, h.2.2.2.2.2⟩ hR
theorem cLk_N {own host : String} {idx : Nat} {y : MethodName} {bytes : ByteArray} {maxL n : Nat} {ret : Option FieldType} (h : cLk own idx y bytes maxL ret n) (hl : Cond.methodLinkNest own idx y host ∈ gw) (hts : ∀ w ∈ gw, w.before args s = true) {rm : Room} (hrc : rm.cells = mc) (hrs : rm.slots = ms) (hR : rm.frames + 1 ≤ R.frames ∧ 8 + (maxL + 11) + rm.locals ≤ R.locals) : va_CN R s args own idx y host bytes maxL ret [.code y bytes maxL ret] rm mc ms n :=
  va_cnB n hts (cLk_good h) rfl hrc hrs (va_Nw.of rfl (hts _ hl)) (hts _ h.2.1) ⟨h.2.2.2.1, h.2.2.2.2.1, h.2.2.2.2.2⟩ hR
def kcls (k : Nat) (C : String) : Prop := ∃ (ci : Nat) (r : vw_C), sh k = .inl ci ∧ classes[ci]? = some r ∧ r.1 = C
theorem r_recv (X : mCx D dA base p s m args c cc own) (hM : mSt D dA base M ad H0 H locs) {k i b : Nat} {C : String} (hk : kcls k C) (ha : ad k i = b) (hi : i < gn M k) : ∃ cellB : Cell, H[b]? = some cellB ∧ cellB.vm.isStatics = false ∧ s.vm.findClass C = some cellB.cls := by
  obtain ⟨ci, r, hs, hc, rfl⟩ := hk
  obtain ⟨-, hcell⟩ := hM.1.1 k i hi
  unfold mcell at hcell
  rw [hs] at hcell
  obtain ⟨r', h1, cell, q1, q2, q3, -⟩ := hcell
  subst ha
  exact ⟨cell, q1, by rw [q3]; rfl, by rw [q2]; exact (X.2.2.2.2.1.1 ci r hc).2.1⟩
theorem r_pre (X : mCx D dA base p s m args c cc own) (hM : mSt D dA base M ad s.heap H locs) (as : List Value) (hwd : mWd s) : ∀ U : State, U.heap = H → s.WarmedH U.vm → mPre D dA base M ad as as.toArray U := fun U hU hW => ⟨rfl, mWd_move hW hwd, va_K.moved hW.alike X.2.2.2.2.1, mZ_move hW (fun q h1 h2 => by rw [hU]; exact hM.2.1.2.1 q h1 h2) X.2.2.2.2.2, by rw [hU]; exact hM.1, by rw [hU]; exact Nat.le_trans hM.2.2 hM.2.1.1⟩
theorem X_wd (X : mCx D dA base p s m args c cc own) : mWd s := fun w hw _ => okW_move (gw_ok w hw) (State.WarmedH.refl s) (X.2.2.2.1 w hw)
variable {y : MethodName} {bytes : ByteArray} {maxL nL n idx : Nat} {ret : Option FieldType} {rm : Room} {As : List Value}
/-- a call of an object's method -/
theorem r_cV {k i b : Nat} (X : mCx D dA base p s m args c cc own) (hml : c.maxLocals = nL) (hsz : ls.size = nL) (hM : mSt D dA base M ad s.heap H locs) (hC : mMet l y bytes maxL ret rm mc ms D dA base M ad (.ref b :: As) P) (hk : cLk own idx y bytes maxL ret n) (hk2 : Cond.instanceMethod y ∈ gw ∧ Cond.selects y.cls y y ∈ gw) (hkc : kcls k y.cls) (ha : ad k i = b) (hi : i < gn M k) (hn : As.length = n) (hcat : (rest.map fun v => v.category).sum ≤ 8)
    (hroom : rm.cells = mc ∧ rm.slots = ms ∧ rm.frames + 1 ≤ R.frames ∧ 8 + (maxL + 11) + rm.locals ≤ R.locals) (hcs : cells + mc ≤ R.cells ∧ slots + ms ≤ R.slots) (hdg : decode cc pc = .ok (.invokevirtual idx, 3))
    (kk : ∀ (rv : Option Value) (M' : mM) (ad' : Nat → Nat → Nat) (H1 : Heap) (locs1 : List Loc), P rv M' ad' → mSt D dA base M' ad' s.heap H1 locs1 → mExt M ad M' ad' → W p l e R s m args below meth c H1 locs1 (cells + mc) (slots + ms) Q (F0 m (pc + 3) ls (rv.toList ++ rest))) : W p l e R s m args below meth c H locs cells slots Q (F0 m pc ls (As.reverse ++ .ref b :: rest)) := by
  have hts := X.2.2.2.1
  have hpre : PreV s H y.cls b (mPre D dA base M ad (.ref b :: As)) As := ⟨mPre_blind, r_recv X hM hkc ha hi, r_pre X hM _ (X_wd X)⟩
  rcases hk.1 with hl | ⟨host, hl⟩
  · exact r_call (va_runV ⟨X.1, X.2.1, hml, X.2.2.1, hts⟩ hC ⟨cLk_B hk hl hts hroom.1 hroom.2.1 hroom.2.2, hts _ hk2.1, hts _ hk2.2⟩ hpre rfl hn hsz rfl (lv_room hcat) hdg hcs) hM kk
  · exact r_call (va_runVN ⟨X.1, X.2.1, hml, X.2.2.1, hts⟩ hC ⟨cLk_N hk hl hts hroom.1 hroom.2.1 hroom.2.2, hts _ hk2.1, hts _ hk2.2⟩ hpre rfl hn hsz rfl (lv_room hcat) hdg hcs) hM kk
/-- a call of a static method -/
theorem r_cS (X : mCx D dA base p s m args c cc own) (hml : c.maxLocals = nL) (hsz : ls.size = nL) (hM : mSt D dA base M ad s.heap H locs) (hC : mMet l y bytes maxL ret rm mc ms D dA base M ad As P) (hk : cLk own idx y bytes maxL ret n) (hk2 : Cond.static y ∈ gw) (hn : As.length = n) (hcat : (rest.map fun v => v.category).sum ≤ 8)
    (hroom : rm.cells = mc ∧ rm.slots = ms ∧ rm.frames + 1 ≤ R.frames ∧ 8 + (maxL + 11) + rm.locals ≤ R.locals) (hcs : cells + mc ≤ R.cells ∧ slots + ms ≤ R.slots) (hdg : decode cc pc = .ok (.invokestatic idx, 3))
    (kk : ∀ (rv : Option Value) (M' : mM) (ad' : Nat → Nat → Nat) (H1 : Heap) (locs1 : List Loc), P rv M' ad' → mSt D dA base M' ad' s.heap H1 locs1 → mExt M ad M' ad' → W p l e R s m args below meth c H1 locs1 (cells + mc) (slots + ms) Q (F0 m (pc + 3) ls (rv.toList ++ rest))) : W p l e R s m args below meth c H locs cells slots Q (F0 m pc ls (As.reverse ++ rest)) := by
  have hts := X.2.2.2.1
  have hpre : PreS s H (mPre D dA base M ad As) As := ⟨mPre_blind, r_pre X hM _ (X_wd X)⟩
  rcases hk.1 with hl | ⟨host, hl⟩
  · exact r_call (va_runS ⟨X.1, X.2.1, hml, X.2.2.1, hts⟩ hC ⟨cLk_B hk hl hts hroom.1 hroom.2.1 hroom.2.2, hts _ hk2⟩ hpre rfl hn hsz rfl (lv_room hcat) hdg hcs) hM kk
  · exact r_call (va_runSN ⟨X.1, X.2.1, hml, X.2.2.1, hts⟩ hC ⟨cLk_N hk hl hts hroom.1 hroom.2.1 hroom.2.2, hts _ hk2, trivial⟩ hpre rfl hn hsz rfl (lv_room hcat) hdg hcs) hM kk
/-- a call of a constructor -/
theorem r_cI {b : Nat} (X : mCx D dA base p s m args c cc own) (hml : c.maxLocals = nL) (hsz : ls.size = nL) (hM : mSt D dA base M ad s.heap H locs) (hC : mMet l y bytes maxL none rm mc ms D dA base M ad (.ref b :: As) P) (hk : cLk own idx y bytes maxL none n) (hk2 : y.name = "<init>" ∧ Cond.instanceMethod y ∈ gw) (hn : As.length = n) (hcat : (rest.map fun v => v.category).sum ≤ 8)
    (hroom : rm.cells = mc ∧ rm.slots = ms ∧ rm.frames + 1 ≤ R.frames ∧ 8 + (maxL + 11) + rm.locals ≤ R.locals) (hcs : cells + mc ≤ R.cells ∧ slots + ms ≤ R.slots) (hdg : decode cc pc = .ok (.invokespecial idx, 3))
    (kk : ∀ (rv : Option Value) (M' : mM) (ad' : Nat → Nat → Nat) (H1 : Heap) (locs1 : List Loc), P rv M' ad' → mSt D dA base M' ad' s.heap H1 locs1 → mExt M ad M' ad' → W p l e R s m args below meth c H1 locs1 (cells + mc) (slots + ms) Q (F0 m (pc + 3) ls (rv.toList ++ rest))) : W p l e R s m args below meth c H locs cells slots Q (F0 m pc ls (As.reverse ++ .ref b :: rest)) := by
  have hts := X.2.2.2.1
  have hpre : PreS s H (mPre D dA base M ad (.ref b :: As)) (.ref b :: As) := ⟨mPre_blind, r_pre X hM _ (X_wd X)⟩
  rcases hk.1 with hl | ⟨host, hl⟩
  · exact r_call (va_runI ⟨X.1, X.2.1, hml, X.2.2.1, hts⟩ hC ⟨cLk_B hk hl hts hroom.1 hroom.2.1 hroom.2.2, hk2.1, hts _ hk2.2⟩ hpre rfl hn hsz rfl (lv_room hcat) hdg hcs) hM kk
  · exact r_call (va_runIN ⟨X.1, X.2.1, hml, X.2.2.1, hts⟩ hC ⟨cLk_N hk hl hts hroom.1 hroom.2.1 hroom.2.2, hk2.1, hts _ hk2.2⟩ hpre rfl hn hsz rfl (lv_room hcat) hdg hcs) hM kk
end MRET
