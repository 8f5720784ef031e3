/-! THROWS: contracts of methods that may throw; at a throw the memory is as it was at the entry -/
def mX (D : va_G) (dA : Nat → ClassId) (base : Nat) (M : mM) (ad : Nat → Nat → Nat) (PX : String → Prop) : String → State → State → Prop := fun E st t => PX E ∧ mRep D dA base M ad t.heap ∧ va_F (fun q => base ≤ q) st t
def mMetX (l : Launch) (y : MethodName) (cc : ByteArray) (maxL : Nat) (ret : Option FieldType) (rm : Room) (mc ms : Nat) (D : va_G) (dA : Nat → ClassId) (base : Nat) (M : mM) (ad : Nat → Nat → Nat) (as : List Value) (P : Option Value → mM → (Nat → Nat → Nat) → Prop) (PX : String → Prop) : Prop :=
  vx_Met l y [.code y cc maxL ret] rm (mPre D dA base M ad as) (mPost D dA base M ad P) (mX D dA base M ad PX) mc ms (fun q => base ≤ q)
theorem m_startX {l : Launch} {y : MethodName} {cc : ByteArray} {maxL : Nat} {ret : Option FieldType} {rm : Room} {mc ms : Nat} {D : va_G} {dA : Nat → ClassId} {base : Nat} {M : mM} {ad : Nat → Nat → Nat} {as : List Value} {P : Option Value → mM → (Nat → Nat → Nat) → Prop} {PX : String → Prop} (hy : plainName y.cls = true) (hlen : (lg_sl as).length ≤ maxL) {lvs : List (Nat × Value)} (hlv : lv_args 0 as = lvs)
    (body : ∀ (p : Program) (e : Env) (s : State) (m : MethodId) (below : List Frame) (meth : Method) (c : Code) (ls : Array Slot), mCx D dA base p s m as.toArray c cc y.cls → meth.sig.returnType = ret → meth.locks = false → meth.name = y.name → c.maxLocals = maxL → mSt D dA base M ad s.heap s.heap [] → lv_has ls maxL lvs → (∀ x ∈ c.exceptionTable.toList, False) →
      W p l e rm s m as.toArray below meth c s.heap [] 0 0 (vx_MQ below (mPost D dA base M ad P) (mX D dA base M ad PX) as.toArray s mc ms (fun q => base ≤ q)) (F0 m 0 ls [])) : mMetX l y cc maxL ret rm mc ms D dA base M ad as P PX := by
  refine vx_ofW (cc := cc) (maxL := maxL) (ret := ret) hy rfl ?_
  intro p e s m args below meth c s₁ B hml hno hv
  obtain ⟨rfl, hwd, hK, hZ, hR, hbs⟩ := hv
  have hl := lv_entry as (n := maxL) hlen
  rw [lg_entry_eq]
  rw [hlv] at hl
  exact body p e s m below meth c _ ⟨B.exec, B.bytes, findClass_of_methodNamed B.named, fun w hw => hwd w hw _, hK, hZ⟩ B.returns B.notSynchronized (name_of_methodNamed B.named B.method).1 hml ⟨hR, va_S.rf, hbs⟩ hl hno
theorem mRep_kept {D : va_G} {dA : Nat → ClassId} {base : Nat} {M : mM} {ad : Nat → Nat → Nat} {H H1 : Heap} (h : mRep D dA base M ad H) (ho : ∀ q : Nat, q < H.size → H1[q]? = H[q]?) : mRep D dA base M ad H1 := ⟨fun k i hi => ⟨(h.1 k i hi).1, (h.1 k i hi).2.kept (ho _ (h.1 k i hi).2.lt)⟩, h.2⟩
def tnm : List String := ["java/lang/RuntimeException", "java/lang/Exception"]
theorem tnm_fit : ∀ n ∈ tnm, Bundle.fit n = true := by decide +kernel
/-- what 'throw new E("text")' needs -/
def tLk (own : String) (ik is ic : Nat) (cls text : String) : Prop := Bundle.fit cls = true ∧ Cond.classLink own ik cls ∈ gw ∧ Cond.initialized cls ∈ gw ∧ (own, is, text) ∈ txs ∧ (∀ w ∈ vx_atS own ic cls tnm, w ∈ gw) ∧ (∀ w ∈ Cond.classLink own ik cls :: Cond.initialized cls :: vx_atS own ic cls tnm, vx_ot w = true)
section MTHR
variable {p : Program} {l : Launch} {e : Env} {R : Room} {s : State} {m : MethodId} {args : Array Value} {below : List Frame} {meth : Method} {c : Code} {H : Heap} {locs : List Loc} {cells slots : Nat} {Q : State → Prop}
variable {cc : ByteArray} {pc : Nat} {ls : Array Slot} {rest : List Value} {D : va_G} {dA : Nat → ClassId} {base : Nat} {M M' : mM} {ad ad' : Nat → Nat → Nat} {own : String} {H0 : Heap} {P : Option Value → mM → (Nat → Nat → Nat) → Prop} {PX : String → Prop} {mc ms : Nat}
theorem x_end {t : State} (hM : mSt D dA base M ad s.heap H locs) (hz : H.size ≤ t.heap.size) (hk : ∀ q : Nat, q < H.size → t.heap[q]? = H[q]?) : mRep D dA base M ad t.heap ∧ va_F (fun q => base ≤ q) s t :=
  ⟨mRep_kept hM.1 hk, Nat.le_trans hM.2.1.1 hz, fun q h1 h2 => (hk q (Nat.lt_of_lt_of_le h1 hM.2.1.1)).trans (hM.2.1.2.1 q h1 h2)⟩
theorem r_throw {nL ik is ic : Nat} {cls text : String} (X : mCx D dA base p s m args c cc own) (hst : l.stackTraces = false) (hml : c.maxLocals = nL) (hsz : ls.size = nL) (hM : mSt D dA base M ad s.heap H locs) (hlk : meth.locks = false) (hno : ∀ x ∈ c.exceptionTable.toList, False) (hk : tLk own ik is ic cls text)
    (d0 : decode cc pc = .ok (.new ik, 3)) (d3 : decode cc (pc + 3) = .ok (.dup, 1)) (d4 : decode cc (pc + 4) = .ok (.ldc is, 2)) (d6 : decode cc (pc + 6) = .ok (.invokespecial ic, 3)) (d9 : decode cc (pc + 9) = .ok (.athrow, 1))
    (hR : 5 < R.frames ∧ (rest.map fun v => v.category).sum + 82 ≤ R.locals ∧ cells + 1 ≤ R.cells ∧ slots + 6 ≤ R.slots) (hcs : cells + 1 ≤ mc ∧ slots + 6 ≤ ms) (hPX : PX cls) :
    W p l e R s m args below meth c H locs cells slots (vx_MQ below (mPost D dA base M ad P) (mX D dA base M ad PX) args s mc ms (fun q => base ≤ q)) (F0 m pc ls rest) := by
  obtain ⟨hx, hb, hown, hts, hK, hZ⟩ := X
  obtain ⟨k1, k2, k3, k4, k5, k6⟩ := hk
  obtain ⟨sa, hstr⟩ := hZ.2.2 _ k4
  exact vx_throwS hx hb hst hown k1 tnm_fit (hts _ k2) (hts _ k3) hstr (fun w hw => hts w (k5 w hw)) k6 hZ.1 hZ.2.1 hM.2.1 (hsz.trans hml.symm) d0 d3 d4 d6 d9 (fun x hx => (hno x hx).elim) hR.1 hR.2.1 hR.2.2.1 hR.2.2.2 hlk (fun t _ h1 h2 => ⟨hPX, x_end hM h1 h2⟩) hM.2.1.2.2 hcs.1 hcs.2
theorem r_throwW {nL ik is ic : Nat} {cls text : String} (X : mCx D dA base p s m args c cc own) (hst : l.stackTraces = false) (hml : c.maxLocals = nL) (hsz : ls.size = nL) (hM : mSt D dA base M ad s.heap H locs) (hlk : meth.locks = false) (hno : ∀ x ∈ c.exceptionTable.toList, False) (hk : tLk own ik is ic cls text)
    (d0 : decode cc pc = .ok (.new ik, 3)) (d3 : decode cc (pc + 3) = .ok (.dup, 1)) (d4 : decode cc (pc + 4) = .ok (.ldc_w is, 3)) (d7 : decode cc (pc + 7) = .ok (.invokespecial ic, 3)) (d10 : decode cc (pc + 10) = .ok (.athrow, 1))
    (hR : 5 < R.frames ∧ (rest.map fun v => v.category).sum + 82 ≤ R.locals ∧ cells + 1 ≤ R.cells ∧ slots + 6 ≤ R.slots) (hcs : cells + 1 ≤ mc ∧ slots + 6 ≤ ms) (hPX : PX cls) :
    W p l e R s m args below meth c H locs cells slots (vx_MQ below (mPost D dA base M ad P) (mX D dA base M ad PX) args s mc ms (fun q => base ≤ q)) (F0 m pc ls rest) := by
  obtain ⟨hx, hb, hown, hts, hK, hZ⟩ := X
  obtain ⟨k1, k2, k3, k4, k5, k6⟩ := hk
  obtain ⟨sa, hstr⟩ := hZ.2.2 _ k4
  exact vx_throwSW hx hb hst hown k1 tnm_fit (hts _ k2) (hts _ k3) hstr (fun w hw => hts w (k5 w hw)) k6 hZ.1 hZ.2.1 hM.2.1 (hsz.trans hml.symm) d0 d3 d4 d7 d10 (fun x hx => (hno x hx).elim) hR.1 hR.2.1 hR.2.2.1 hR.2.2.2 hlk (fun t _ h1 h2 => ⟨hPX, x_end hM h1 h2⟩) hM.2.1.2.2 hcs.1 hcs.2
/-- not caught here -/
theorem m_out {E : String} {ce : Cell} {q : Addr} (hM : mSt D dA base M ad s.heap H locs) (hlk : meth.locks = false) (hno : ∀ x ∈ c.exceptionTable.toList, False) (hPX : PX E) (hcell : H[q]? = some ce) (hv : ce.vm = .none) (hcl : s.vm.findClass E = some ce.cls) (hcs : cells ≤ mc ∧ slots ≤ ms) :
    vx_W p l e R s m args below meth c H locs cells slots (vx_MQ below (mPost D dA base M ad P) (mX D dA base M ad PX) args s mc ms (fun q => base ≤ q)) (F0 m pc ls rest) q :=
  vx_out (fun x hx => (hno x hx).elim) hlk hcell hv hcl (fun t ht _ => ⟨hPX, by rw [ht]; exact hM.1, hM.2.1.F ht⟩) hM.2.1.2.2 hcs.1 hcs.2
theorem r_callX {st0 : List Value} {a : Array Value} (hr : vx_Run p l e R s m args below meth c H locs cells slots mc ms (F0 m pc ls st0) rest (mPost D dA base M ad P a) (mX D dA base M ad PX) (fun q => base ≤ q)) (hM : mSt D dA base M ad H0 H locs)
    (kx : ∀ (E : String) (ce : Cell) (q : Addr) (H1 : Heap) (locs1 : List Loc), PX E → mSt D dA base M ad H0 H1 locs1 → H1[q]? = some ce → ce.vm = .none → s.vm.findClass E = some ce.cls → vx_W p l e R s m args below meth c H1 locs1 (cells + mc) (slots + ms) Q (F0 m pc ls rest) q)
    (kk : ∀ (rv : Option Value) (M' : mM) (ad' : Nat → Nat → Nat) (H1 : Heap) (locs1 : List Loc), P rv M' ad' → mSt D dA base M' ad' H0 H1 locs1 → mExt M ad M' ad' → W p l e R s m args below meth c H1 locs1 (cells + mc) (slots + ms) Q (F0 m (pc + 3) ls (rv.toList ++ rest))) : W p l e R s m args below meth c H locs cells slots Q (F0 m pc ls st0) := by
  intro T hT X
  rcases hr T hT X with ⟨v, st₀, t, T', L, h0, X', hL, e1, e2, ⟨rv, M', ad', hv, hp, hrep, hext, hz, hkeep⟩, st⟩ | ⟨q, st₀, t, T', L, E, ce, h0, X', hL, e1, e2, ⟨hp, hrep, hz, hkeep⟩, hce, hcv, hcl, st⟩
  · cases hv
    rw [h0] at hz hkeep
    obtain ⟨t2, a1, b1⟩ := kk v M' ad' T'.heap (locs ++ L) hp ⟨by rw [e1]; exact hrep, ⟨Nat.le_trans hM.2.1.1 (by rw [e1]; exact hz), fun q h1 h2 => by rw [e1, hkeep q (Nat.lt_of_lt_of_le h1 hM.2.1.1) h2]; exact hM.2.1.2.1 q h1 h2, fun q hq => by
        rcases List.mem_append.mp hq with h | h
        · exact hM.2.1.2.2 q h
        · exact hL q h⟩, hM.2.2⟩ hext T' rfl X'
    exact ⟨t2, st t2 a1, b1⟩
  · rw [h0] at hz hkeep
    obtain ⟨t2, a1, b1⟩ := kx E ce q T'.heap (locs ++ L) hp ⟨by rw [e1]; exact hrep, ⟨Nat.le_trans hM.2.1.1 (by rw [e1]; exact hz), fun q h1 h2 => by rw [e1, hkeep q (Nat.lt_of_lt_of_le h1 hM.2.1.1) h2]; exact hM.2.1.2.1 q h1 h2, fun q hq => by
        rcases List.mem_append.mp hq with h | h
        · exact hM.2.1.2.2 q h
        · exact hL q h⟩, hM.2.2⟩ (by rw [e1]; exact hce) hcv hcl T' rfl X'
    exact ⟨t2, st.trans a1, b1⟩
variable {y : MethodName} {bytes : ByteArray} {maxL nL n idx : Nat} {ret : Option FieldType} {rm : Room} {As : List Value}
theorem r_cVX {k i b : Nat} (X : mCx D dA base p s m args c cc own) (hml : c.maxLocals = nL) (hsz : ls.size = nL) (hM : mSt D dA base M ad s.heap H locs) (hC : mMetX l y bytes maxL ret rm mc ms D dA base M ad (.ref b :: As) P PX) (hk : cLk own idx y bytes maxL ret n) (hl : Cond.methodLink own idx y ∈ gw) (hk2 : Cond.instanceMethod y ∈ gw ∧ Cond.selects y.cls y y ∈ gw) (hkc : kcls k y.cls) (ha : ad k i = b) (hi : i < gn M k) (hn : As.length = n) (hcat : (rest.map fun v => v.category).sum ≤ 8)
    (hroom : rm.cells = mc ∧ rm.slots = ms ∧ rm.frames + 1 ≤ R.frames ∧ 8 + (maxL + 11) + rm.locals ≤ R.locals) (hcs : cells + mc ≤ R.cells ∧ slots + ms ≤ R.slots) (hdg : decode cc pc = .ok (.invokevirtual idx, 3))
    (kx : ∀ (E : String) (ce : Cell) (q : Addr) (H1 : Heap) (locs1 : List Loc), PX E → mSt D dA base M ad s.heap H1 locs1 → H1[q]? = some ce → ce.vm = .none → s.vm.findClass E = some ce.cls → vx_W p l e R s m args below meth c H1 locs1 (cells + mc) (slots + ms) Q (F0 m pc ls rest) q)
    (kk : ∀ (rv : Option Value) (M' : mM) (ad' : Nat → Nat → Nat) (H1 : Heap) (locs1 : List Loc), P rv M' ad' → mSt D dA base M' ad' s.heap H1 locs1 → mExt M ad M' ad' → W p l e R s m args below meth c H1 locs1 (cells + mc) (slots + ms) Q (F0 m (pc + 3) ls (rv.toList ++ rest))) : W p l e R s m args below meth c H locs cells slots Q (F0 m pc ls (As.reverse ++ .ref b :: rest)) := by
  have hts := X.2.2.2.1
  have hpre : PreV s H y.cls b (mPre D dA base M ad (.ref b :: As)) As := ⟨mPre_blind, r_recv X hM hkc ha hi, r_pre X hM _ (X_wd X)⟩
  exact r_callX (vx_runV ⟨X.1, X.2.1, hml, X.2.2.1, hts⟩ hC ⟨cLk_B hk hl hts hroom.1 hroom.2.1 hroom.2.2, hts _ hk2.1, hts _ hk2.2⟩ hpre rfl hn hsz rfl (lv_room hcat) hdg hcs) hM kx kk
theorem r_cSX (X : mCx D dA base p s m args c cc own) (hml : c.maxLocals = nL) (hsz : ls.size = nL) (hM : mSt D dA base M ad s.heap H locs) (hC : mMetX l y bytes maxL ret rm mc ms D dA base M ad As P PX) (hk : cLk own idx y bytes maxL ret n) (hl : Cond.methodLink own idx y ∈ gw) (hk2 : Cond.static y ∈ gw) (hn : As.length = n) (hcat : (rest.map fun v => v.category).sum ≤ 8)
    (hroom : rm.cells = mc ∧ rm.slots = ms ∧ rm.frames + 1 ≤ R.frames ∧ 8 + (maxL + 11) + rm.locals ≤ R.locals) (hcs : cells + mc ≤ R.cells ∧ slots + ms ≤ R.slots) (hdg : decode cc pc = .ok (.invokestatic idx, 3))
    (kx : ∀ (E : String) (ce : Cell) (q : Addr) (H1 : Heap) (locs1 : List Loc), PX E → mSt D dA base M ad s.heap H1 locs1 → H1[q]? = some ce → ce.vm = .none → s.vm.findClass E = some ce.cls → vx_W p l e R s m args below meth c H1 locs1 (cells + mc) (slots + ms) Q (F0 m pc ls rest) q)
    (kk : ∀ (rv : Option Value) (M' : mM) (ad' : Nat → Nat → Nat) (H1 : Heap) (locs1 : List Loc), P rv M' ad' → mSt D dA base M' ad' s.heap H1 locs1 → mExt M ad M' ad' → W p l e R s m args below meth c H1 locs1 (cells + mc) (slots + ms) Q (F0 m (pc + 3) ls (rv.toList ++ rest))) : W p l e R s m args below meth c H locs cells slots Q (F0 m pc ls (As.reverse ++ rest)) := by
  have hts := X.2.2.2.1
  have hpre : PreS s H (mPre D dA base M ad As) As := ⟨mPre_blind, r_pre X hM _ (X_wd X)⟩
  exact r_callX (vx_runS ⟨X.1, X.2.1, hml, X.2.2.1, hts⟩ hC ⟨cLk_B hk hl hts hroom.1 hroom.2.1 hroom.2.2, hts _ hk2⟩ hpre rfl hn hsz rfl (lv_room hcat) hdg hcs) hM kx kk
end MTHR
