def wI (M : mM) : Prop := wK M ∧ wT M ∧ wO M
/-- what a call leaves: its number in the law's array if it answered -/
def outM (M : mM) (F : Nat × Int32 × mM) : mM := if F.1 = 0 then sl F.2.2 17 0 0 F.2.1.toInt64 else M
theorem outM_0 {M : mM} {F : Nat × Int32 × mM} (h : F.1 = 0) : outM M F = sl F.2.2 17 0 0 F.2.1.toInt64 := if_pos h
theorem outM_1 {M : mM} {F : Nat × Int32 × mM} (h : F.1 ≠ 0) : outM M F = M := if_neg h
def fSv (M : mM) (a k b f d : Int32) : Nat × Int32 × mM := if svOk a b f d then (0, 0, si (si (si (si M 1 a.toNatClampNeg 0 k) 1 a.toNatClampNeg 1 b) 1 a.toNatClampNeg 2 f) 1 a.toNatClampNeg 3 d) else (1, 0, M)
def fJb (M : mM) (kd x s : Int32) : Nat × Int32 × mM := (jbXc M kd x s, (jbM M kd x s).1, (jbM M kd x s).2)
def fSp (M : mM) (x : Int32) : Nat × Int32 × mM := (spXc M x, match fstR M x with
  | some j => (nI j, spM M x j)
  | none => (0, M))
def fOp (M : mM) (x : Int32) : Nat × Int32 × mM := (opXc M x, nI (lfc M), opM M x)
def fCl (M : mM) (k : Int32) : Nat × Int32 × mM := (if cOk M k then 0 else 1, num M (gr M 2 k.toNatClampNeg 2), clM M k.toNatClampNeg)
def fCm (M : mM) (x : Int32) : Nat × Int32 × mM := (ndXc M x (fun g => gr M 5 g 4), match rgOf M x with
  | none => (0, M)
  | some g => match gr M 5 g 4 with
    | none => (0, M)
    | some a => (nI (clL M g a 8).2, cmM M g a))
def fSk (M : mM) (x : Int32) : Nat × Int32 × mM := (ndXc M x (skW M), match rgOf M x with
  | none => (0, M)
  | some g => match skW M g with
    | none => (0, M)
    | some w => (gi M 7 w 0, skM M g w))
def fRg (M : mM) (x w : Int32) : Nat × Int32 × mM := (rgXc M x w, match rgOf M x with
  | none => (0, M)
  | some g => (rgW M g w, M))
def fWk (M : mM) (w q : Int32) : Nat × Int32 × mM := (wkXc M w q, wkW M (w - 1).toNatClampNeg q, M)
def fOc (M : mM) (x : Int32) : Nat × Int32 × mM := (if jOk M x then 0 else 1, gi M 4 x.toNatClampNeg 5, M)
def fTr (M : mM) (x : Int32) : Nat × Int32 × mM := (if 0 ≤ x ∧ x < gi M 3 0 1 then 0 else 1, gi M 14 0 x.toNatClampNeg, M)
def fCt (M : mM) (q : Int32) : Nat × Int32 × mM := (if ctOk q then 0 else 1, ctV M q, M)
theorem fSp_2 {M : mM} {x : Int32} {j : Nat} (h : fstR M x = some j) : (fSp M x).2 = (nI j, spM M x j) := by simp only [fSp, h]
theorem fCm_2 {M : mM} {x : Int32} {g a : Nat} (h : rgOf M x = some g) (h2 : gr M 5 g 4 = some a) : (fCm M x).2 = (nI (clL M g a 8).2, cmM M g a) := by simp only [fCm, h, h2]
theorem fSk_2 {M : mM} {x : Int32} {g w : Nat} (h : rgOf M x = some g) (h2 : skW M g = some w) : (fSk M x).2 = (gi M 7 w 0, skM M g w) := by simp only [fSk, h, h2]
theorem fRg_2 {M : mM} {x w : Int32} {g : Nat} (h : rgOf M x = some g) : (fRg M x w).2 = (rgW M g w, M) := by simp only [fRg, h]
set_option maxHeartbeats 4000000 in
theorem q_serve {p : Program} {l : Launch} {e : Env} {R : Room} {s : State} {m : MethodId} {args : Array Value} {below : List Frame} {meth : Method} {c : Code} {H : Heap} {locs : List Loc} {cells slots : Nat} {Q : State → Prop} {cc : ByteArray} {pc nL : Nat} {ls : Array Slot} {rest : List Value} {D : va_G} {dA : Nat → ClassId} {base : Nat} {M : mM} {ad : Nat → Nat → Nat} {a k b f d : Int32} (X : mCx D dA base p s m args c cc "ScopeKeeperLaw") (hst : l.stackTraces = false) (hml : c.maxLocals = nL) (hsz : ls.size = nL) (hM : mSt D dA base M ad s.heap H locs) (hN : mN s) (hI : wI M) (h17 : 0 < gn M 17) (hcat : (rest.map fun v => v.category).sum ≤ 8) (hroom : 10 ≤ R.frames ∧ 330 ≤ R.locals) (hcs : cells + 8 ≤ R.cells ∧ slots + 40 ≤ R.slots) (hdg : decode cc pc = .ok (.invokestatic 66, 3))
    (kk : ∀ (ad' : Nat → Nat → Nat) (H1 : Heap) (locs1 : List Loc), mSt D dA base ((fSv M a k b f d).2.2) ad' s.heap H1 locs1 → mExt M ad ((fSv M a k b f d).2.2) ad' → W p l e R s m args below meth c H1 locs1 (cells + 8) (slots + 40) Q (F0 m (pc + 3) ls (.int (nI (fSv M a k b f d).1) :: rest))) : W p l e R s m args below meth c H locs cells slots Q (F0 m pc ls (.int d :: .int f :: .int b :: .int k :: .int a :: .ref (ad 0 0) :: rest)) := by
  refine r_cSH (As := [.ref (ad 0 0), .int a, .int k, .int b, .int f, .int d]) X hml hsz hM hN (k_Lw_serve l D dA base M ad a k b f d (w_k hI.1) h17 _ _ _ _ _ ⟨rfl, rfl, by decide, by decide, by decide, by decide⟩ (k_K_serve l hst D dA base M ad hI.1 a k b f d) (fun rv N ad1 h => by exact h.2.1) (fun E h => h.2)) h_Lw_66 rfl hcat ⟨rfl, rfl, by dsimp only; omega, by dsimp only; omega⟩ ⟨by omega, by omega⟩ hdg ?_
  intro rv M1 ad1 H1 locs1 hP hM1 hE
  rcases hP with ⟨N, ⟨h, -, h2, -⟩, rfl, h3⟩ | ⟨h, rfl, h5, h6⟩
  · have e : fSv M a k b f d = (0, 0, N) := by rw [h2]; exact if_pos h
    subst h3
    rw [e] at kk
    exact kk ad1 H1 locs1 hM1 hE
  · subst M1; subst ad1
    have e : fSv M a k b f d = (1, 0, M) := if_neg h.1
    rw [e] at kk
    exact kk ad H1 locs1 hM1 hE
set_option maxHeartbeats 4000000 in
theorem q_job {p : Program} {l : Launch} {e : Env} {R : Room} {s : State} {m : MethodId} {args : Array Value} {below : List Frame} {meth : Method} {c : Code} {H : Heap} {locs : List Loc} {cells slots : Nat} {Q : State → Prop} {cc : ByteArray} {pc nL : Nat} {ls : Array Slot} {rest : List Value} {D : va_G} {dA : Nat → ClassId} {base : Nat} {M : mM} {ad : Nat → Nat → Nat} {kd x s0 : Int32} (X : mCx D dA base p s m args c cc "ScopeKeeperLaw") (hst : l.stackTraces = false) (hml : c.maxLocals = nL) (hsz : ls.size = nL) (hM : mSt D dA base M ad s.heap H locs) (hN : mN s) (hI : wI M) (h17 : 0 < gn M 17) (hcat : (rest.map fun v => v.category).sum ≤ 8) (hroom : 10 ≤ R.frames ∧ 330 ≤ R.locals) (hcs : cells + 8 ≤ R.cells ∧ slots + 40 ≤ R.slots) (hdg : decode cc pc = .ok (.invokestatic 81, 3))
    (kk : ∀ (ad' : Nat → Nat → Nat) (H1 : Heap) (locs1 : List Loc), mSt D dA base (outM M (fJb M kd x s0)) ad' s.heap H1 locs1 → mExt M ad (outM M (fJb M kd x s0)) ad' → W p l e R s m args below meth c H1 locs1 (cells + 8) (slots + 40) Q (F0 m (pc + 3) ls (.int (nI (fJb M kd x s0).1) :: rest))) : W p l e R s m args below meth c H locs cells slots Q (F0 m pc ls (.ref (ad 17 0) :: .int s0 :: .int x :: .int kd :: .ref (ad 0 0) :: rest)) := by
  refine r_cSH (As := [.ref (ad 0 0), .int kd, .int x, .int s0, .ref (ad 17 0)]) X hml hsz hM hN (k_Lw_job l D dA base M ad kd x s0 (w_k hI.1) h17 _ _ _ _ _ ⟨rfl, rfl, by decide, by decide, by decide, by decide⟩ (k_K_job l hst D dA base M ad hI.1 kd x s0) (fun rv N ad1 h => by exact ⟨_, h.2.1⟩) (fun E h => h.imp And.right And.right)) h_Lw_81 rfl hcat ⟨rfl, rfl, by dsimp only; omega, by dsimp only; omega⟩ ⟨by omega, by omega⟩ hdg ?_
  intro rv M1 ad1 H1 locs1 hP hM1 hE
  rcases hP with ⟨N, r, ⟨h1, h2, h3⟩, rfl, rfl⟩ | ⟨h, rfl, h5, h6⟩ | ⟨h, rfl, h5, h6⟩
  · have e1 : (fJb M kd x s0).1 = 0 := h1
    have e2 : r = (fJb M kd x s0).2.1 := Value.int.inj (Option.some.inj h2)
    have e3 : N = (fJb M kd x s0).2.2 := h3
    rw [e2, e3, ← outM_0 (M := M) e1] at hM1 hE
    have kk := kk ad1 H1 locs1 hM1 hE
    rw [e1] at kk
    exact kk
  · subst M1; subst ad1
    have e1 : (fJb M kd x s0).1 = 1 := by rcases h with h | h <;> first | exact absurd h.2 (by decide) | exact h.1
    rw [outM_1 (by rw [e1]; decide), e1] at kk
    exact kk ad H1 locs1 hM1 hE
  · subst M1; subst ad1
    have e1 : (fJb M kd x s0).1 = 2 := by rcases h with h | h <;> first | exact absurd h.2 (by decide) | exact h.1
    rw [outM_1 (by rw [e1]; decide), e1] at kk
    exact kk ad H1 locs1 hM1 hE
set_option maxHeartbeats 4000000 in
theorem q_step {p : Program} {l : Launch} {e : Env} {R : Room} {s : State} {m : MethodId} {args : Array Value} {below : List Frame} {meth : Method} {c : Code} {H : Heap} {locs : List Loc} {cells slots : Nat} {Q : State → Prop} {cc : ByteArray} {pc nL : Nat} {ls : Array Slot} {rest : List Value} {D : va_G} {dA : Nat → ClassId} {base : Nat} {M : mM} {ad : Nat → Nat → Nat} {x : Int32} (X : mCx D dA base p s m args c cc "ScopeKeeperLaw") (hst : l.stackTraces = false) (hml : c.maxLocals = nL) (hsz : ls.size = nL) (hM : mSt D dA base M ad s.heap H locs) (hN : mN s) (hI : wI M) (h17 : 0 < gn M 17) (hcat : (rest.map fun v => v.category).sum ≤ 8) (hroom : 10 ≤ R.frames ∧ 330 ≤ R.locals) (hcs : cells + 8 ≤ R.cells ∧ slots + 40 ≤ R.slots) (hdg : decode cc pc = .ok (.invokestatic 85, 3))
    (kk : ∀ (ad' : Nat → Nat → Nat) (H1 : Heap) (locs1 : List Loc), mSt D dA base (outM M (fSp M x)) ad' s.heap H1 locs1 → mExt M ad (outM M (fSp M x)) ad' → W p l e R s m args below meth c H1 locs1 (cells + 8) (slots + 40) Q (F0 m (pc + 3) ls (.int (nI (fSp M x).1) :: rest))) : W p l e R s m args below meth c H locs cells slots Q (F0 m pc ls (.ref (ad 17 0) :: .int x :: .ref (ad 0 0) :: rest)) := by
  refine r_cSH (As := [.ref (ad 0 0), .int x, .ref (ad 17 0)]) X hml hsz hM hN (k_Lw_step l D dA base M ad x (w_k hI.1) h17 _ _ _ _ _ ⟨rfl, rfl, by decide, by decide, by decide, by decide⟩ (k_K_step l hst D dA base M ad hI.1 hI.2.1 hI.2.2 x) (fun rv N ad1 h => by obtain ⟨j, h⟩ := h; exact ⟨_, h.2.2.1⟩) (fun E h => h.imp And.right And.right)) h_Lw_85 rfl hcat ⟨rfl, rfl, by dsimp only; omega, by dsimp only; omega⟩ ⟨by omega, by omega⟩ hdg ?_
  intro rv M1 ad1 H1 locs1 hP hM1 hE
  rcases hP with ⟨N, r, ⟨j, h1, hj, h2, h3⟩, rfl, rfl⟩ | ⟨h, rfl, h5, h6⟩ | ⟨h, rfl, h5, h6⟩
  · have e1 : (fSp M x).1 = 0 := h1
    have e2 : r = (fSp M x).2.1 := by rw [fSp_2 hj]; exact Value.int.inj (Option.some.inj h2)
    have e3 : N = (fSp M x).2.2 := by rw [fSp_2 hj]; exact h3
    rw [e2, e3, ← outM_0 (M := M) e1] at hM1 hE
    have kk := kk ad1 H1 locs1 hM1 hE
    rw [e1] at kk
    exact kk
  · subst M1; subst ad1
    have e1 : (fSp M x).1 = 1 := by rcases h with h | h <;> first | exact absurd h.2 (by decide) | exact h.1
    rw [outM_1 (by rw [e1]; decide), e1] at kk
    exact kk ad H1 locs1 hM1 hE
  · subst M1; subst ad1
    have e1 : (fSp M x).1 = 2 := by rcases h with h | h <;> first | exact absurd h.2 (by decide) | exact h.1
    rw [outM_1 (by rw [e1]; decide), e1] at kk
    exact kk ad H1 locs1 hM1 hE
set_option maxHeartbeats 4000000 in
theorem q_open {p : Program} {l : Launch} {e : Env} {R : Room} {s : State} {m : MethodId} {args : Array Value} {below : List Frame} {meth : Method} {c : Code} {H : Heap} {locs : List Loc} {cells slots : Nat} {Q : State → Prop} {cc : ByteArray} {pc nL : Nat} {ls : Array Slot} {rest : List Value} {D : va_G} {dA : Nat → ClassId} {base : Nat} {M : mM} {ad : Nat → Nat → Nat} {x : Int32} (X : mCx D dA base p s m args c cc "ScopeKeeperLaw") (hst : l.stackTraces = false) (hml : c.maxLocals = nL) (hsz : ls.size = nL) (hM : mSt D dA base M ad s.heap H locs) (hN : mN s) (hI : wI M) (h17 : 0 < gn M 17) (hcat : (rest.map fun v => v.category).sum ≤ 8) (hroom : 10 ≤ R.frames ∧ 330 ≤ R.locals) (hcs : cells + 8 ≤ R.cells ∧ slots + 40 ≤ R.slots) (hdg : decode cc pc = .ok (.invokestatic 89, 3))
    (kk : ∀ (ad' : Nat → Nat → Nat) (H1 : Heap) (locs1 : List Loc), mSt D dA base (outM M (fOp M x)) ad' s.heap H1 locs1 → mExt M ad (outM M (fOp M x)) ad' → W p l e R s m args below meth c H1 locs1 (cells + 8) (slots + 40) Q (F0 m (pc + 3) ls (.int (nI (fOp M x).1) :: rest))) : W p l e R s m args below meth c H locs cells slots Q (F0 m pc ls (.ref (ad 17 0) :: .int x :: .ref (ad 0 0) :: rest)) := by
  refine r_cSH (As := [.ref (ad 0 0), .int x, .ref (ad 17 0)]) X hml hsz hM hN (k_Lw_open l D dA base M ad x (w_k hI.1) h17 _ _ _ _ _ ⟨rfl, rfl, by decide, by decide, by decide, by decide⟩ (k_K_open l hst D dA base M ad hI.1 x) (fun rv N ad1 h => by exact ⟨_, h.2.1⟩) (fun E h => h.imp And.right And.right)) h_Lw_89 rfl hcat ⟨rfl, rfl, by dsimp only; omega, by dsimp only; omega⟩ ⟨by omega, by omega⟩ hdg ?_
  intro rv M1 ad1 H1 locs1 hP hM1 hE
  rcases hP with ⟨N, r, ⟨h1, h2, h3, -⟩, rfl, rfl⟩ | ⟨h, rfl, h5, h6⟩ | ⟨h, rfl, h5, h6⟩
  · have e1 : (fOp M x).1 = 0 := h1
    have e2 : r = (fOp M x).2.1 := Value.int.inj (Option.some.inj h2)
    have e3 : N = (fOp M x).2.2 := h3
    rw [e2, e3, ← outM_0 (M := M) e1] at hM1 hE
    have kk := kk ad1 H1 locs1 hM1 hE
    rw [e1] at kk
    exact kk
  · subst M1; subst ad1
    have e1 : (fOp M x).1 = 1 := by rcases h with h | h <;> first | exact absurd h.2 (by decide) | exact h.1
    rw [outM_1 (by rw [e1]; decide), e1] at kk
    exact kk ad H1 locs1 hM1 hE
  · subst M1; subst ad1
    have e1 : (fOp M x).1 = 2 := by rcases h with h | h <;> first | exact absurd h.2 (by decide) | exact h.1
    rw [outM_1 (by rw [e1]; decide), e1] at kk
    exact kk ad H1 locs1 hM1 hE
set_option maxHeartbeats 4000000 in
theorem q_close {p : Program} {l : Launch} {e : Env} {R : Room} {s : State} {m : MethodId} {args : Array Value} {below : List Frame} {meth : Method} {c : Code} {H : Heap} {locs : List Loc} {cells slots : Nat} {Q : State → Prop} {cc : ByteArray} {pc nL : Nat} {ls : Array Slot} {rest : List Value} {D : va_G} {dA : Nat → ClassId} {base : Nat} {M : mM} {ad : Nat → Nat → Nat} {k : Int32} (X : mCx D dA base p s m args c cc "ScopeKeeperLaw") (hst : l.stackTraces = false) (hml : c.maxLocals = nL) (hsz : ls.size = nL) (hM : mSt D dA base M ad s.heap H locs) (hN : mN s) (hI : wI M) (h17 : 0 < gn M 17) (hcat : (rest.map fun v => v.category).sum ≤ 8) (hroom : 10 ≤ R.frames ∧ 330 ≤ R.locals) (hcs : cells + 8 ≤ R.cells ∧ slots + 40 ≤ R.slots) (hdg : decode cc pc = .ok (.invokestatic 92, 3))
    (kk : ∀ (ad' : Nat → Nat → Nat) (H1 : Heap) (locs1 : List Loc), mSt D dA base (outM M (fCl M k)) ad' s.heap H1 locs1 → mExt M ad (outM M (fCl M k)) ad' → W p l e R s m args below meth c H1 locs1 (cells + 8) (slots + 40) Q (F0 m (pc + 3) ls (.int (nI (fCl M k).1) :: rest))) : W p l e R s m args below meth c H locs cells slots Q (F0 m pc ls (.ref (ad 17 0) :: .int k :: .ref (ad 0 0) :: rest)) := by
  refine r_cSH (As := [.ref (ad 0 0), .int k, .ref (ad 17 0)]) X hml hsz hM hN (k_Lw_close l D dA base M ad k (w_k hI.1) h17 _ _ _ _ _ ⟨rfl, rfl, by decide, by decide, by decide, by decide⟩ (k_K_close l hst D dA base M ad hI.1 hI.2.1 k) (fun rv N ad1 h => by exact ⟨_, h.2.1⟩) (fun E h => h.2)) h_Lw_92 rfl hcat ⟨rfl, rfl, by dsimp only; omega, by dsimp only; omega⟩ ⟨by omega, by omega⟩ hdg ?_
  intro rv M1 ad1 H1 locs1 hP hM1 hE
  rcases hP with ⟨N, r, ⟨h1, h2, h3, -⟩, rfl, rfl⟩ | ⟨h, rfl, h5, h6⟩
  · have e1 : (fCl M k).1 = 0 := if_pos h1
    have e2 : r = (fCl M k).2.1 := Value.int.inj (Option.some.inj h2)
    have e3 : N = (fCl M k).2.2 := h3
    rw [e2, e3, ← outM_0 (M := M) e1] at hM1 hE
    have kk := kk ad1 H1 locs1 hM1 hE
    rw [e1] at kk
    exact kk
  · subst M1; subst ad1
    have e1 : (fCl M k).1 = 1 := if_neg h.1
    rw [outM_1 (by rw [e1]; decide), e1] at kk
    exact kk ad H1 locs1 hM1 hE
set_option maxHeartbeats 4000000 in
theorem q_claim {p : Program} {l : Launch} {e : Env} {R : Room} {s : State} {m : MethodId} {args : Array Value} {below : List Frame} {meth : Method} {c : Code} {H : Heap} {locs : List Loc} {cells slots : Nat} {Q : State → Prop} {cc : ByteArray} {pc nL : Nat} {ls : Array Slot} {rest : List Value} {D : va_G} {dA : Nat → ClassId} {base : Nat} {M : mM} {ad : Nat → Nat → Nat} {x : Int32} (X : mCx D dA base p s m args c cc "ScopeKeeperLaw") (hst : l.stackTraces = false) (hml : c.maxLocals = nL) (hsz : ls.size = nL) (hM : mSt D dA base M ad s.heap H locs) (hN : mN s) (hI : wI M) (h17 : 0 < gn M 17) (hcat : (rest.map fun v => v.category).sum ≤ 8) (hroom : 10 ≤ R.frames ∧ 330 ≤ R.locals) (hcs : cells + 8 ≤ R.cells ∧ slots + 40 ≤ R.slots) (hdg : decode cc pc = .ok (.invokestatic 95, 3))
    (kk : ∀ (ad' : Nat → Nat → Nat) (H1 : Heap) (locs1 : List Loc), mSt D dA base (outM M (fCm M x)) ad' s.heap H1 locs1 → mExt M ad (outM M (fCm M x)) ad' → W p l e R s m args below meth c H1 locs1 (cells + 8) (slots + 40) Q (F0 m (pc + 3) ls (.int (nI (fCm M x).1) :: rest))) : W p l e R s m args below meth c H locs cells slots Q (F0 m pc ls (.ref (ad 17 0) :: .int x :: .ref (ad 0 0) :: rest)) := by
  refine r_cSH (As := [.ref (ad 0 0), .int x, .ref (ad 17 0)]) X hml hsz hM hN (k_Lw_claim l D dA base M ad x (w_k hI.1) h17 _ _ _ _ _ ⟨rfl, rfl, by decide, by decide, by decide, by decide⟩ (k_K_claim l hst D dA base M ad hI.1 hI.2.1 x) (fun rv N ad1 h => by obtain ⟨g, a, h⟩ := h; exact ⟨_, h.2.2.2.1⟩) (fun E h => h.imp And.right (Or.imp And.right And.right))) h_Lw_95 rfl hcat ⟨rfl, rfl, by dsimp only; omega, by dsimp only; omega⟩ ⟨by omega, by omega⟩ hdg ?_
  intro rv M1 ad1 H1 locs1 hP hM1 hE
  rcases hP with ⟨N, r, ⟨g, a, h1, hg, ha, h2, h3, -⟩, rfl, rfl⟩ | ⟨h, rfl, h5, h6⟩ | ⟨h, rfl, h5, h6⟩ | ⟨h, rfl, h5, h6⟩
  · have e1 : (fCm M x).1 = 0 := h1
    have e2 : r = (fCm M x).2.1 := by have h9 := Value.int.inj (Option.some.inj h2); simp only [fCm_2 hg ha]; exact h9
    have e3 : N = (fCm M x).2.2 := by simp only [fCm_2 hg ha]; exact h3
    rw [e2, e3, ← outM_0 (M := M) e1] at hM1 hE
    have kk := kk ad1 H1 locs1 hM1 hE
    rw [e1] at kk
    exact kk
  · subst M1; subst ad1
    have e1 : (fCm M x).1 = 1 := by rcases h with h | h | h <;> first | exact absurd h.2 (by decide) | exact h.1
    rw [outM_1 (by rw [e1]; decide), e1] at kk
    exact kk ad H1 locs1 hM1 hE
  · subst M1; subst ad1
    have e1 : (fCm M x).1 = 2 := by rcases h with h | h | h <;> first | exact absurd h.2 (by decide) | exact h.1
    rw [outM_1 (by rw [e1]; decide), e1] at kk
    exact kk ad H1 locs1 hM1 hE
  · subst M1; subst ad1
    have e1 : (fCm M x).1 = 3 := by rcases h with h | h | h <;> first | exact absurd h.2 (by decide) | exact h.1
    rw [outM_1 (by rw [e1]; decide), e1] at kk
    exact kk ad H1 locs1 hM1 hE
set_option maxHeartbeats 4000000 in
theorem q_skip {p : Program} {l : Launch} {e : Env} {R : Room} {s : State} {m : MethodId} {args : Array Value} {below : List Frame} {meth : Method} {c : Code} {H : Heap} {locs : List Loc} {cells slots : Nat} {Q : State → Prop} {cc : ByteArray} {pc nL : Nat} {ls : Array Slot} {rest : List Value} {D : va_G} {dA : Nat → ClassId} {base : Nat} {M : mM} {ad : Nat → Nat → Nat} {x : Int32} (X : mCx D dA base p s m args c cc "ScopeKeeperLaw") (hst : l.stackTraces = false) (hml : c.maxLocals = nL) (hsz : ls.size = nL) (hM : mSt D dA base M ad s.heap H locs) (hN : mN s) (hI : wI M) (h17 : 0 < gn M 17) (hcat : (rest.map fun v => v.category).sum ≤ 8) (hroom : 10 ≤ R.frames ∧ 330 ≤ R.locals) (hcs : cells + 8 ≤ R.cells ∧ slots + 40 ≤ R.slots) (hdg : decode cc pc = .ok (.invokestatic 98, 3))
    (kk : ∀ (ad' : Nat → Nat → Nat) (H1 : Heap) (locs1 : List Loc), mSt D dA base (outM M (fSk M x)) ad' s.heap H1 locs1 → mExt M ad (outM M (fSk M x)) ad' → W p l e R s m args below meth c H1 locs1 (cells + 8) (slots + 40) Q (F0 m (pc + 3) ls (.int (nI (fSk M x).1) :: rest))) : W p l e R s m args below meth c H locs cells slots Q (F0 m pc ls (.ref (ad 17 0) :: .int x :: .ref (ad 0 0) :: rest)) := by
  refine r_cSH (As := [.ref (ad 0 0), .int x, .ref (ad 17 0)]) X hml hsz hM hN (k_Lw_skip l D dA base M ad x (w_k hI.1) h17 _ _ _ _ _ ⟨rfl, rfl, by decide, by decide, by decide, by decide⟩ (k_K_skip l hst D dA base M ad hI.1 hI.2.1 x) (fun rv N ad1 h => by obtain ⟨g, w, h⟩ := h; exact ⟨_, h.2.2.2.1⟩) (fun E h => h.imp And.right (Or.imp And.right And.right))) h_Lw_98 rfl hcat ⟨rfl, rfl, by dsimp only; omega, by dsimp only; omega⟩ ⟨by omega, by omega⟩ hdg ?_
  intro rv M1 ad1 H1 locs1 hP hM1 hE
  rcases hP with ⟨N, r, ⟨g, w, h1, hg, ha, h2, h3, -⟩, rfl, rfl⟩ | ⟨h, rfl, h5, h6⟩ | ⟨h, rfl, h5, h6⟩ | ⟨h, rfl, h5, h6⟩
  · have e1 : (fSk M x).1 = 0 := h1
    have e2 : r = (fSk M x).2.1 := by rw [fSk_2 hg ha]; exact Value.int.inj (Option.some.inj h2)
    have e3 : N = (fSk M x).2.2 := by rw [fSk_2 hg ha]; exact h3
    rw [e2, e3, ← outM_0 (M := M) e1] at hM1 hE
    have kk := kk ad1 H1 locs1 hM1 hE
    rw [e1] at kk
    exact kk
  · subst M1; subst ad1
    have e1 : (fSk M x).1 = 1 := by rcases h with h | h | h <;> first | exact absurd h.2 (by decide) | exact h.1
    rw [outM_1 (by rw [e1]; decide), e1] at kk
    exact kk ad H1 locs1 hM1 hE
  · subst M1; subst ad1
    have e1 : (fSk M x).1 = 2 := by rcases h with h | h | h <;> first | exact absurd h.2 (by decide) | exact h.1
    rw [outM_1 (by rw [e1]; decide), e1] at kk
    exact kk ad H1 locs1 hM1 hE
  · subst M1; subst ad1
    have e1 : (fSk M x).1 = 3 := by rcases h with h | h | h <;> first | exact absurd h.2 (by decide) | exact h.1
    rw [outM_1 (by rw [e1]; decide), e1] at kk
    exact kk ad H1 locs1 hM1 hE
set_option maxHeartbeats 4000000 in
theorem q_fetch {p : Program} {l : Launch} {e : Env} {R : Room} {s : State} {m : MethodId} {args : Array Value} {below : List Frame} {meth : Method} {c : Code} {H : Heap} {locs : List Loc} {cells slots : Nat} {Q : State → Prop} {cc : ByteArray} {pc nL : Nat} {ls : Array Slot} {rest : List Value} {D : va_G} {dA : Nat → ClassId} {base : Nat} {M : mM} {ad : Nat → Nat → Nat} {k x : Int32} (X : mCx D dA base p s m args c cc "ScopeKeeperLaw") (hst : l.stackTraces = false) (hml : c.maxLocals = nL) (hsz : ls.size = nL) (hM : mSt D dA base M ad s.heap H locs) (hN : mN s) (hI : wI M) (h17 : 0 < gn M 17) (hcat : (rest.map fun v => v.category).sum ≤ 8) (hroom : 10 ≤ R.frames ∧ 330 ≤ R.locals) (hcs : cells + 8 ≤ R.cells ∧ slots + 40 ≤ R.slots) (hdg : decode cc pc = .ok (.invokestatic 101, 3))
    (kk : ∀ (ad' : Nat → Nat → Nat) (H1 : Heap) (locs1 : List Loc), mSt D dA base (outM M (ftF M k x)) ad' s.heap H1 locs1 → mExt M ad (outM M (ftF M k x)) ad' → W p l e R s m args below meth c H1 locs1 (cells + 8) (slots + 40) Q (F0 m (pc + 3) ls (.int (nI (ftF M k x).1) :: rest))) : W p l e R s m args below meth c H locs cells slots Q (F0 m pc ls (.ref (ad 17 0) :: .int x :: .int k :: .ref (ad 0 0) :: rest)) := by
  refine r_cSH (As := [.ref (ad 0 0), .int k, .int x, .ref (ad 17 0)]) X hml hsz hM hN (k_Lw_fetch l D dA base M ad k x (w_k hI.1) h17 _ _ _ _ _ ⟨rfl, rfl, by decide, by decide, by decide, by decide⟩ (k_K_fetch l hst D dA base M ad hI.1 (wCa_of hI.1 hI.2.2) k x) (fun rv N ad1 h => by exact ⟨_, h.2.1⟩) (fun E h => h.imp And.right (Or.imp And.right And.right))) h_Lw_101 rfl hcat ⟨rfl, rfl, by dsimp only; omega, by dsimp only; omega⟩ ⟨by omega, by omega⟩ hdg ?_
  intro rv M1 ad1 H1 locs1 hP hM1 hE
  rcases hP with ⟨N, r, ⟨h1, h2, h3, -⟩, rfl, rfl⟩ | ⟨h, rfl, h5, h6⟩ | ⟨h, rfl, h5, h6⟩ | ⟨h, rfl, h5, h6⟩
  · have e1 : (ftF M k x).1 = 0 := h1
    have e2 : r = (ftF M k x).2.1 := Value.int.inj (Option.some.inj h2)
    have e3 : N = (ftF M k x).2.2 := h3
    rw [e2, e3, ← outM_0 (M := M) e1] at hM1 hE
    have kk := kk ad1 H1 locs1 hM1 hE
    rw [e1] at kk
    exact kk
  · subst M1; subst ad1
    have e1 : (ftF M k x).1 = 1 := by rcases h with h | h | h <;> first | exact absurd h.2 (by decide) | exact h.1
    rw [outM_1 (by rw [e1]; decide), e1] at kk
    exact kk ad H1 locs1 hM1 hE
  · subst M1; subst ad1
    have e1 : (ftF M k x).1 = 2 := by rcases h with h | h | h <;> first | exact absurd h.2 (by decide) | exact h.1
    rw [outM_1 (by rw [e1]; decide), e1] at kk
    exact kk ad H1 locs1 hM1 hE
  · subst M1; subst ad1
    have e1 : (ftF M k x).1 = 3 := by rcases h with h | h | h <;> first | exact absurd h.2 (by decide) | exact h.1
    rw [outM_1 (by rw [e1]; decide), e1] at kk
    exact kk ad H1 locs1 hM1 hE
set_option maxHeartbeats 4000000 in
theorem q_registration {p : Program} {l : Launch} {e : Env} {R : Room} {s : State} {m : MethodId} {args : Array Value} {below : List Frame} {meth : Method} {c : Code} {H : Heap} {locs : List Loc} {cells slots : Nat} {Q : State → Prop} {cc : ByteArray} {pc nL : Nat} {ls : Array Slot} {rest : List Value} {D : va_G} {dA : Nat → ClassId} {base : Nat} {M : mM} {ad : Nat → Nat → Nat} {x w : Int32} (X : mCx D dA base p s m args c cc "ScopeKeeperLaw") (hst : l.stackTraces = false) (hml : c.maxLocals = nL) (hsz : ls.size = nL) (hM : mSt D dA base M ad s.heap H locs) (hN : mN s) (hI : wI M) (h17 : 0 < gn M 17) (hcat : (rest.map fun v => v.category).sum ≤ 8) (hroom : 10 ≤ R.frames ∧ 330 ≤ R.locals) (hcs : cells + 8 ≤ R.cells ∧ slots + 40 ≤ R.slots) (hdg : decode cc pc = .ok (.invokestatic 105, 3))
    (kk : ∀ (ad' : Nat → Nat → Nat) (H1 : Heap) (locs1 : List Loc), mSt D dA base (outM M (fRg M x w)) ad' s.heap H1 locs1 → mExt M ad (outM M (fRg M x w)) ad' → W p l e R s m args below meth c H1 locs1 (cells + 8) (slots + 40) Q (F0 m (pc + 3) ls (.int (nI (fRg M x w).1) :: rest))) : W p l e R s m args below meth c H locs cells slots Q (F0 m pc ls (.ref (ad 17 0) :: .int w :: .int x :: .ref (ad 0 0) :: rest)) := by
  refine r_cSH (As := [.ref (ad 0 0), .int x, .int w, .ref (ad 17 0)]) X hml hsz hM hN (k_Lw_registration l D dA base M ad x w (w_k hI.1) h17 _ _ _ _ _ ⟨rfl, rfl, by decide, by decide, by decide, by decide⟩ (k_K_registration l hst D dA base M ad hI.1 x w) (fun rv N ad1 h => by obtain ⟨g, h⟩ := h; exact ⟨_, h.2.2.1⟩) (fun E h => h.imp And.right And.right)) h_Lw_105 rfl hcat ⟨rfl, rfl, by dsimp only; omega, by dsimp only; omega⟩ ⟨by omega, by omega⟩ hdg ?_
  intro rv M1 ad1 H1 locs1 hP hM1 hE
  rcases hP with ⟨N, r, ⟨g, h1, hg, h2, h3, -⟩, rfl, rfl⟩ | ⟨h, rfl, h5, h6⟩ | ⟨h, rfl, h5, h6⟩
  · have e1 : (fRg M x w).1 = 0 := h1
    have e2 : r = (fRg M x w).2.1 := by rw [fRg_2 hg]; exact Value.int.inj (Option.some.inj h2)
    have e3 : N = (fRg M x w).2.2 := by rw [fRg_2 hg]; exact h3
    rw [e2, e3, ← outM_0 (M := M) e1] at hM1 hE
    have kk := kk ad1 H1 locs1 hM1 hE
    rw [e1] at kk
    exact kk
  · subst M1; subst ad1
    have e1 : (fRg M x w).1 = 1 := by rcases h with h | h <;> first | exact absurd h.2 (by decide) | exact h.1
    rw [outM_1 (by rw [e1]; decide), e1] at kk
    exact kk ad H1 locs1 hM1 hE
  · subst M1; subst ad1
    have e1 : (fRg M x w).1 = 2 := by rcases h with h | h <;> first | exact absurd h.2 (by decide) | exact h.1
    rw [outM_1 (by rw [e1]; decide), e1] at kk
    exact kk ad H1 locs1 hM1 hE
set_option maxHeartbeats 4000000 in
theorem q_worker {p : Program} {l : Launch} {e : Env} {R : Room} {s : State} {m : MethodId} {args : Array Value} {below : List Frame} {meth : Method} {c : Code} {H : Heap} {locs : List Loc} {cells slots : Nat} {Q : State → Prop} {cc : ByteArray} {pc nL : Nat} {ls : Array Slot} {rest : List Value} {D : va_G} {dA : Nat → ClassId} {base : Nat} {M : mM} {ad : Nat → Nat → Nat} {w q : Int32} (X : mCx D dA base p s m args c cc "ScopeKeeperLaw") (hst : l.stackTraces = false) (hml : c.maxLocals = nL) (hsz : ls.size = nL) (hM : mSt D dA base M ad s.heap H locs) (hN : mN s) (hI : wI M) (h17 : 0 < gn M 17) (hcat : (rest.map fun v => v.category).sum ≤ 8) (hroom : 10 ≤ R.frames ∧ 330 ≤ R.locals) (hcs : cells + 8 ≤ R.cells ∧ slots + 40 ≤ R.slots) (hdg : decode cc pc = .ok (.invokestatic 108, 3))
    (kk : ∀ (ad' : Nat → Nat → Nat) (H1 : Heap) (locs1 : List Loc), mSt D dA base (outM M (fWk M w q)) ad' s.heap H1 locs1 → mExt M ad (outM M (fWk M w q)) ad' → W p l e R s m args below meth c H1 locs1 (cells + 8) (slots + 40) Q (F0 m (pc + 3) ls (.int (nI (fWk M w q).1) :: rest))) : W p l e R s m args below meth c H locs cells slots Q (F0 m pc ls (.ref (ad 17 0) :: .int q :: .int w :: .ref (ad 0 0) :: rest)) := by
  refine r_cSH (As := [.ref (ad 0 0), .int w, .int q, .ref (ad 17 0)]) X hml hsz hM hN (k_Lw_worker l D dA base M ad w q (w_k hI.1) h17 _ _ _ _ _ ⟨rfl, rfl, by decide, by decide, by decide, by decide⟩ (k_K_worker l hst D dA base M ad hI.1 hI.2.2 w q) (fun rv N ad1 h => by exact ⟨_, h.2.1⟩) (fun E h => h.imp And.right And.right)) h_Lw_108 rfl hcat ⟨rfl, rfl, by dsimp only; omega, by dsimp only; omega⟩ ⟨by omega, by omega⟩ hdg ?_
  intro rv M1 ad1 H1 locs1 hP hM1 hE
  rcases hP with ⟨N, r, ⟨h1, h2, h3, -⟩, rfl, rfl⟩ | ⟨h, rfl, h5, h6⟩ | ⟨h, rfl, h5, h6⟩
  · have e1 : (fWk M w q).1 = 0 := h1
    have e2 : r = (fWk M w q).2.1 := Value.int.inj (Option.some.inj h2)
    have e3 : N = (fWk M w q).2.2 := h3
    rw [e2, e3, ← outM_0 (M := M) e1] at hM1 hE
    have kk := kk ad1 H1 locs1 hM1 hE
    rw [e1] at kk
    exact kk
  · subst M1; subst ad1
    have e1 : (fWk M w q).1 = 1 := by rcases h with h | h <;> first | exact absurd h.2 (by decide) | exact h.1
    rw [outM_1 (by rw [e1]; decide), e1] at kk
    exact kk ad H1 locs1 hM1 hE
  · subst M1; subst ad1
    have e1 : (fWk M w q).1 = 2 := by rcases h with h | h <;> first | exact absurd h.2 (by decide) | exact h.1
    rw [outM_1 (by rw [e1]; decide), e1] at kk
    exact kk ad H1 locs1 hM1 hE
set_option maxHeartbeats 4000000 in
theorem q_outcome {p : Program} {l : Launch} {e : Env} {R : Room} {s : State} {m : MethodId} {args : Array Value} {below : List Frame} {meth : Method} {c : Code} {H : Heap} {locs : List Loc} {cells slots : Nat} {Q : State → Prop} {cc : ByteArray} {pc nL : Nat} {ls : Array Slot} {rest : List Value} {D : va_G} {dA : Nat → ClassId} {base : Nat} {M : mM} {ad : Nat → Nat → Nat} {x : Int32} (X : mCx D dA base p s m args c cc "ScopeKeeperLaw") (hst : l.stackTraces = false) (hml : c.maxLocals = nL) (hsz : ls.size = nL) (hM : mSt D dA base M ad s.heap H locs) (hN : mN s) (hI : wI M) (h17 : 0 < gn M 17) (hcat : (rest.map fun v => v.category).sum ≤ 8) (hroom : 10 ≤ R.frames ∧ 330 ≤ R.locals) (hcs : cells + 8 ≤ R.cells ∧ slots + 40 ≤ R.slots) (hdg : decode cc pc = .ok (.invokestatic 111, 3))
    (kk : ∀ (ad' : Nat → Nat → Nat) (H1 : Heap) (locs1 : List Loc), mSt D dA base (outM M (fOc M x)) ad' s.heap H1 locs1 → mExt M ad (outM M (fOc M x)) ad' → W p l e R s m args below meth c H1 locs1 (cells + 8) (slots + 40) Q (F0 m (pc + 3) ls (.int (nI (fOc M x).1) :: rest))) : W p l e R s m args below meth c H locs cells slots Q (F0 m pc ls (.ref (ad 17 0) :: .int x :: .ref (ad 0 0) :: rest)) := by
  refine r_cSH (As := [.ref (ad 0 0), .int x, .ref (ad 17 0)]) X hml hsz hM hN (k_Lw_outcome l D dA base M ad x (w_k hI.1) h17 _ _ _ _ _ ⟨rfl, rfl, by decide, by decide, by decide, by decide⟩ (k_K_outcome l hst D dA base M ad hI.1 x) (fun rv N ad1 h => by exact ⟨_, h.2.1⟩) (fun E h => h.2)) h_Lw_111 rfl hcat ⟨rfl, rfl, by dsimp only; omega, by dsimp only; omega⟩ ⟨by omega, by omega⟩ hdg ?_
  intro rv M1 ad1 H1 locs1 hP hM1 hE
  rcases hP with ⟨N, r, ⟨h1, h2, h3, -⟩, rfl, rfl⟩ | ⟨h, rfl, h5, h6⟩
  · have e1 : (fOc M x).1 = 0 := if_pos h1
    have e2 : r = (fOc M x).2.1 := Value.int.inj (Option.some.inj h2)
    have e3 : N = (fOc M x).2.2 := h3
    rw [e2, e3, ← outM_0 (M := M) e1] at hM1 hE
    have kk := kk ad1 H1 locs1 hM1 hE
    rw [e1] at kk
    exact kk
  · subst M1; subst ad1
    have e1 : (fOc M x).1 = 1 := if_neg h.1
    rw [outM_1 (by rw [e1]; decide), e1] at kk
    exact kk ad H1 locs1 hM1 hE
set_option maxHeartbeats 4000000 in
theorem q_trace {p : Program} {l : Launch} {e : Env} {R : Room} {s : State} {m : MethodId} {args : Array Value} {below : List Frame} {meth : Method} {c : Code} {H : Heap} {locs : List Loc} {cells slots : Nat} {Q : State → Prop} {cc : ByteArray} {pc nL : Nat} {ls : Array Slot} {rest : List Value} {D : va_G} {dA : Nat → ClassId} {base : Nat} {M : mM} {ad : Nat → Nat → Nat} {x : Int32} (X : mCx D dA base p s m args c cc "ScopeKeeperLaw") (hst : l.stackTraces = false) (hml : c.maxLocals = nL) (hsz : ls.size = nL) (hM : mSt D dA base M ad s.heap H locs) (hN : mN s) (hI : wI M) (h17 : 0 < gn M 17) (hcat : (rest.map fun v => v.category).sum ≤ 8) (hroom : 10 ≤ R.frames ∧ 330 ≤ R.locals) (hcs : cells + 8 ≤ R.cells ∧ slots + 40 ≤ R.slots) (hdg : decode cc pc = .ok (.invokestatic 114, 3))
    (kk : ∀ (ad' : Nat → Nat → Nat) (H1 : Heap) (locs1 : List Loc), mSt D dA base (outM M (fTr M x)) ad' s.heap H1 locs1 → mExt M ad (outM M (fTr M x)) ad' → W p l e R s m args below meth c H1 locs1 (cells + 8) (slots + 40) Q (F0 m (pc + 3) ls (.int (nI (fTr M x).1) :: rest))) : W p l e R s m args below meth c H locs cells slots Q (F0 m pc ls (.ref (ad 17 0) :: .int x :: .ref (ad 0 0) :: rest)) := by
  refine r_cSH (As := [.ref (ad 0 0), .int x, .ref (ad 17 0)]) X hml hsz hM hN (k_Lw_trace l D dA base M ad x (w_k hI.1) h17 _ _ _ _ _ ⟨rfl, rfl, by decide, by decide, by decide, by decide⟩ (k_K_trace l hst D dA base M ad hI.1 hI.2.1 x) (fun rv N ad1 h => by exact ⟨_, h.2.1⟩) (fun E h => h.2)) h_Lw_114 rfl hcat ⟨rfl, rfl, by dsimp only; omega, by dsimp only; omega⟩ ⟨by omega, by omega⟩ hdg ?_
  intro rv M1 ad1 H1 locs1 hP hM1 hE
  rcases hP with ⟨N, r, ⟨h1, h2, h3, -⟩, rfl, rfl⟩ | ⟨h, rfl, h5, h6⟩
  · have e1 : (fTr M x).1 = 0 := if_pos h1
    have e2 : r = (fTr M x).2.1 := Value.int.inj (Option.some.inj h2)
    have e3 : N = (fTr M x).2.2 := h3
    rw [e2, e3, ← outM_0 (M := M) e1] at hM1 hE
    have kk := kk ad1 H1 locs1 hM1 hE
    rw [e1] at kk
    exact kk
  · subst M1; subst ad1
    have e1 : (fTr M x).1 = 1 := if_neg h.1
    rw [outM_1 (by rw [e1]; decide), e1] at kk
    exact kk ad H1 locs1 hM1 hE
set_option maxHeartbeats 4000000 in
theorem q_count {p : Program} {l : Launch} {e : Env} {R : Room} {s : State} {m : MethodId} {args : Array Value} {below : List Frame} {meth : Method} {c : Code} {H : Heap} {locs : List Loc} {cells slots : Nat} {Q : State → Prop} {cc : ByteArray} {pc nL : Nat} {ls : Array Slot} {rest : List Value} {D : va_G} {dA : Nat → ClassId} {base : Nat} {M : mM} {ad : Nat → Nat → Nat} {q : Int32} (X : mCx D dA base p s m args c cc "ScopeKeeperLaw") (hst : l.stackTraces = false) (hml : c.maxLocals = nL) (hsz : ls.size = nL) (hM : mSt D dA base M ad s.heap H locs) (hN : mN s) (hI : wI M) (h17 : 0 < gn M 17) (hcat : (rest.map fun v => v.category).sum ≤ 8) (hroom : 10 ≤ R.frames ∧ 330 ≤ R.locals) (hcs : cells + 8 ≤ R.cells ∧ slots + 40 ≤ R.slots) (hdg : decode cc pc = .ok (.invokestatic 117, 3))
    (kk : ∀ (ad' : Nat → Nat → Nat) (H1 : Heap) (locs1 : List Loc), mSt D dA base (outM M (fCt M q)) ad' s.heap H1 locs1 → mExt M ad (outM M (fCt M q)) ad' → W p l e R s m args below meth c H1 locs1 (cells + 8) (slots + 40) Q (F0 m (pc + 3) ls (.int (nI (fCt M q).1) :: rest))) : W p l e R s m args below meth c H locs cells slots Q (F0 m pc ls (.ref (ad 17 0) :: .int q :: .ref (ad 0 0) :: rest)) := by
  refine r_cSH (As := [.ref (ad 0 0), .int q, .ref (ad 17 0)]) X hml hsz hM hN (k_Lw_count l D dA base M ad q (w_k hI.1) h17 _ _ _ _ _ ⟨rfl, rfl, by decide, by decide, by decide, by decide⟩ (k_K_count l hst D dA base M ad hI.1 q) (fun rv N ad1 h => by exact ⟨_, h.2.1⟩) (fun E h => h.2)) h_Lw_117 rfl hcat ⟨rfl, rfl, by dsimp only; omega, by dsimp only; omega⟩ ⟨by omega, by omega⟩ hdg ?_
  intro rv M1 ad1 H1 locs1 hP hM1 hE
  rcases hP with ⟨N, r, ⟨h1, h2, h3, -⟩, rfl, rfl⟩ | ⟨h, rfl, h5, h6⟩
  · have e1 : (fCt M q).1 = 0 := if_pos h1
    have e2 : r = (fCt M q).2.1 := Value.int.inj (Option.some.inj h2)
    have e3 : N = (fCt M q).2.2 := h3
    rw [e2, e3, ← outM_0 (M := M) e1] at hM1 hE
    have kk := kk ad1 H1 locs1 hM1 hE
    rw [e1] at kk
    exact kk
  · subst M1; subst ad1
    have e1 : (fCt M q).1 = 1 := if_neg h.1
    rw [outM_1 (by rw [e1]; decide), e1] at kk
    exact kk ad H1 locs1 hM1 hE
