section MROWS
variable {p : Program} {l : Launch} {e : Env} {R : Room} {s : State} {m : MethodId} {args : Array Value} {below : List Frame} {meth : Method} {c : Code} {H : Heap} {locs : List Loc} {cells slots : Nat} {Q : State → Prop}
variable {cc : ByteArray} {pc : Nat} {ls : Array Slot} {rest : List Value} {D : va_G} {dA : Nat → ClassId} {base : Nat} {M : mM} {ad : Nat → Nat → Nat} {own : String} {H0 : Heap}
theorem r_getv (X : mCx D dA base p s m args c cc own) (hM : mSt D dA base M ad H0 H locs) {k i j a idx : Nat} (ha : ad k i = a) (hi : i < gn M k) (hF : fLk own idx k j) (hdg : decode cc pc = .ok (.getfield idx, 3))
    (kk : W p l e R s m args below meth c H locs cells slots Q (F0 m (pc + 3) ls (mv M ad k i j :: rest))) : W p l e R s m args below meth c H locs cells slots Q (F0 m pc ls (.ref a :: rest)) := by
  obtain ⟨hexec, hb, hown, hts, hK, -⟩ := X
  obtain ⟨ci, C, T, N, hs, hc, hj, hT, hin, hlk⟩ := hF
  obtain ⟨-, hcell⟩ := hM.1.1 k i hi
  unfold mcell at hcell
  rw [hs] at hcell
  obtain ⟨r, h1, cell, q1, q2, q3, q4⟩ := hcell
  have hr : r = (C, T, N) := Option.some.inj (h1.symm.trans hc)
  subst hr
  obtain ⟨hS, hfc, kC, hkC, hkind⟩ := hK.1 ci _ hc
  obtain ⟨cf, kf, fi, f, hfi, hsl⟩ := hS j hj
  have hst := (u_facts hfc hkC (u_lays hts hin hj) hfi).1
  have hfi2 : s.fieldFound? C (T j).2.1 (T j).2.2.1 = some (cf, kf, fi, f) := by
    have h9 := hfi
    dsimp only at h9
    rw [hT] at h9
    exact h9
  subst ha
  rcases hlk with hlk | ⟨host, hlk⟩
  · refine W.getf hexec hb hown (hts _ hlk) hfi2 hst q1 (by rw [q3]; exact fun h => by cases h) (v := mv M ad k i j) ?_ rfl rfl hdg kk
    rw [hsl, q4 j hj]
  · refine va_Wgetf hexec hb hown (hts _ hlk) hfi2 hst q1 (by rw [q3]; exact fun h => by cases h) (v := mv M ad k i j) ?_ rfl rfl hdg kk
    rw [hsl, q4 j hj]
/-- a field of ints -/
theorem r_geti (X : mCx D dA base p s m args c cc own) (hM : mSt D dA base M ad H0 H locs) {k i j a idx : Nat} (ha : ad k i = a) (hi : i < gn M k) (hF : fLk own idx k j) (h0 : ft k j = 0) (hdg : decode cc pc = .ok (.getfield idx, 3))
    (kk : W p l e R s m args below meth c H locs cells slots Q (F0 m (pc + 3) ls (.int (gi M k i j) :: rest))) : W p l e R s m args below meth c H locs cells slots Q (F0 m pc ls (.ref a :: rest)) :=
  r_getv X hM ha hi hF hdg (by rw [mv_i h0]; exact kk)
/-- a field of references -/
theorem r_getr (X : mCx D dA base p s m args c cc own) (hM : mSt D dA base M ad H0 H locs) {k i j a idx t : Nat} (ha : ad k i = a) (hi : i < gn M k) (hF : fLk own idx k j) (h0 : ft k j = t + 2) (hdg : decode cc pc = .ok (.getfield idx, 3))
    (kk : (∀ q, gr M k i j = some q → q < gn M t) → W p l e R s m args below meth c H locs cells slots Q (F0 m (pc + 3) ls (rfv ad t (gr M k i j) :: rest))) : W p l e R s m args below meth c H locs cells slots Q (F0 m pc ls (.ref a :: rest)) :=
  r_getv X hM ha hi hF hdg (by rw [mv_r h0]; exact kk (fun q hq => hM.1.2.2 k i j t q hi h0 hq))
/-- .. that is known to be there -/
theorem r_gets (X : mCx D dA base p s m args c cc own) (hM : mSt D dA base M ad H0 H locs) {k i j a idx t q : Nat} (ha : ad k i = a) (hi : i < gn M k) (hF : fLk own idx k j) (h0 : ft k j = t + 2) (hq : gr M k i j = some q) (hdg : decode cc pc = .ok (.getfield idx, 3))
    (kk : q < gn M t → W p l e R s m args below meth c H locs cells slots Q (F0 m (pc + 3) ls (.ref (ad t q) :: rest))) : W p l e R s m args below meth c H locs cells slots Q (F0 m pc ls (.ref a :: rest)) :=
  r_getr X hM ha hi hF h0 hdg (fun h => by rw [hq]; exact kk (h q hq))
theorem r_putv (X : mCx D dA base p s m args c cc own) (hM : mSt D dA base M ad H0 H locs) {k i j a idx : Nat} {ty : FieldType} (ha : ad k i = a) (hi : i < gn M k) (hF : fPk own idx k j ty) {v : Value} (hn : narrow ty v = v) (hfit : fits ty v = true) (hdg : decode cc pc = .ok (.putfield idx, 3))
    (kk : ∀ (H1 : Heap) (locs1 : List Loc), mcell D dA k (ad k i) (updV (mv M ad k i) j v) H1 → (∀ q : Nat, q ≠ ad k i → H1[q]? = H[q]?) → va_S (fun q => base ≤ q) H0 H1 locs1 → W p l e R s m args below meth c H1 locs1 cells slots Q (F0 m (pc + 3) ls rest)) : W p l e R s m args below meth c H locs cells slots Q (F0 m pc ls (v :: .ref a :: rest)) := by
  obtain ⟨hexec, hb, hown, hts, hK, -⟩ := X
  obtain ⟨ci, C, T, N, ty0, hs, hc, hj, hT, hin, hty, hnm, hd, hfin, hlk⟩ := hF
  have hap := va_apart (own := own) hts hin ty0 hty hnm hK hc
  obtain ⟨hba, hcell⟩ := hM.1.1 k i hi
  unfold mcell at hcell kk
  rw [hs] at hcell kk
  obtain ⟨r, h1, cell, q1, q2, q3, q4⟩ := hcell
  have hr : r = (C, T, N) := Option.some.inj (h1.symm.trans hc)
  subst hr
  obtain ⟨hS, hfc, kC, hkC, hkind⟩ := hK.1 ci _ hc
  obtain ⟨cf, kf, fi, f, hfi, hsl⟩ := hS j hj
  have hlay := hts _ (hin _ (u_in_lay hj))
  unfold u_lay at hlay
  rw [if_neg (by rw [hfin]; decide)] at hlay
  have hst := (u_facts hfc hkC (u_lays hts hin hj) hfi).1
  have h6 := u_store hfc hkC hkind hlay hfi ((hty j hj).trans (congrArg some hd)) hn hfit
  have hfi2 : s.fieldFound? C (T j).2.1 (T j).2.2.1 = some (cf, kf, fi, f) := by
    have h9 := hfi
    dsimp only at h9
    rw [hT] at h9
    exact h9
  subst ha
  rcases hlk with hlk | ⟨host, hlk⟩
  · refine W.putK hexec hb (f := f) ⟨hown, hts _ hlk, ⟨_, _, _, hfi2⟩, hst⟩ (by rw [q2]; exact h6) q1 q3 (by rw [hsl]; exact k2_hasslot (q4 j hj)) rfl rfl hdg fun H' e1 e2 e3 => ?_
    rw [hsl] at e1 ⊢
    exact kk H' _ ⟨_, hc, _, e1, q2, q3, t_set q4 hap hj v⟩ e3 (hM.2.1.put e2 e3 hba)
  · refine va_WputK hexec hb (f := f) hown (hts _ hlk) hfi2 hst (by rw [q2]; exact h6) q1 q3 (by rw [hsl]; exact k2_hasslot (q4 j hj)) rfl rfl hdg fun H' e1 e2 e3 => ?_
    rw [hsl] at e1 ⊢
    exact kk H' _ ⟨_, hc, _, e1, q2, q3, t_set q4 hap hj v⟩ e3 (hM.2.1.put e2 e3 hba)
theorem r_putfv (X : mCx D dA base p s m args c cc own) (hin2 : meth.name = "<init>") (hM : mSt D dA base M ad H0 H locs) {k i j a idx : Nat} {ty : FieldType} (ha : ad k i = a) (hi : i < gn M k) (hF : fFk own idx k j ty) {v : Value} (hn : narrow ty v = v) (hfit : fits ty v = true) (hdg : decode cc pc = .ok (.putfield idx, 3))
    (kk : ∀ (H1 : Heap) (locs1 : List Loc), mcell D dA k (ad k i) (updV (mv M ad k i) j v) H1 → (∀ q : Nat, q ≠ ad k i → H1[q]? = H[q]?) → va_S (fun q => base ≤ q) H0 H1 locs1 → W p l e R s m args below meth c H1 locs1 cells slots Q (F0 m (pc + 3) ls rest)) : W p l e R s m args below meth c H locs cells slots Q (F0 m pc ls (v :: .ref a :: rest)) := by
  obtain ⟨hexec, hb, hown, hts, hK, -⟩ := X
  obtain ⟨ci, C, T, N, ty0, hs, hc, hj, hT, hin, hty, hnm, hd, hfin, hC, hlk⟩ := hF
  have hap := va_apart (own := own) hts hin ty0 hty hnm hK hc
  obtain ⟨hba, hcell⟩ := hM.1.1 k i hi
  unfold mcell at hcell kk
  rw [hs] at hcell kk
  obtain ⟨r, h1, cell, q1, q2, q3, q4⟩ := hcell
  have hr : r = (C, T, N) := Option.some.inj (h1.symm.trans hc)
  subst hr
  obtain ⟨hS, hfc, kC, hkC, hkind⟩ := hK.1 ci _ hc
  obtain ⟨cf, kf, fi, f, hfi, hsl⟩ := hS j hj
  have hlay := hts _ (hin _ (u_in_lay hj))
  unfold u_lay at hlay
  rw [if_pos hfin] at hlay
  have hst := (u_facts hfc hkC (u_lays hts hin hj) hfi).1
  have hcf : m.cls = cf := by
    obtain ⟨_, _, c', _, _, _, -, -, hf', -, -, -, hown2, -⟩ := Cond.laysFinal_spec hlay
    have e1 : c' = cf := by have := hfi.symm.trans hf'; simp at this; exact this.1.symm
    rw [hT, ← hC] at hown2
    rw [← e1]; exact Option.some.inj (hown.symm.trans hown2)
  have h6 := u_fits hfc hkC hkind (Or.inr hlay) hfi ((hty j hj).trans (congrArg some hd)) hn hfit
  have hfi2 : s.fieldFound? C (T j).2.1 (T j).2.2.1 = some (cf, kf, fi, f) := by
    have h9 := hfi
    dsimp only at h9
    rw [hT] at h9
    exact h9
  subst ha
  refine W.putFinK hexec hb hown (hts _ hlk) hfi2 hst hcf hin2 (by rw [q2]; exact h6) q1 q3 (by rw [hsl]; exact k2_hasslot (q4 j hj)) rfl rfl hdg fun H' e1 e2 e3 => ?_
  rw [hsl] at e1 ⊢
  exact kk H' _ ⟨_, hc, _, e1, q2, q3, t_set q4 hap hj v⟩ e3 (hM.2.1.put e2 e3 hba)
theorem r_puti (X : mCx D dA base p s m args c cc own) (hM : mSt D dA base M ad H0 H locs) {k i j a idx : Nat} {ty : FieldType} (ha : ad k i = a) (hi : i < gn M k) (hF : fPk own idx k j ty) (h0 : ft k j = 0) {x : Int32} (hn : narrow ty (.int x) = .int x) (hfit : fits ty (.int x) = true) (hdg : decode cc pc = .ok (.putfield idx, 3))
    (kk : ∀ (H1 : Heap) (locs1 : List Loc), mSt D dA base (si M k i j x) ad H0 H1 locs1 → W p l e R s m args below meth c H1 locs1 cells slots Q (F0 m (pc + 3) ls rest)) : W p l e R s m args below meth c H locs cells slots Q (F0 m pc ls (.int x :: .ref a :: rest)) :=
  r_putv X hM ha hi hF hn hfit hdg (fun H1 locs1 h1 h2 h3 => kk H1 locs1 ⟨mRep_si hM.1 hi (by rw [mv_si h0]; exact h1) h2, h3, hM.2.2⟩)
theorem r_putr (X : mCx D dA base p s m args c cc own) (hM : mSt D dA base M ad H0 H locs) {k i j a idx t : Nat} {ty : FieldType} (ha : ad k i = a) (hi : i < gn M k) (hF : fPk own idx k j ty) (h0 : ft k j = t + 2) {x : Option Nat} (hx : ∀ q, x = some q → q < gn M t) {v : Value} (hv : rfv ad t x = v) (hn : narrow ty v = v) (hfit : fits ty v = true) (hdg : decode cc pc = .ok (.putfield idx, 3))
    (kk : ∀ (H1 : Heap) (locs1 : List Loc), mSt D dA base (sr M k i j x) ad H0 H1 locs1 → W p l e R s m args below meth c H1 locs1 cells slots Q (F0 m (pc + 3) ls rest)) : W p l e R s m args below meth c H locs cells slots Q (F0 m pc ls (v :: .ref a :: rest)) :=
  r_putv X hM ha hi hF hn hfit hdg (fun H1 locs1 h1 h2 h3 => kk H1 locs1 ⟨mRep_sr hM.1 hi h0 hx (by rw [mv_sr h0, hv]; exact h1) h2, h3, hM.2.2⟩)
theorem r_putfi (X : mCx D dA base p s m args c cc own) (hin2 : meth.name = "<init>") (hM : mSt D dA base M ad H0 H locs) {k i j a idx : Nat} {ty : FieldType} (ha : ad k i = a) (hi : i < gn M k) (hF : fFk own idx k j ty) (h0 : ft k j = 0) {x : Int32} (hn : narrow ty (.int x) = .int x) (hfit : fits ty (.int x) = true) (hdg : decode cc pc = .ok (.putfield idx, 3))
    (kk : ∀ (H1 : Heap) (locs1 : List Loc), mSt D dA base (si M k i j x) ad H0 H1 locs1 → W p l e R s m args below meth c H1 locs1 cells slots Q (F0 m (pc + 3) ls rest)) : W p l e R s m args below meth c H locs cells slots Q (F0 m pc ls (.int x :: .ref a :: rest)) :=
  r_putfv X hin2 hM ha hi hF hn hfit hdg (fun H1 locs1 h1 h2 h3 => kk H1 locs1 ⟨mRep_si hM.1 hi (by rw [mv_si h0]; exact h1) h2, h3, hM.2.2⟩)
theorem r_putfr (X : mCx D dA base p s m args c cc own) (hin2 : meth.name = "<init>") (hM : mSt D dA base M ad H0 H locs) {k i j a idx t : Nat} {ty : FieldType} (ha : ad k i = a) (hi : i < gn M k) (hF : fFk own idx k j ty) (h0 : ft k j = t + 2) {x : Option Nat} (hx : ∀ q, x = some q → q < gn M t) {v : Value} (hv : rfv ad t x = v) (hn : narrow ty v = v) (hfit : fits ty v = true) (hdg : decode cc pc = .ok (.putfield idx, 3))
    (kk : ∀ (H1 : Heap) (locs1 : List Loc), mSt D dA base (sr M k i j x) ad H0 H1 locs1 → W p l e R s m args below meth c H1 locs1 cells slots Q (F0 m (pc + 3) ls rest)) : W p l e R s m args below meth c H locs cells slots Q (F0 m pc ls (v :: .ref a :: rest)) :=
  r_putfv X hin2 hM ha hi hF hn hfit hdg (fun H1 locs1 h1 h2 h3 => kk H1 locs1 ⟨mRep_sr hM.1 hi h0 hx (by rw [mv_sr h0, hv]; exact h1) h2, h3, hM.2.2⟩)
/-- arrays of ints -/
theorem r_iald (X : mCx D dA base p s m args c cc own) (hM : mSt D dA base M ad H0 H locs) {k i j a t n : Nat} (ha : ad k i = a) (hi : i < gn M k) (hA : aLk k t n .int) (h0 : ∀ j, ft k j = 0) {x : Int32} (hx : x = nI j) (hj : j < n) (hdg : decode cc pc = .ok (.iaload, 1))
    (kk : W p l e R s m args below meth c H locs cells slots Q (F0 m (pc + 1) ls (.int (gi M k i j) :: rest))) : W p l e R s m args below meth c H locs cells slots Q (F0 m pc ls (.int x :: .ref a :: rest)) := by
  obtain ⟨hexec, hb, hown, hts, hK, -⟩ := X
  obtain ⟨hs, hn, ht⟩ := hA
  obtain ⟨-, hcell⟩ := hM.1.1 k i hi
  unfold mcell at hcell
  rw [hs] at hcell
  subst ha; subst hx
  have hcl : (nI j).toNatClampNeg = j := nI_clamp (by omega)
  refine W.iald (v := .int (gi M k i j)) hexec hb hcell ((hK.2 t _ (ht dA)).1 n (mv M ad k i)) (fun q => by cases q) (by show ¬ (nI j < 0 ∨ (arrV _ _ _).slots.size ≤ _); rw [arrV_size]; exact nI_in hj hn) ?_ rfl rfl hdg kk
  show (arrV _ _ _).slots[_]? = _
  rw [hcl, arrV_read _ _ hj, mv_i (h0 j)]
theorem r_iast (X : mCx D dA base p s m args c cc own) (hM : mSt D dA base M ad H0 H locs) {k i j a t n : Nat} (ha : ad k i = a) (hi : i < gn M k) (hA : aLk k t n .int) (h0 : ∀ j, ft k j = 0) {x y : Int32} (hx : x = nI j) (hj : j < n) (hdg : decode cc pc = .ok (.iastore, 1))
    (kk : ∀ (H1 : Heap) (locs1 : List Loc), mSt D dA base (si M k i j y) ad H0 H1 locs1 → W p l e R s m args below meth c H1 locs1 cells slots Q (F0 m (pc + 1) ls rest)) : W p l e R s m args below meth c H locs cells slots Q (F0 m pc ls (.int y :: .int x :: .ref a :: rest)) := by
  obtain ⟨hexec, hb, hown, hts, hK, -⟩ := X
  obtain ⟨hs, hn, ht⟩ := hA
  obtain ⟨hba, hcell⟩ := hM.1.1 k i hi
  unfold mcell at hcell
  rw [hs] at hcell
  subst ha; subst hx
  have hcl : (nI j).toNatClampNeg = j := nI_clamp (by omega)
  refine W.iast hexec hb hcell ((hK.2 t _ (ht dA)).1 n (mv M ad k i)) (fun q => by cases q) (by show ¬ (nI j < 0 ∨ (arrV _ _ _).slots.size ≤ _); rw [arrV_size]; exact nI_in hj hn) rfl rfl hdg fun H1 e z oq => ?_
  refine kk H1 _ ⟨mRep_si hM.1 hi ?_ oq, hM.2.1.put z oq hba, hM.2.2⟩
  unfold mcell
  rw [hs, e, hcl, arrV_store, mv_si (h0 j)]
/-- arrays of references -/
theorem r_aald (X : mCx D dA base p s m args c cc own) (hM : mSt D dA base M ad H0 H locs) {k i j a t n u : Nat} {C : String} (ha : ad k i = a) (hi : i < gn M k) (hA : aLk k t n (.object C)) (h0 : ∀ j, ft k j = u + 2) {x : Int32} (hx : x = nI j) (hj : j < n) (hdg : decode cc pc = .ok (.aaload, 1))
    (kk : (∀ q, gr M k i j = some q → q < gn M u) → W p l e R s m args below meth c H locs cells slots Q (F0 m (pc + 1) ls (rfv ad u (gr M k i j) :: rest))) : W p l e R s m args below meth c H locs cells slots Q (F0 m pc ls (.int x :: .ref a :: rest)) := by
  have kk := kk (fun q hq => hM.1.2.2 k i j u q hi (h0 j) hq)
  obtain ⟨hexec, hb, hown, hts, hK, -⟩ := X
  obtain ⟨hs, hn, ht⟩ := hA
  obtain ⟨-, hcell⟩ := hM.1.1 k i hi
  unfold mcell at hcell
  rw [hs] at hcell
  subst ha; subst hx
  have hcl : (nI j).toNatClampNeg = j := nI_clamp (by omega)
  refine W.aald (v := rfv ad u (gr M k i j)) (ty := .object C) hexec hb hcell ((hK.2 t _ (ht dA)).1 n (mv M ad k i)) rfl (fun q => by cases q) (by show ¬ (nI j < 0 ∨ (arrV _ _ _).slots.size ≤ _); rw [arrV_size]; exact nI_in hj hn) ?_ rfl rfl hdg kk
  show (arrV _ _ _).slots[_]? = _
  rw [hcl, arrV_read _ _ hj, mv_r (h0 j)]
theorem r_aalds (X : mCx D dA base p s m args c cc own) (hM : mSt D dA base M ad H0 H locs) {k i j a t n u q : Nat} {C : String} (ha : ad k i = a) (hi : i < gn M k) (hA : aLk k t n (.object C)) (h0 : ∀ j, ft k j = u + 2) {x : Int32} (hx : x = nI j) (hj : j < n) (hq : gr M k i j = some q) (hdg : decode cc pc = .ok (.aaload, 1))
    (kk : q < gn M u → W p l e R s m args below meth c H locs cells slots Q (F0 m (pc + 1) ls (.ref (ad u q) :: rest))) : W p l e R s m args below meth c H locs cells slots Q (F0 m pc ls (.int x :: .ref a :: rest)) :=
  r_aald X hM ha hi hA h0 hx hj hdg (fun h => by rw [hq]; exact kk (h q hq))
/-- a reference that is there is stored: v's kind u is of class C -/
theorem r_aast (X : mCx D dA base p s m args c cc own) (hM : mSt D dA base M ad H0 H locs) {k i j a t n u q b ci : Nat} {r : vw_C} (ha : ad k i = a) (hi : i < gn M k) (hA : aLk k t n (.object r.1)) (h0 : ∀ j, ft k j = u + 2) (hu : sh u = .inl ci) (hc : classes[ci]? = some r) (hb2 : ad u q = b) (hq : q < gn M u) {x : Int32} (hx : x = nI j) (hj : j < n) (hdg : decode cc pc = .ok (.aastore, 1))
    (kk : ∀ (H1 : Heap) (locs1 : List Loc), mSt D dA base (sr M k i j (some q)) ad H0 H1 locs1 → W p l e R s m args below meth c H1 locs1 cells slots Q (F0 m (pc + 1) ls rest)) : W p l e R s m args below meth c H locs cells slots Q (F0 m pc ls (.ref b :: .int x :: .ref a :: rest)) := by
  obtain ⟨hexec, hb, hown, hts, hK, -⟩ := X
  obtain ⟨hs, hn, ht⟩ := hA
  obtain ⟨hba, hcell⟩ := hM.1.1 k i hi
  obtain ⟨-, hcv⟩ := hM.1.1 u q hq
  unfold mcell at hcell hcv
  rw [hs] at hcell
  rw [hu] at hcv
  obtain ⟨r', hr', cellV, g1, g2, g3, -⟩ := hcv
  subst ha; subst hx; subst hb2
  have hcl : (nI j).toNatClampNeg = j := nI_clamp (by omega)
  have hcls := (hK.1 ci r hc).2
  obtain ⟨kA, comp, k1, k2, k3, -⟩ := (hK.2 t _ (ht dA)).2
  have hcomp : comp = D.1 ci := Option.some.inj (k3.symm.trans hcls.1)
  subst hcomp
  obtain ⟨kC, hkC, -⟩ := hcls.2
  refine W.aast hexec hb hcell (fun q h => by cases h) (fun h => by cases h) k1 k2 rfl hkC ⟨nI_pos (by omega), by show _ < (arrV _ _ _).slots.size; rw [arrV_size, hcl]; exact hj⟩ g1 (fun q h => by rw [g3] at h; cases h) (by rw [g2]; exact hkC) (by rw [g2]; exact va_assign hcls) rfl rfl hdg fun H1 e z oq => ?_
  refine kk H1 _ ⟨mRep_sr hM.1 hi (h0 j) (fun z hz => by cases hz; exact hq) ?_ oq, hM.2.1.put z oq hba, hM.2.2⟩
  unfold mcell
  rw [hs, e, hcl, arrV_store, mv_sr (h0 j)]
  rfl
theorem r_aastN (X : mCx D dA base p s m args c cc own) (hM : mSt D dA base M ad H0 H locs) {k i j a t n u : Nat} {C : String} (ha : ad k i = a) (hi : i < gn M k) (hA : aLk k t n (.object C)) (h0 : ∀ j, ft k j = u + 2) {x : Int32} (hx : x = nI j) (hj : j < n) (hdg : decode cc pc = .ok (.aastore, 1))
    (kk : ∀ (H1 : Heap) (locs1 : List Loc), mSt D dA base (sr M k i j none) ad H0 H1 locs1 → W p l e R s m args below meth c H1 locs1 cells slots Q (F0 m (pc + 1) ls rest)) : W p l e R s m args below meth c H locs cells slots Q (F0 m pc ls (.null :: .int x :: .ref a :: rest)) := by
  obtain ⟨hexec, hb, hown, hts, hK, -⟩ := X
  obtain ⟨hs, hn, ht⟩ := hA
  obtain ⟨hba, hcell⟩ := hM.1.1 k i hi
  unfold mcell at hcell
  rw [hs] at hcell
  subst ha; subst hx
  have hcl : (nI j).toNatClampNeg = j := nI_clamp (by omega)
  refine va_WaastN (C := C) hexec hb hcell ((hK.2 t _ (ht dA)).1 n (mv M ad k i)) (fun h => by cases h) (by show ¬ (nI j < 0 ∨ (arrV _ _ _).slots.size ≤ _); rw [arrV_size]; exact nI_in hj hn) rfl rfl hdg fun H1 e z oq => ?_
  refine kk H1 _ ⟨mRep_sr hM.1 hi (h0 j) (fun z hz => by cases hz) ?_ oq, hM.2.1.put z oq hba, hM.2.2⟩
  unfold mcell
  rw [hs, e, hcl, arrV_store, mv_sr (h0 j)]
  rfl
end MROWS
