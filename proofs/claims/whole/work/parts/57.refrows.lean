/-- the reference's ints apart: r k j is slot j of the one object or array of kind k (18 and up) -/
abbrev rR : Type := Nat → Nat → Int32
def rs (M : mM) (r : rR) : mM := (fun k i j => if 18 ≤ k ∧ i = 0 then r k j else M.1 k i j, M.2)
def ru (r : rR) (k j : Nat) (x : Int32) : rR := fun a b => if a = k ∧ b = j then x else r a b
def ro (M : mM) : rR := fun k j => gi M k 0 j
theorem rs_gi (M : mM) (r : rR) {k : Nat} (j : Nat) (h : 18 ≤ k) : gi (rs M r) k 0 j = r k j := if_pos ⟨h, rfl⟩
theorem rs_si (M : mM) (r : rR) {k : Nat} (j : Nat) (x : Int32) (h : 18 ≤ k) : si (rs M r) k 0 j x = rs M (ru r k j x) := by
  unfold si rs ru
  congr 1
  funext a b c
  by_cases h1 : a = k ∧ b = 0 ∧ c = j
  · obtain ⟨rfl, rfl, rfl⟩ := h1
    rw [if_pos ⟨rfl, rfl, rfl⟩, if_pos ⟨h, rfl⟩, if_pos ⟨rfl, rfl⟩]
  · rw [if_neg h1]
    show (if 18 ≤ a ∧ b = 0 then r a c else M.1 a b c) = _
    by_cases h2 : 18 ≤ a ∧ b = 0
    · rw [if_pos h2, if_pos h2, if_neg (fun z => h1 ⟨z.1, h2.2, z.2⟩)]
    · rw [if_neg h2, if_neg h2]
theorem rs_ro (M : mM) : rs M (ro M) = M := by
  unfold rs
  have e : (fun k i j => if 18 ≤ k ∧ i = 0 then ro M k j else M.1 k i j) = M.1 := by
    funext k i j
    by_cases h : 18 ≤ k ∧ i = 0
    · rw [if_pos h, h.2]; rfl
    · rw [if_neg h]
  rw [e]
theorem ro_rs (M : mM) (r : rR) {k : Nat} (j : Nat) (h : 18 ≤ k) : ro (rs M r) k j = r k j := if_pos ⟨h, rfl⟩
theorem rs_lo (M : mM) (r : rR) {k : Nat} (i j : Nat) (h : k < 18) : gi (rs M r) k i j = gi M k i j := if_neg (by omega)
theorem ru_s (r : rR) (k j : Nat) (x : Int32) : ru r k j x k j = x := if_pos ⟨rfl, rfl⟩
theorem ru_n (r : rR) {k j a b : Nat} (x : Int32) (h : ¬ (a = k ∧ b = j)) : ru r k j x a b = r a b := if_neg h
theorem rs_wI {M : mM} (r : rR) (h : wI M) : wI (rs M r) := h
theorem ro_hi {M M' : mM} (h : hi M M') {k : Nat} (z : 18 ≤ k) (j : Nat) : ro M' k j = ro M k j := hi_gi h z 0 j
/-- an index that is within: its number -/
def ixk (x : Int32) (n : Nat) : Prop := x = nI x.toNatClampNeg ∧ x.toNatClampNeg < n
section RROWS
variable {p : Program} {l : Launch} {e : Env} {R : Room} {s : State} {m : MethodId} {args : Array Value} {below : List Frame} {meth : Method} {c : Code} {H : Heap} {locs : List Loc} {cells slots : Nat} {Q : State → Prop}
variable {cc : ByteArray} {pc : Nat} {ls : Array Slot} {rest : List Value} {D : va_G} {dA : Nat → ClassId} {base : Nat} {M : mM} {ad : Nat → Nat → Nat} {own : String} {H0 : Heap} {r : rR}
theorem R_geti (X : mCx D dA base p s m args c cc own) (hM : mSt D dA base (rs M r) ad H0 H locs) {k j a idx : Nat} (h18 : 18 ≤ k) (ha : ad k 0 = a) (hi : 0 < gn M k) (hF : fLk own idx k j) (h0 : ft k j = 0) (hdg : decode cc pc = .ok (.getfield idx, 3))
    (kk : W p l e R s m args below meth c H locs cells slots Q (F0 m (pc + 3) ls (.int (r k j) :: rest))) : W p l e R s m args below meth c H locs cells slots Q (F0 m pc ls (.ref a :: rest)) :=
  r_geti X hM ha hi hF h0 hdg (by rw [rs_gi _ _ _ h18]; exact kk)
theorem R_puti (X : mCx D dA base p s m args c cc own) (hM : mSt D dA base (rs M r) ad H0 H locs) {k j a idx : Nat} {ty : FieldType} (h18 : 18 ≤ k) (ha : ad k 0 = a) (hi : 0 < gn M k) (hF : fPk own idx k j ty) (h0 : ft k j = 0) {x : Int32} (hn : narrow ty (.int x) = .int x) (hfit : fits ty (.int x) = true) (hdg : decode cc pc = .ok (.putfield idx, 3))
    (kk : ∀ (H1 : Heap) (locs1 : List Loc), mSt D dA base (rs M (ru r k j x)) ad H0 H1 locs1 → W p l e R s m args below meth c H1 locs1 cells slots Q (F0 m (pc + 3) ls rest)) : W p l e R s m args below meth c H locs cells slots Q (F0 m pc ls (.int x :: .ref a :: rest)) :=
  r_puti X hM ha hi hF h0 hn hfit hdg (fun H1 l1 h => kk H1 l1 (by rw [← rs_si _ _ _ _ h18]; exact h))
theorem R_iald (X : mCx D dA base p s m args c cc own) (hM : mSt D dA base (rs M r) ad H0 H locs) {k j a t n : Nat} (h18 : 18 ≤ k) (ha : ad k 0 = a) (hi : 0 < gn M k) (hA : aLk k t n .int) (h0 : ∀ j, ft k j = 0) {x : Int32} (hx : x = nI j) (hj : j < n) (hdg : decode cc pc = .ok (.iaload, 1))
    (kk : W p l e R s m args below meth c H locs cells slots Q (F0 m (pc + 1) ls (.int (r k j) :: rest))) : W p l e R s m args below meth c H locs cells slots Q (F0 m pc ls (.int x :: .ref a :: rest)) :=
  r_iald X hM ha hi hA h0 hx hj hdg (by rw [rs_gi _ _ _ h18]; exact kk)
theorem R_iast (X : mCx D dA base p s m args c cc own) (hM : mSt D dA base (rs M r) ad H0 H locs) {k j a t n : Nat} (h18 : 18 ≤ k) (ha : ad k 0 = a) (hi : 0 < gn M k) (hA : aLk k t n .int) (h0 : ∀ j, ft k j = 0) {x y : Int32} (hx : x = nI j) (hj : j < n) (hdg : decode cc pc = .ok (.iastore, 1))
    (kk : ∀ (H1 : Heap) (locs1 : List Loc), mSt D dA base (rs M (ru r k j y)) ad H0 H1 locs1 → W p l e R s m args below meth c H1 locs1 cells slots Q (F0 m (pc + 1) ls rest)) : W p l e R s m args below meth c H locs cells slots Q (F0 m pc ls (.int y :: .int x :: .ref a :: rest)) :=
  r_iast X hM ha hi hA h0 hx hj hdg (fun H1 l1 h => kk H1 l1 (by rw [← rs_si _ _ _ _ h18]; exact h))
/-- arrays of booleans: 0 or 1 -/
theorem r_zald (X : mCx D dA base p s m args c cc own) (hM : mSt D dA base M ad H0 H locs) {k i j a t n : Nat} (ha : ad k i = a) (hi : i < gn M k) (hA : aLk k t n .boolean) (h0 : ∀ j, ft k j = 0) {x : Int32} (hx : x = nI j) (hj : j < n) (hdg : decode cc pc = .ok (.baload, 1))
    (kk : W p l e R s m args below meth c H locs cells slots Q (F0 m (pc + 1) ls (.int (gi M k i j) :: rest))) : W p l e R s m args below meth c H locs cells slots Q (F0 m pc ls (.int x :: .ref a :: rest)) := by
  obtain ⟨hexec, hb, hown, hts, hK, -⟩ := X
  obtain ⟨hs, hn, ht⟩ := hA
  obtain ⟨-, hcell⟩ := hM.1.1 k i hi
  unfold mcell at hcell
  rw [hs] at hcell
  subst ha; subst hx
  have hcl : (nI j).toNatClampNeg = j := nI_clamp (by omega)
  refine W.zald (v := .int (gi M k i j)) hexec hb hcell ((hK.2 t _ (ht dA)).1 n (mv M ad k i)) (fun q => by cases q) (by show ¬ (nI j < 0 ∨ (arrV _ _ _).slots.size ≤ _); rw [arrV_size]; exact nI_in hj hn) ?_ rfl rfl hdg kk
  show (arrV _ _ _).slots[_]? = _
  rw [hcl, arrV_read _ _ hj, mv_i (h0 j)]
theorem r_zast (X : mCx D dA base p s m args c cc own) (hM : mSt D dA base M ad H0 H locs) {k i j a t n : Nat} (ha : ad k i = a) (hi : i < gn M k) (hA : aLk k t n .boolean) (h0 : ∀ j, ft k j = 0) {x y : Int32} (hx : x = nI j) (hj : j < n) (hy : narrow .boolean (.int y) = .int y) (hdg : decode cc pc = .ok (.bastore, 1))
    (kk : ∀ (H1 : Heap) (locs1 : List Loc), mSt D dA base (si M k i j y) ad H0 H1 locs1 → W p l e R s m args below meth c H1 locs1 cells slots Q (F0 m (pc + 1) ls rest)) : W p l e R s m args below meth c H locs cells slots Q (F0 m pc ls (.int y :: .int x :: .ref a :: rest)) := by
  obtain ⟨hexec, hb, hown, hts, hK, -⟩ := X
  obtain ⟨hs, hn, ht⟩ := hA
  obtain ⟨hba, hcell⟩ := hM.1.1 k i hi
  unfold mcell at hcell
  rw [hs] at hcell
  subst ha; subst hx
  have hcl : (nI j).toNatClampNeg = j := nI_clamp (by omega)
  refine W.zast hexec hb hcell ((hK.2 t _ (ht dA)).1 n (mv M ad k i)) (fun q => by cases q) (by show ¬ (nI j < 0 ∨ (arrV _ _ _).slots.size ≤ _); rw [arrV_size]; exact nI_in hj hn) rfl rfl hdg fun H1 e z oq => ?_
  refine kk H1 _ ⟨mRep_si hM.1 hi ?_ oq, hM.2.1.put z oq hba, hM.2.2⟩
  unfold mcell
  rw [hs, e, hcl, hy, arrV_store, mv_si (h0 j)]
theorem R_zald (X : mCx D dA base p s m args c cc own) (hM : mSt D dA base (rs M r) ad H0 H locs) {k j a t n : Nat} (h18 : 18 ≤ k) (ha : ad k 0 = a) (hi : 0 < gn M k) (hA : aLk k t n .boolean) (h0 : ∀ j, ft k j = 0) {x : Int32} (hx : x = nI j) (hj : j < n) (hdg : decode cc pc = .ok (.baload, 1))
    (kk : W p l e R s m args below meth c H locs cells slots Q (F0 m (pc + 1) ls (.int (r k j) :: rest))) : W p l e R s m args below meth c H locs cells slots Q (F0 m pc ls (.int x :: .ref a :: rest)) :=
  r_zald X hM ha hi hA h0 hx hj hdg (by rw [rs_gi _ _ _ h18]; exact kk)
theorem R_zast (X : mCx D dA base p s m args c cc own) (hM : mSt D dA base (rs M r) ad H0 H locs) {k j a t n : Nat} (h18 : 18 ≤ k) (ha : ad k 0 = a) (hi : 0 < gn M k) (hA : aLk k t n .boolean) (h0 : ∀ j, ft k j = 0) {x y : Int32} (hx : x = nI j) (hj : j < n) (hy : narrow .boolean (.int y) = .int y) (hdg : decode cc pc = .ok (.bastore, 1))
    (kk : ∀ (H1 : Heap) (locs1 : List Loc), mSt D dA base (rs M (ru r k j y)) ad H0 H1 locs1 → W p l e R s m args below meth c H1 locs1 cells slots Q (F0 m (pc + 1) ls rest)) : W p l e R s m args below meth c H locs cells slots Q (F0 m pc ls (.int y :: .int x :: .ref a :: rest)) :=
  r_zast X hM ha hi hA h0 hx hj hy hdg (fun H1 l1 h => kk H1 l1 (by rw [← rs_si _ _ _ _ h18]; exact h))
theorem nar01 {x : Int32} (h : x = 0 ∨ x = 1) : narrow .boolean (.int x) = .int x := by rcases h with rfl | rfl <;> rfl
theorem fit01 {x : Int32} (h : x = 0 ∨ x = 1) : fits .boolean (.int x) = true := by rcases h with rfl | rfl <;> rfl
/-- the reference's object and arrays are there -/
def wR (M : mM) : Prop := (0 < gn M 18) ∧ ∀ j, j < 29 → gr M 18 0 j = some 0
end RROWS
