/-! THE MEMORY BY NAMES: an object or array is named by its kind and its number of that kind; what a slot holds is a number of 32 or 64 bits, or the number of an object of the kind that the slot's type says (ft). sh: what a kind is: an object of a class (its place in 'classes'), or an array (its type's place in 'atl', its length). -/
abbrev mM : Type := (Nat → Nat → Nat → Int32) × (Nat → Nat → Nat → Option Nat) × (Nat → Nat → Nat → Int64) × (Nat → Nat)
def gi (M : mM) (k i j : Nat) : Int32 := M.1 k i j
def gr (M : mM) (k i j : Nat) : Option Nat := M.2.1 k i j
def gl (M : mM) (k i j : Nat) : Int64 := M.2.2.1 k i j
def gn (M : mM) (k : Nat) : Nat := M.2.2.2 k
def si (M : mM) (k i j : Nat) (x : Int32) : mM := (fun a b c => if a = k ∧ b = i ∧ c = j then x else M.1 a b c, M.2)
def sr (M : mM) (k i j : Nat) (x : Option Nat) : mM := (M.1, fun a b c => if a = k ∧ b = i ∧ c = j then x else M.2.1 a b c, M.2.2)
def sl (M : mM) (k i j : Nat) (x : Int64) : mM := (M.1, M.2.1, fun a b c => if a = k ∧ b = i ∧ c = j then x else M.2.2.1 a b c, M.2.2.2)
/-- a new object of kind k: the next number, all its slots 0 or null -/
def sn (M : mM) (k : Nat) : mM := (fun a b c => if a = k ∧ b = M.2.2.2 k then 0 else M.1 a b c, fun a b c => if a = k ∧ b = M.2.2.2 k then none else M.2.1 a b c, fun a b c => if a = k ∧ b = M.2.2.2 k then 0 else M.2.2.1 a b c, fun a => if a = k then M.2.2.2 k + 1 else M.2.2.2 a)
theorem gi_si (M : mM) (k i j a b c : Nat) (x : Int32) : gi (si M k i j x) a b c = if a = k ∧ b = i ∧ c = j then x else gi M a b c := rfl
theorem gi_sr (M : mM) (k i j a b c : Nat) (x : Option Nat) : gi (sr M k i j x) a b c = gi M a b c := rfl
theorem gi_sl (M : mM) (k i j a b c : Nat) (x : Int64) : gi (sl M k i j x) a b c = gi M a b c := rfl
theorem gr_si (M : mM) (k i j a b c : Nat) (x : Int32) : gr (si M k i j x) a b c = gr M a b c := rfl
theorem gr_sr (M : mM) (k i j a b c : Nat) (x : Option Nat) : gr (sr M k i j x) a b c = if a = k ∧ b = i ∧ c = j then x else gr M a b c := rfl
theorem gr_sl (M : mM) (k i j a b c : Nat) (x : Int64) : gr (sl M k i j x) a b c = gr M a b c := rfl
theorem gl_si (M : mM) (k i j a b c : Nat) (x : Int32) : gl (si M k i j x) a b c = gl M a b c := rfl
theorem gl_sr (M : mM) (k i j a b c : Nat) (x : Option Nat) : gl (sr M k i j x) a b c = gl M a b c := rfl
theorem gl_sl (M : mM) (k i j a b c : Nat) (x : Int64) : gl (sl M k i j x) a b c = if a = k ∧ b = i ∧ c = j then x else gl M a b c := rfl
theorem gn_si (M : mM) (k i j a : Nat) (x : Int32) : gn (si M k i j x) a = gn M a := rfl
theorem gn_sr (M : mM) (k i j a : Nat) (x : Option Nat) : gn (sr M k i j x) a = gn M a := rfl
theorem gn_sl (M : mM) (k i j a : Nat) (x : Int64) : gn (sl M k i j x) a = gn M a := rfl
theorem gi_sn (M : mM) (k a b c : Nat) : gi (sn M k) a b c = if a = k ∧ b = gn M k then 0 else gi M a b c := rfl
theorem gr_sn (M : mM) (k a b c : Nat) : gr (sn M k) a b c = if a = k ∧ b = gn M k then none else gr M a b c := rfl
theorem gl_sn (M : mM) (k a b c : Nat) : gl (sn M k) a b c = if a = k ∧ b = gn M k then 0 else gl M a b c := rfl
theorem gn_sn (M : mM) (k a : Nat) : gn (sn M k) a = if a = k then gn M k + 1 else gn M a := rfl
def rfv (ad : Nat → Nat → Nat) (k : Nat) (r : Option Nat) : Value := match r with
  | none => .null
  | some t => .ref (ad k t)
theorem rfv_isRef (ad : Nat → Nat → Nat) (k : Nat) (r : Option Nat) : (rfv ad k r).isRef = true := by cases r <;> rfl
theorem rfv_cat (ad : Nat → Nat → Nat) (k : Nat) (r : Option Nat) : (rfv ad k r).category = 1 := by cases r <;> rfl
def mv (M : mM) (ad : Nat → Nat → Nat) (k i j : Nat) : Value := match ft k j with
  | 0 => .int (gi M k i j)
  | 1 => .long (gl M k i j)
  | t + 2 => rfv ad t (gr M k i j)
theorem mv_i {M : mM} {ad : Nat → Nat → Nat} {k i j : Nat} (h : ft k j = 0) : mv M ad k i j = .int (gi M k i j) := by
  unfold mv; rw [h]
theorem mv_l {M : mM} {ad : Nat → Nat → Nat} {k i j : Nat} (h : ft k j = 1) : mv M ad k i j = .long (gl M k i j) := by
  unfold mv; rw [h]
theorem mv_r {M : mM} {ad : Nat → Nat → Nat} {k i j t : Nat} (h : ft k j = t + 2) : mv M ad k i j = rfv ad t (gr M k i j) := by
  unfold mv; rw [h]
def mcell (D : va_G) (dA : Nat → ClassId) (k a : Nat) (V : Nat → Value) (H : Heap) : Prop := match sh k with
  | .inl ci => ∃ r : vw_C, classes[ci]? = some r ∧ t_OB a (D.1 ci) r.2.2 (D.2 ci) H V
  | .inr q => H[a]? = some (arrV (dA q.1) q.2 V)
theorem mcell.kept {D : va_G} {dA : Nat → ClassId} {k a : Nat} {V : Nat → Value} {H H1 : Heap} (h : mcell D dA k a V H) (hq : H1[a]? = H[a]?) : mcell D dA k a V H1 := by
  unfold mcell at h ⊢
  cases hs : sh k with
  | inl ci =>
    rw [hs] at h
    obtain ⟨r, h1, h2⟩ := h
    exact ⟨r, h1, h2.kept hq⟩
  | inr q =>
    rw [hs] at h
    exact hq.trans h
theorem mcell.lt {D : va_G} {dA : Nat → ClassId} {k a : Nat} {V : Nat → Value} {H : Heap} (h : mcell D dA k a V H) : a < H.size := by
  unfold mcell at h
  cases hs : sh k with
  | inl ci =>
    rw [hs] at h
    obtain ⟨r, h1, cell, h2, h3⟩ := h
    exact (Array.getElem?_eq_some_iff.mp h2).1
  | inr q =>
    rw [hs] at h
    exact (Array.getElem?_eq_some_iff.mp h).1
/-- the heap holds the memory: live names have cells apart, from 'base' on; what a reference names is live -/
def mRep (D : va_G) (dA : Nat → ClassId) (base : Nat) (M : mM) (ad : Nat → Nat → Nat) (H : Heap) : Prop :=
  (∀ k i, i < gn M k → base ≤ ad k i ∧ mcell D dA k (ad k i) (mv M ad k i) H) ∧
  (∀ k i k' i', i < gn M k → i' < gn M k' → ad k i = ad k' i' → k = k' ∧ i = i') ∧
  (∀ k i j t q, i < gn M k → ft k j = t + 2 → gr M k i j = some q → q < gn M t)
/-- since H0 nothing below 'base' has changed -/
def mSt (D : va_G) (dA : Nat → ClassId) (base : Nat) (M : mM) (ad : Nat → Nat → Nat) (H0 H : Heap) (locs : List Loc) : Prop := mRep D dA base M ad H ∧ va_S (fun q => base ≤ q) H0 H locs ∧ base ≤ H0.size
def mK (D : va_G) (dA : Nat → ClassId) (U : State) : Prop := va_K D classes (atl dA) U
/-- what a throw needs of the heap below 'base', and the texts of the class that are there -/
def mZ (base : Nat) (U : State) : Prop := vx_Zq Bundle.tN "UNASSIGNED_STACK" Bundle.steD (fun q => base ≤ q) U U.heap ∧ vx_Zq Bundle.tN "SUPPRESSED_SENTINEL" Bundle.listD (fun q => base ≤ q) U U.heap ∧ ∀ x ∈ txs, ∃ sa : Nat, vk_R x.1 x.2.1 x.2.2 sa U
def mCx (D : va_G) (dA : Nat → ClassId) (base : Nat) (p : Program) (s : State) (m : MethodId) (args : Array Value) (c : Code) (cc : ByteArray) (own : String) : Prop := p.tables.exec = Jvm.exec ∧ c.code = cc ∧ s.vm.findClass own = some m.cls ∧ (∀ w ∈ gw, w.before args s = true) ∧ mK D dA s ∧ mZ base s
/-- what an instruction at a field's link needs: kind k, slot j -/
def fLk (own : String) (idx k j : Nat) : Prop := ∃ (ci : Nat) (C : String) (T : u_T) (N : Nat), sh k = .inl ci ∧ classes[ci]? = some (C, T, N) ∧ j < N ∧ (T j).1 = C ∧ (∀ w ∈ u_ws C T N, w ∈ gw) ∧ (Cond.fieldLink own idx C (T j).2.1 (T j).2.2.1 ∈ gw ∨ ∃ host, Cond.fieldLinkNest own idx C (T j).2.1 (T j).2.2.1 host ∈ gw)
/-- .. and a writing one, of type ty -/
def fPk (own : String) (idx k j : Nat) (ty : FieldType) : Prop := ∃ (ci : Nat) (C : String) (T : u_T) (N : Nat) (ty0 : Nat → FieldType), sh k = .inl ci ∧ classes[ci]? = some (C, T, N) ∧ j < N ∧ (T j).1 = C ∧ (∀ w ∈ u_ws C T N, w ∈ gw) ∧ (∀ k, k < N → parseFieldDescriptor (T k).2.2.1 = some (ty0 k)) ∧ (∀ a, a < N → ∀ b, b < N → a ≠ b → (T a).2.1 ≠ (T b).2.1) ∧ ty0 j = ty ∧
  (((T j).2.2.2 = false ∧ (Cond.fieldLink own idx C (T j).2.1 (T j).2.2.1 ∈ gw ∨ ∃ host, Cond.fieldLinkNest own idx C (T j).2.1 (T j).2.2.1 host ∈ gw)))
/-- .. a final one, in its class's constructor -/
def fFk (own : String) (idx k j : Nat) (ty : FieldType) : Prop := ∃ (ci : Nat) (C : String) (T : u_T) (N : Nat) (ty0 : Nat → FieldType), sh k = .inl ci ∧ classes[ci]? = some (C, T, N) ∧ j < N ∧ (T j).1 = C ∧ (∀ w ∈ u_ws C T N, w ∈ gw) ∧ (∀ k, k < N → parseFieldDescriptor (T k).2.2.1 = some (ty0 k)) ∧ (∀ a, a < N → ∀ b, b < N → a ≠ b → (T a).2.1 ≠ (T b).2.1) ∧ ty0 j = ty ∧
  ((T j).2.2.2 = true ∧ own = C ∧ Cond.fieldLink own idx C (T j).2.1 (T j).2.2.1 ∈ gw)
/-- an array kind -/
def aLk (k t n : Nat) (ty : FieldType) : Prop := sh k = .inr (t, n) ∧ n < 2 ^ 31 ∧ ∀ dA : Nat → ClassId, (atl dA)[t]? = some (dA t, ty)
theorem mRep_store {D : va_G} {dA : Nat → ClassId} {base : Nat} {M M' : mM} {ad : Nat → Nat → Nat} {H H1 : Heap} (h : mRep D dA base M ad H) {k i : Nat} (hi : i < gn M k) (hc : mcell D dA k (ad k i) (mv M' ad k i) H1) (ho : ∀ q : Nat, q ≠ ad k i → H1[q]? = H[q]?) (hn : ∀ a, gn M' a = gn M a) (hV : ∀ a b, ¬ (a = k ∧ b = i) → mv M' ad a b = mv M ad a b) (hcl : ∀ k i j t q, i < gn M' k → ft k j = t + 2 → gr M' k i j = some q → q < gn M' t) : mRep D dA base M' ad H1 := by
  refine ⟨fun a b hb => ?_, fun a b a' b' hb hb' => ?_, hcl⟩
  · rw [hn] at hb
    refine ⟨(h.1 a b hb).1, ?_⟩
    by_cases hab : a = k ∧ b = i
    · obtain ⟨rfl, rfl⟩ := hab
      exact hc
    · rw [hV a b hab]
      exact (h.1 a b hb).2.kept (ho _ (fun q => hab (h.2.1 a b k i hb hi q)))
  · rw [hn] at hb hb'
    exact h.2.1 a b a' b' hb hb'
theorem mv_si {M : mM} {ad : Nat → Nat → Nat} {k i j : Nat} {x : Int32} (h0 : ft k j = 0) : mv (si M k i j x) ad k i = updV (mv M ad k i) j (.int x) := by
  funext q
  by_cases hq : q = j
  · subst hq
    rw [mv_i h0, gi_si]
    simp [updV]
  · simp [updV, hq, mv, gi_si, gr_si, gl_si]
theorem mv_sr {M : mM} {ad : Nat → Nat → Nat} {k i j t : Nat} {x : Option Nat} (h0 : ft k j = t + 2) : mv (sr M k i j x) ad k i = updV (mv M ad k i) j (rfv ad t x) := by
  funext q
  by_cases hq : q = j
  · subst hq
    rw [mv_r h0, gr_sr]
    simp [updV]
  · simp [updV, hq, mv, gi_sr, gr_sr, gl_sr]
theorem mv_sl {M : mM} {ad : Nat → Nat → Nat} {k i j : Nat} {x : Int64} (h0 : ft k j = 1) : mv (sl M k i j x) ad k i = updV (mv M ad k i) j (.long x) := by
  funext q
  by_cases hq : q = j
  · subst hq
    rw [mv_l h0, gl_sl]
    simp [updV]
  · simp [updV, hq, mv, gi_sl, gr_sl, gl_sl]
theorem mv_si_ne {M : mM} {ad : Nat → Nat → Nat} {k i j a b : Nat} {x : Int32} (h : ¬ (a = k ∧ b = i)) : mv (si M k i j x) ad a b = mv M ad a b := by
  funext q
  have h2 : ¬ (a = k ∧ b = i ∧ q = j) := fun z => h ⟨z.1, z.2.1⟩
  simp [mv, gi_si, gr_si, gl_si, h2]
theorem mv_sr_ne {M : mM} {ad : Nat → Nat → Nat} {k i j a b : Nat} {x : Option Nat} (h : ¬ (a = k ∧ b = i)) : mv (sr M k i j x) ad a b = mv M ad a b := by
  funext q
  have h2 : ¬ (a = k ∧ b = i ∧ q = j) := fun z => h ⟨z.1, z.2.1⟩
  simp [mv, gi_sr, gr_sr, gl_sr, h2]
theorem mv_sl_ne {M : mM} {ad : Nat → Nat → Nat} {k i j a b : Nat} {x : Int64} (h : ¬ (a = k ∧ b = i)) : mv (sl M k i j x) ad a b = mv M ad a b := by
  funext q
  have h2 : ¬ (a = k ∧ b = i ∧ q = j) := fun z => h ⟨z.1, z.2.1⟩
  simp [mv, gi_sl, gr_sl, gl_sl, h2]
theorem mRep_si {D : va_G} {dA : Nat → ClassId} {base : Nat} {M : mM} {ad : Nat → Nat → Nat} {H H1 : Heap} (h : mRep D dA base M ad H) {k i j : Nat} {x : Int32} (hi : i < gn M k) (hc : mcell D dA k (ad k i) (mv (si M k i j x) ad k i) H1) (ho : ∀ q : Nat, q ≠ ad k i → H1[q]? = H[q]?) : mRep D dA base (si M k i j x) ad H1 :=
  mRep_store h hi hc ho (fun _ => rfl) (fun _ _ z => mv_si_ne z) h.2.2
theorem mRep_sl {D : va_G} {dA : Nat → ClassId} {base : Nat} {M : mM} {ad : Nat → Nat → Nat} {H H1 : Heap} (h : mRep D dA base M ad H) {k i j : Nat} {x : Int64} (hi : i < gn M k) (hc : mcell D dA k (ad k i) (mv (sl M k i j x) ad k i) H1) (ho : ∀ q : Nat, q ≠ ad k i → H1[q]? = H[q]?) : mRep D dA base (sl M k i j x) ad H1 :=
  mRep_store h hi hc ho (fun _ => rfl) (fun _ _ z => mv_sl_ne z) h.2.2
theorem mRep_sr {D : va_G} {dA : Nat → ClassId} {base : Nat} {M : mM} {ad : Nat → Nat → Nat} {H H1 : Heap} (h : mRep D dA base M ad H) {k i j t : Nat} {x : Option Nat} (hi : i < gn M k) (ht : ft k j = t + 2) (hx : ∀ q, x = some q → q < gn M t) (hc : mcell D dA k (ad k i) (mv (sr M k i j x) ad k i) H1) (ho : ∀ q : Nat, q ≠ ad k i → H1[q]? = H[q]?) : mRep D dA base (sr M k i j x) ad H1 := by
  refine mRep_store h hi hc ho (fun _ => rfl) (fun _ _ z => mv_sr_ne z) ?_
  intro a b c t' q hb ht' hq
  rw [gr_sr] at hq
  by_cases h3 : a = k ∧ b = i ∧ c = j
  · rw [if_pos h3] at hq
    obtain ⟨rfl, rfl, rfl⟩ := h3
    have : t' = t := by omega
    subst this
    exact hx q hq
  · rw [if_neg h3] at hq
    exact h.2.2 a b c t' q hb ht' hq
theorem mSt.live {D : va_G} {dA : Nat → ClassId} {base : Nat} {M : mM} {ad : Nat → Nat → Nat} {H0 H : Heap} {locs : List Loc} (h : mSt D dA base M ad H0 H locs) {k i j t q : Nat} (hi : i < gn M k) (ht : ft k j = t + 2) (hq : gr M k i j = some q) : q < gn M t := h.1.2.2 k i j t q hi ht hq
