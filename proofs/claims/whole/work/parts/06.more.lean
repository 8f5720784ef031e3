section MROWS2
variable {p : Program} {l : Launch} {e : Env} {R : Room} {s : State} {m : MethodId} {args : Array Value} {below : List Frame} {meth : Method} {c : Code} {H : Heap} {locs : List Loc} {cells slots : Nat} {Q : State → Prop}
variable {cc : ByteArray} {pc : Nat} {ls : Array Slot} {rest : List Value} {D : va_G} {dA : Nat → ClassId} {base : Nat} {M : mM} {ad : Nat → Nat → Nat} {own : String} {H0 : Heap}
theorem r_aload_n (hexec : p.tables.exec = Jvm.exec) (hb : c.code = cc) {z : Fin 4} {i k : Nat} {r : Option Nat} (hdg : decode cc pc = .ok (.aload_n z, 1)) (hi : (z : Nat) = i) (hl : ls[i]? = some (.val (rfv ad k r)))
    (kk : W p l e R s m args below meth c H locs cells slots Q (F0 m (pc + 1) ls (rfv ad k r :: rest))) : W p l e R s m args below meth c H locs cells slots Q (F0 m pc ls rest) := by
  cases r with
  | none => exact lv_aload_nN hexec hb hdg hi hl kk
  | some t => exact lv_aload_n hexec hb hdg hi hl kk
theorem r_aload (hexec : p.tables.exec = Jvm.exec) (hb : c.code = cc) {i k : Nat} {r : Option Nat} (hdg : decode cc pc = .ok (.aload i, 2)) (hl : ls[i]? = some (.val (rfv ad k r)))
    (kk : W p l e R s m args below meth c H locs cells slots Q (F0 m (pc + 2) ls (rfv ad k r :: rest))) : W p l e R s m args below meth c H locs cells slots Q (F0 m pc ls rest) := by
  cases r with
  | none => exact lv_aloadN hexec hb hdg hl kk
  | some t => exact lv_aload hexec hb hdg hl kk
theorem r_astore_n (hexec : p.tables.exec = Jvm.exec) (hb : c.code = cc) {z : Fin 4} {i nL k : Nat} {r : Option Nat} {lv lv' : List (Nat × Value)} (hdg : decode cc pc = .ok (.astore_n z, 1)) (hi : (z : Nat) = i) (h : lv_has ls nL lv) (hn : i < nL) (hl : (i, rfv ad k r) :: lv.filter (fun q => !(q.1 == i) && !(q.1 + 1 == i && q.2.category == 2)) = lv')
    (kk : ∀ ls' : Array Slot, lv_has ls' nL lv' → W p l e R s m args below meth c H locs cells slots Q (F0 m (pc + 1) ls' rest)) : W p l e R s m args below meth c H locs cells slots Q (F0 m pc ls (rfv ad k r :: rest)) := by
  cases r with
  | none => exact lv_astore_nN hexec hb hdg hi h hn hl kk
  | some t => exact lv_astore_n hexec hb hdg hi h hn hl kk
theorem r_astore (hexec : p.tables.exec = Jvm.exec) (hb : c.code = cc) {i nL k : Nat} {r : Option Nat} {lv lv' : List (Nat × Value)} (hdg : decode cc pc = .ok (.astore i, 2)) (h : lv_has ls nL lv) (hn : i < nL) (hl : (i, rfv ad k r) :: lv.filter (fun q => !(q.1 == i) && !(q.1 + 1 == i && q.2.category == 2)) = lv')
    (kk : ∀ ls' : Array Slot, lv_has ls' nL lv' → W p l e R s m args below meth c H locs cells slots Q (F0 m (pc + 2) ls' rest)) : W p l e R s m args below meth c H locs cells slots Q (F0 m pc ls (rfv ad k r :: rest)) := by
  cases r with
  | none => exact lv_astoreN hexec hb hdg h hn hl kk
  | some t => exact lv_astore hexec hb hdg h hn hl kk
theorem r_ifnull (hexec : p.tables.exec = Jvm.exec) (hb : c.code = cc) {k : Nat} {r : Option Nat} {off : Int} {tgt : Nat} (hdg : decode cc pc = .ok (.ifnull off, 3)) (ht : (pc : Int) + off = (tgt : Int))
    (kt : r = none → W p l e R s m args below meth c H locs cells slots Q (F0 m tgt ls rest)) (kf : ∀ t, r = some t → W p l e R s m args below meth c H locs cells slots Q (F0 m (pc + 3) ls rest)) : W p l e R s m args below meth c H locs cells slots Q (F0 m pc ls (rfv ad k r :: rest)) := by
  cases r with
  | none => exact lv_ifnullN hexec hb hdg ht (kt rfl)
  | some t => exact lv_ifnull hexec hb hdg (kf t rfl)
theorem r_ifnonnull (hexec : p.tables.exec = Jvm.exec) (hb : c.code = cc) {k : Nat} {r : Option Nat} {off : Int} {tgt : Nat} (hdg : decode cc pc = .ok (.ifnonnull off, 3)) (ht : (pc : Int) + off = (tgt : Int))
    (kt : ∀ t, r = some t → W p l e R s m args below meth c H locs cells slots Q (F0 m tgt ls rest)) (kf : r = none → W p l e R s m args below meth c H locs cells slots Q (F0 m (pc + 3) ls rest)) : W p l e R s m args below meth c H locs cells slots Q (F0 m pc ls (rfv ad k r :: rest)) := by
  cases r with
  | none => exact lv_ifnonnullN hexec hb hdg (kf rfl)
  | some t => exact lv_ifnonnull hexec hb hdg ht (kt t rfl)
theorem rfv_rf (ad : Nat → Nat → Nat) (k : Nat) (r : Option Nat) : rfv ad k r = va_rf (r.map (ad k)) := by cases r <;> rfl
theorem r_inj (hM : mSt D dA base M ad H0 H locs) {k : Nat} {x y : Option Nat} (hx : ∀ q, x = some q → q < gn M k) (hy : ∀ q, y = some q → q < gn M k) : x.map (ad k) = y.map (ad k) ↔ x = y := by
  constructor
  · intro h
    cases x with
    | none => cases y with
      | none => rfl
      | some b => cases h
    | some a => cases y with
      | none => cases h
      | some b =>
        have h2 : ad k a = ad k b := Option.some.inj h
        rw [(hM.1.2.1 k a k b (hx a rfl) (hy b rfl) h2).2]
  · intro h
    rw [h]
theorem r_acmp_eq (hexec : p.tables.exec = Jvm.exec) (hb : c.code = cc) (hM : mSt D dA base M ad H0 H locs) {k : Nat} {rx ry : Option Nat} (hx : ∀ q, rx = some q → q < gn M k) (hy : ∀ q, ry = some q → q < gn M k) {off : Int} {tgt : Nat} (hdg : decode cc pc = .ok (.if_acmp .eq off, 3)) (ht : (pc : Int) + off = (tgt : Int))
    (kt : rx = ry → W p l e R s m args below meth c H locs cells slots Q (F0 m tgt ls rest)) (kf : ¬ rx = ry → W p l e R s m args below meth c H locs cells slots Q (F0 m (pc + 3) ls rest)) : W p l e R s m args below meth c H locs cells slots Q (F0 m pc ls (rfv ad k ry :: rfv ad k rx :: rest)) := by
  rw [rfv_rf, rfv_rf]
  exact lv_acmp_eq hexec hb hdg ht (fun h => kt ((r_inj hM hx hy).mp h)) (fun h => kf (fun z => h ((r_inj hM hx hy).mpr z)))
theorem r_acmp_ne (hexec : p.tables.exec = Jvm.exec) (hb : c.code = cc) (hM : mSt D dA base M ad H0 H locs) {k : Nat} {rx ry : Option Nat} (hx : ∀ q, rx = some q → q < gn M k) (hy : ∀ q, ry = some q → q < gn M k) {off : Int} {tgt : Nat} (hdg : decode cc pc = .ok (.if_acmp .ne off, 3)) (ht : (pc : Int) + off = (tgt : Int))
    (kt : ¬ rx = ry → W p l e R s m args below meth c H locs cells slots Q (F0 m tgt ls rest)) (kf : rx = ry → W p l e R s m args below meth c H locs cells slots Q (F0 m (pc + 3) ls rest)) : W p l e R s m args below meth c H locs cells slots Q (F0 m pc ls (rfv ad k ry :: rfv ad k rx :: rest)) := by
  rw [rfv_rf, rfv_rf]
  exact lv_acmp_ne hexec hb hdg ht (fun h => kt (fun z => h ((r_inj hM hx hy).mpr z))) (fun h => kf ((r_inj hM hx hy).mp h))
def dv (t : Nat) : Value := match t with
  | 0 => .int 0
  | 1 => .long 0
  | _ + 2 => .null
theorem mRep_new {H1 : Heap} (h : mRep D dA base M ad H) {k q : Nat} (hq : H.size ≤ q) (hba : base ≤ q) (hc : mcell D dA k q (fun j => dv (ft k j)) H1) (ho : ∀ x : Nat, x < H.size → H1[x]? = H[x]?) : mRep D dA base (sn M k) (fun a b => if a = k ∧ b = gn M k then q else ad a b) H1 := by
  have hold : ∀ a b, b < gn M a → ¬ (a = k ∧ b = gn M k) := fun a b hb z => by
    obtain ⟨rfl, rfl⟩ := z
    exact Nat.lt_irrefl _ hb
  have hlive : ∀ a b, b < gn (sn M k) a → (a = k ∧ b = gn M k) ∨ b < gn M a := by
    intro a b hb
    rw [gn_sn] at hb
    by_cases ha : a = k
    · subst ha
      rw [if_pos rfl] at hb
      by_cases h2 : b = gn M a
      · exact Or.inl ⟨rfl, h2⟩
      · exact Or.inr (by omega)
    · rw [if_neg ha] at hb
      exact Or.inr hb
  have hmv : ∀ a b, b < gn M a → mv (sn M k) (fun a b => if a = k ∧ b = gn M k then q else ad a b) a b = mv M ad a b := by
    intro a b hb
    funext j
    have h3 := hold a b hb
    cases hf : ft a j with
    | zero => rw [mv_i hf, mv_i hf, gi_sn, if_neg h3]
    | succ n =>
      cases n with
      | zero => rw [mv_l hf, mv_l hf, gl_sn, if_neg h3]
      | succ t =>
        rw [mv_r hf, mv_r hf, gr_sn, if_neg h3]
        cases hr : gr M a b j with
        | none => rfl
        | some z =>
          have hz := h.2.2 a b j t z hb hf hr
          show Value.ref _ = Value.ref _
          dsimp only
          rw [if_neg (hold t z hz)]
  refine ⟨fun a b hb => ?_, fun a b a' b' hb hb' he => ?_, fun a b j t z hb hf hr => ?_⟩
  · rcases hlive a b hb with ⟨rfl, rfl⟩ | h2
    · have hq0 : (fun x y => if x = a ∧ y = gn M a then q else ad x y) a (gn M a) = q := if_pos ⟨rfl, rfl⟩
      rw [hq0]
      refine ⟨hba, ?_⟩
      have : mv (sn M a) (fun x y => if x = a ∧ y = gn M a then q else ad x y) a (gn M a) = fun j => dv (ft a j) := by
        funext j
        cases hf : ft a j with
        | zero => rw [mv_i hf, gi_sn, if_pos ⟨rfl, rfl⟩]; rfl
        | succ n =>
          cases n with
          | zero => rw [mv_l hf, gl_sn, if_pos ⟨rfl, rfl⟩]; rfl
          | succ t => rw [mv_r hf, gr_sn, if_pos ⟨rfl, rfl⟩]; rfl
      rw [this]
      exact hc
    · have hq0 : (fun x y => if x = k ∧ y = gn M k then q else ad x y) a b = ad a b := if_neg (hold a b h2)
      rw [hq0, hmv a b h2]
      exact ⟨(h.1 a b h2).1, (h.1 a b h2).2.kept (ho _ (h.1 a b h2).2.lt)⟩
  · dsimp only at he
    rcases hlive a b hb with h2 | h2 <;> rcases hlive a' b' hb' with h3 | h3
    · exact ⟨h2.1.trans h3.1.symm, h2.2.trans h3.2.symm⟩
    · exfalso
      rw [if_pos h2, if_neg (hold a' b' h3)] at he
      have := (h.1 a' b' h3).2.lt
      omega
    · exfalso
      rw [if_neg (hold a b h2), if_pos h3] at he
      have := (h.1 a b h2).2.lt
      omega
    · rw [if_neg (hold a b h2), if_neg (hold a' b' h3)] at he
      exact h.2.1 a b a' b' h2 h3 he
  · rw [gr_sn] at hr
    rcases hlive a b hb with h2 | h2
    · rw [if_pos h2] at hr
      cases hr
    · rw [if_neg (hold a b h2)] at hr
      have := h.2.2 a b j t z h2 hf hr
      rw [gn_sn]
      by_cases htk : t = k
      · subst htk
        rw [if_pos rfl]
        omega
      · rw [if_neg htk]
        exact this
theorem mSt_new {H1 : Heap} (hM : mSt D dA base M ad H0 H locs) {k q : Nat} (hq : q = H.size) (hc : mcell D dA k q (fun j => dv (ft k j)) H1) (hz : H.size ≤ H1.size) (ho : ∀ x : Nat, x < H.size → H1[x]? = H[x]?) : mSt D dA base (sn M k) (fun a b => if a = k ∧ b = gn M k then q else ad a b) H0 H1 locs := by
  have h1 : base ≤ H.size := Nat.le_trans hM.2.2 hM.2.1.1
  refine ⟨mRep_new hM.1 (by omega) (by omega) hc ho, ⟨Nat.le_trans hM.2.1.1 hz, fun x h2 h3 => (ho x (Nat.lt_of_lt_of_le h2 hM.2.1.1)).trans (hM.2.1.2.1 x h2 h3), hM.2.1.2.2⟩, hM.2.2⟩
/-- new: what it needs -/
def nLk (own : String) (idx k N : Nat) : Prop := ∃ (ci : Nat) (C : String) (T : u_T) (ty0 : Nat → FieldType), sh k = .inl ci ∧ classes[ci]? = some (C, T, N) ∧ (∀ w ∈ u_ws C T N, w ∈ gw) ∧ (∀ j, j < N → parseFieldDescriptor (T j).2.2.1 = some (ty0 j)) ∧ (∀ j, j < N → defaultValue (ty0 j) = dv (ft k j)) ∧ Cond.classLink own idx C ∈ gw ∧ Cond.instantiable C N ∈ gw ∧ Cond.initialized C ∈ gw
theorem r_new (X : mCx D dA base p s m args c cc own) (hM : mSt D dA base M ad H0 H locs) {k idx N : Nat} (hN : nLk own idx k N) (hcells : cells + 1 ≤ R.cells) (hslots : slots + N ≤ R.slots) (hdg : decode cc pc = .ok (.new idx, 3))
    (kk : ∀ (q : Nat) (H1 : Heap) (ad' : Nat → Nat → Nat), mSt D dA base (sn M k) ad' H0 H1 locs → (∀ a b, b < gn M a → ad' a b = ad a b) → ad' k (gn M k) = q → W p l e R s m args below meth c H1 locs (cells + 1) (slots + N) Q (F0 m (pc + 3) ls (.ref q :: rest))) : W p l e R s m args below meth c H locs cells slots Q (F0 m pc ls rest) := by
  obtain ⟨hexec, hb, hown, hts, hK, -⟩ := X
  obtain ⟨ci, C, T, ty0, hs, hc, hin, hty, hdv, w1, w2, w3⟩ := hN
  have hKn := hK.1 ci _ hc
  refine W.newcK hexec hb hown (hts _ w1) (hts _ w2) (hts _ w3) rfl hdg hcells hslots hKn.2.1 rfl fun H1 kC hkC e1 z1 o1 => ?_
  refine kk H.size H1 _ (mSt_new (k := k) hM rfl ?_ (by omega) o1) (fun a b hb => if_neg (fun z => ?_)) (if_pos ⟨rfl, rfl⟩)
  · unfold mcell
    rw [hs]
    exact ⟨_, hc, (u_born ty0 hts hin hKn hkC e1 hty).to (fun j hj => hdv j hj)⟩
  · obtain ⟨rfl, rfl⟩ := z
    exact Nat.lt_irrefl _ hb
theorem r_newi (X : mCx D dA base p s m args c cc own) (hM : mSt D dA base M ad H0 H locs) {k t n : Nat} (hA : aLk k t n .int) (h0 : ∀ j, ft k j = 0) (hw : Cond.arrayClass .int ∈ gw) {x : Int32} (hx : x = nI n) (hby : n * 4 ≤ 536870912) (hcells : cells + 1 ≤ R.cells) (hslots : slots + n ≤ R.slots) (hdg : decode cc pc = .ok (.newarray .int, 2))
    (kk : ∀ (q : Nat) (H1 : Heap) (ad' : Nat → Nat → Nat), mSt D dA base (sn M k) ad' H0 H1 locs → (∀ a b, b < gn M a → ad' a b = ad a b) → ad' k (gn M k) = q → W p l e R s m args below meth c H1 locs (cells + 1) (slots + n) Q (F0 m (pc + 2) ls (.ref q :: rest))) : W p l e R s m args below meth c H locs cells slots Q (F0 m pc ls (.int x :: rest)) := by
  obtain ⟨hexec, hb, hown, hts, hK, -⟩ := X
  obtain ⟨hs, hn, ht⟩ := hA
  subst hx
  refine va_newaK (atype := .int) hexec hb (hts _ hw) rfl hdg rfl (nI_pos hn) (nI_clamp hn) hby hcells hslots rfl fun H1 cA e1 z1 o1 hAr hNm => ?_
  have hcA : cA = dA t := by
    have h8 := (hK.2 t _ (ht dA)).2
    exact Option.some.inj (hNm.symm.trans h8)
  subst hcA
  refine kk H.size H1 _ (mSt_new (k := k) hM rfl ?_ (by omega) o1) (fun a b hb => if_neg (fun z => ?_)) (if_pos ⟨rfl, rfl⟩)
  · unfold mcell
    rw [hs]
    rw [show (fun j => dv (ft k j)) = (fun _ => Value.int 0) from funext fun j => by rw [h0]; rfl]
    exact e1
  · obtain ⟨rfl, rfl⟩ := z
    exact Nat.lt_irrefl _ hb
theorem r_newl (X : mCx D dA base p s m args c cc own) (hM : mSt D dA base M ad H0 H locs) {k t n : Nat} (hA : aLk k t n .long) (h0 : ∀ j, ft k j = 1) (hw : Cond.arrayClass .long ∈ gw) {x : Int32} (hx : x = nI n) (hby : n * 8 ≤ 536870912) (hcells : cells + 1 ≤ R.cells) (hslots : slots + n ≤ R.slots) (hdg : decode cc pc = .ok (.newarray .long, 2))
    (kk : ∀ (q : Nat) (H1 : Heap) (ad' : Nat → Nat → Nat), mSt D dA base (sn M k) ad' H0 H1 locs → (∀ a b, b < gn M a → ad' a b = ad a b) → ad' k (gn M k) = q → W p l e R s m args below meth c H1 locs (cells + 1) (slots + n) Q (F0 m (pc + 2) ls (.ref q :: rest))) : W p l e R s m args below meth c H locs cells slots Q (F0 m pc ls (.int x :: rest)) := by
  obtain ⟨hexec, hb, hown, hts, hK, -⟩ := X
  obtain ⟨hs, hn, ht⟩ := hA
  subst hx
  refine va_newaK (atype := .long) hexec hb (hts _ hw) rfl hdg rfl (nI_pos hn) (nI_clamp hn) hby hcells hslots rfl fun H1 cA e1 z1 o1 hAr hNm => ?_
  have hcA : cA = dA t := by
    have h8 := (hK.2 t _ (ht dA)).2
    exact Option.some.inj (hNm.symm.trans h8)
  subst hcA
  refine kk H.size H1 _ (mSt_new (k := k) hM rfl ?_ (by omega) o1) (fun a b hb => if_neg (fun z => ?_)) (if_pos ⟨rfl, rfl⟩)
  · unfold mcell
    rw [hs]
    rw [show (fun j => dv (ft k j)) = (fun _ => Value.long 0) from funext fun j => by rw [h0]; rfl]
    exact e1
  · obtain ⟨rfl, rfl⟩ := z
    exact Nat.lt_irrefl _ hb
theorem r_newq (X : mCx D dA base p s m args c cc own) (hM : mSt D dA base M ad H0 H locs) {k t n u idx : Nat} {C : String} (hA : aLk k t n (.object C)) (h0 : ∀ j, ft k j = u + 2) (hw : Cond.arrayOver (.object C) ∈ gw) (hw2 : Cond.classLink own idx C ∈ gw) {x : Int32} (hx : x = nI n) (hby : n * 4 ≤ 536870912) (hcells : cells + 1 ≤ R.cells) (hslots : slots + n ≤ R.slots) (hdg : decode cc pc = .ok (.anewarray idx, 3))
    (kk : ∀ (q : Nat) (H1 : Heap) (ad' : Nat → Nat → Nat), mSt D dA base (sn M k) ad' H0 H1 locs → (∀ a b, b < gn M a → ad' a b = ad a b) → ad' k (gn M k) = q → W p l e R s m args below meth c H1 locs (cells + 1) (slots + n) Q (F0 m (pc + 3) ls (.ref q :: rest))) : W p l e R s m args below meth c H locs cells slots Q (F0 m pc ls (.int x :: rest)) := by
  obtain ⟨hexec, hb, hown, hts, hK, -⟩ := X
  obtain ⟨hs, hn, ht⟩ := hA
  subst hx
  have hcl : (nI n).toNatClampNeg = n := nI_clamp hn
  refine W.anew hexec hb hown (hts _ hw2) (hts _ hw) rfl hdg rfl (nI_pos hn) (by rw [hcl]; exact hby) hcells (by rw [hcl]; exact hslots) fun cA kA comp f1 f2 f3 f4 => ?_
  generalize hH1 : H.push ({ cls := cA, slots := Array.replicate (nI n).toNatClampNeg .null, vm := .none } : Cell) = H1
  have z1 : H1.size = H.size + 1 := by rw [← hH1, Array.size_push]
  have e1 : H1[H.size]? = some (arrV cA n (fun _ => .null)) := by rw [← hH1, Array.getElem?_push_size, ← arrV_new, hcl]
  have o1 : ∀ q : Nat, q < H.size → H1[q]? = H[q]? := fun q hq => by rw [← hH1, Array.getElem?_push, if_neg (Nat.ne_of_lt hq)]
  obtain ⟨kA', comp', k1, k2, k3, k4⟩ := (hK.2 t _ (ht dA)).2
  have hcA : cA = dA t := Option.some.inj (f1.symm.trans k4)
  subst hcA
  rw [hcl]
  refine kk H.size H1 _ (mSt_new (k := k) hM rfl ?_ (by omega) o1) (fun a b hb => if_neg (fun z => ?_)) (if_pos ⟨rfl, rfl⟩)
  · unfold mcell
    rw [hs]
    rw [show (fun j => dv (ft k j)) = (fun _ => Value.null) from funext fun j => by rw [h0]; rfl]
    exact e1
  · obtain ⟨rfl, rfl⟩ := z
    exact Nat.lt_irrefl _ hb
end MROWS2
