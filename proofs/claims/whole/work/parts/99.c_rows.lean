section LROWS
variable {p : Program} {l : Launch} {e : Env} {R : Room} {s : State} {m : MethodId} {args : Array Value} {below : List Frame} {meth : Method} {c : Code} {H : Heap} {locs : List Loc} {cells slots : Nat} {Q : State → Prop}
variable {cc : ByteArray} {pc : Nat} {ls : Array Slot} {rest : List Value} {D : va_G} {dA : Nat → ClassId} {base : Nat} {M : mM} {ad : Nat → Nat → Nat} {own : String}
theorem r_sld (X : mCx D dA base p s m args c cc own) (hM : mSt D dA base M ad s.heap H locs) {b L : Nat} {xs : Nat → Int32} (hX : va_X b L xs s s.heap) (hbl : b < s.heap.size) (hbA : ¬ base ≤ b) (hL : L < 2 ^ 31) {x : Int32} {j : Nat} (hx : x = nI j) (hj : j < L) (hdg : decode cc pc = .ok (.iaload, 1))
    (kk : W p l e R s m args below meth c H locs cells slots Q (F0 m (pc + 1) ls (.int (xs j) :: rest))) : W p l e R s m args below meth c H locs cells slots Q (F0 m pc ls (.int x :: .ref b :: rest)) := by
  subst hx
  refine va_sld X.1 X.2.1 hX hbl hbA hM.2.1 (vp_in_nI hj hL) hdg ?_
  rw [nI_clamp (by omega)]
  exact kk
theorem r_slen (X : mCx D dA base p s m args c cc own) (hM : mSt D dA base M ad s.heap H locs) {b L : Nat} {xs : Nat → Int32} (hX : va_X b L xs s s.heap) (hbl : b < s.heap.size) (hbA : ¬ base ≤ b) (hdg : decode cc pc = .ok (.arraylength, 1))
    (kk : W p l e R s m args below meth c H locs cells slots Q (F0 m (pc + 1) ls (.int (nI L) :: rest))) : W p l e R s m args below meth c H locs cells slots Q (F0 m pc ls (.ref b :: rest)) :=
  va_slen X.1 X.2.1 hX hbl hbA hM.2.1 hdg kk
theorem r_lald (X : mCx D dA base p s m args c cc own) {H0 : Heap} (hM : mSt D dA base M ad H0 H locs) {k i j a t n : Nat} (ha : ad k i = a) (hi : i < gn M k) (hA : aLk k t n .long) (h0 : ∀ j, ft k j = 1) {x : Int32} (hx : x = nI j) (hj : j < n) (hdg : decode cc pc = .ok (.laload, 1))
    (kk : W p l e R s m args below meth c H locs cells slots Q (F0 m (pc + 1) ls (.long (gl M k i j) :: rest))) : W p l e R s m args below meth c H locs cells slots Q (F0 m pc ls (.int x :: .ref a :: rest)) := by
  obtain ⟨hexec, hb, hown, hts, hK, -⟩ := X
  obtain ⟨hs, hn, ht⟩ := hA
  obtain ⟨-, hcell⟩ := hM.1.1 k i hi
  unfold mcell at hcell
  rw [hs] at hcell
  subst ha; subst hx
  have hcl : (nI j).toNatClampNeg = j := nI_clamp (by omega)
  refine W.lald (v := .long (gl M k i j)) hexec hb hcell ((hK.2 t _ (ht dA)).1 n (mv M ad k i)) (fun q => by cases q) (by show ¬ (nI j < 0 ∨ (arrV _ _ _).slots.size ≤ _); rw [arrV_size]; exact nI_in hj hn) ?_ rfl rfl hdg kk
  show (arrV _ _ _).slots[_]? = _
  rw [hcl, arrV_read _ _ hj, mv_l (h0 j)]
end LROWS
