theorem r_aastq {p : Program} {l : Launch} {e : Env} {R : Room} {s : State} {m : MethodId} {args : Array Value} {below : List Frame} {meth : Method} {c : Code} {H : Heap} {locs : List Loc} {cells slots : Nat} {Q : State → Prop} {cc : ByteArray} {pc : Nat} {ls : Array Slot} {rest : List Value} {D : va_G} {dA : Nat → ClassId} {base : Nat} {M : mM} {ad : Nat → Nat → Nat} {own : String} {H0 : Heap} (X : mCx D dA base p s m args c cc own) (hM : mSt D dA base M ad H0 H locs) {k i j a t n u ci : Nat} {r : vw_C} {o : Option Nat} (ha : ad k i = a) (hi : i < gn M k) (hA : aLk k t n (.object r.1)) (h0 : ∀ j, ft k j = u + 2) (hu : sh u = .inl ci) (hc : classes[ci]? = some r) (hq : ∀ q, o = some q → q < gn M u) {x : Int32} (hx : x = nI j) (hj : j < n) (hdg : decode cc pc = .ok (.aastore, 1))
    (kk : ∀ (H1 : Heap) (locs1 : List Loc), mSt D dA base (sr M k i j o) ad H0 H1 locs1 → W p l e R s m args below meth c H1 locs1 cells slots Q (F0 m (pc + 1) ls rest)) : W p l e R s m args below meth c H locs cells slots Q (F0 m pc ls (rfv ad u o :: .int x :: .ref a :: rest)) := by
  cases o with
  | none => exact r_aastN X hM ha hi hA h0 hx hj hdg kk
  | some q => exact r_aast X hM ha hi hA h0 hu hc rfl (hq q rfl) hx hj hdg kk
/-- a new registration, not yet in its place -/
def rgN (M : mM) (x : Int32) : mM := rgI (sn M 5) (gn M 5) x
theorem rgN_gn (M : mM) (x : Int32) (a : Nat) : gn (rgN M x) a = if a = 5 then gn M 5 + 1 else gn M a := rfl
theorem rgN_gi (M : mM) (x : Int32) {k i j : Nat} (h : ¬ (k = 5 ∧ i = gn M 5)) : gi (rgN M x) k i j = gi M k i j := by
  unfold rgN rgI
  simp only [gi_si, gi_sr, gi_sn]
  rw [if_neg (by omega), if_neg (by omega), if_neg (by omega), if_neg (by omega)]
theorem rgN_gr (M : mM) (x : Int32) {k i j : Nat} (h : ¬ (k = 5 ∧ i = gn M 5)) : gr (rgN M x) k i j = gr M k i j := by
  unfold rgN rgI
  simp only [gr_si, gr_sr, gr_sn]
  rw [if_neg (by omega), if_neg (by omega), if_neg (by omega), if_neg (by omega)]
def arM (M : mM) (x : Int32) : mM := si (sr (rgN M x) 10 0 (nRg M) (some (gn M 5))) 0 0 6 (nI (nRg M + 1))
theorem arM_gi (M : mM) (x : Int32) {k i j : Nat} (h : ¬ (k = 5 ∧ i = gn M 5)) (h2 : ¬ (k = 0 ∧ j = 6)) : gi (arM M x) k i j = gi M k i j := by
  unfold arM
  rw [gi_si, if_neg (by omega), gi_sr]; exact rgN_gi M x h
theorem arM_gr (M : mM) (x : Int32) {k i j : Nat} (h : ¬ (k = 5 ∧ i = gn M 5)) (h2 : ¬ (k = 10 ∧ j = nRg M)) : gr (arM M x) k i j = gr M k i j := by
  unfold arM
  rw [gr_si, gr_sr, if_neg (by omega)]; exact rgN_gr M x h
theorem arM_gn (M : mM) (x : Int32) (a : Nat) : gn (arM M x) a = if a = 5 then gn M 5 + 1 else gn M a := rfl
theorem arM_nRg {M : mM} (x : Int32) (h5 : nRg M < 5) : nRg (arM M x) = nRg M + 1 := nI_clamp (by omega)
theorem arM_rg (M : mM) (x : Int32) : gr (arM M x) 10 0 (nRg M) = some (gn M 5) := by
  unfold arM
  rw [gr_si, gr_sr, if_pos ⟨rfl, rfl, rfl⟩]
theorem arM_w {M : mM} (hw : wK M) (x : Int32) (h5 : nRg M < 5) : wK (arM M x) := by
  have en : ∀ a, a ≠ 5 → gn (arM M x) a = gn M a := fun a ha => by rw [arM_gn, if_neg ha]
  have e6 := arM_nRg x h5
  refine ⟨⟨by rw [en 0 (by decide)]; exact w_k hw, ?_, ?_, ?_, ?_, ?_, ?_, ?_, by rw [arM_gr M x (by omega) (by omega)]; exact w_3_0 hw⟩, fun i hi => by rw [arM_gr M x (by omega) (by omega)]; exact w_sc hw hi, fun i hi => by rw [arM_gr M x (by omega) (by omega)]; exact w_cl hw hi, ⟨?_, ?_, ?_⟩, ⟨?_, ?_, ?_⟩, ?_, ?_, ?_⟩
  · rw [arM_gr M x (by omega) (by omega)]; exact w_0_0 hw
  · rw [arM_gr M x (by omega) (by omega)]; exact w_0_3 hw
  · rw [arM_gr M x (by omega) (by omega)]; exact w_0_5 hw
  · rw [arM_gr M x (by omega) (by omega)]; exact w_0_7 hw
  · rw [arM_gr M x (by omega) (by omega)]; exact w_0_8 hw
  · rw [arM_gr M x (by omega) (by omega)]; exact w_0_9 hw
  · rw [arM_gr M x (by omega) (by omega)]; exact w_0_11 hw
  · rw [arM_gi M x (by omega) (by omega), en 7 (by decide)]; exact w_nw hw
  · rw [en 7 (by decide)]; exact w_nwl hw
  · intro i hi
    rw [en 7 (by decide)] at hi
    rw [arM_gr M x (by omega) (by omega), arM_gr M x (by omega) (by omega), arM_gr M x (by omega) (by omega), arM_gr M x (by omega) (by omega), arM_gi M x (by omega) (by omega)]
    exact ⟨w_wk hw hi, w_num hw hi, w_7_4 hw hi, w_6_0 hw hi, w_6_1 hw hi⟩
  · rw [e6]; rfl
  · rw [e6]; omega
  · intro i hi
    rw [e6] at hi
    unfold rgx
    by_cases h : i = nRg M
    · subst h; rw [arM_rg]; rfl
    · rw [arM_gr M x (by omega) (by omega), w_rg hw (by omega)]; rfl
  · rw [arM_gi M x (by omega) (by omega), en 4 (by decide)]; exact w_nj hw
  · rw [en 4 (by decide)]; exact w_njl hw
  · intro i hi
    rw [en 4 (by decide)] at hi
    rw [arM_gr M x (by omega) (by omega), arM_gi M x (by omega) (by omega)]
    exact ⟨w_jb hw hi, w_jn hw hi⟩
theorem arM_wT {M : mM} (ht : wT M) (x : Int32) : wT (arM M x) := kt_w (M := M) (arM_gi M x (by omega) (by omega)) ht
theorem arM_new (M : mM) (x : Int32) : gi (arM M x) 5 (gn M 5) 0 = x ∧ gi (arM M x) 5 (gn M 5) 1 = 0 ∧ gi (arM M x) 5 (gn M 5) 5 = 0 ∧ gr (arM M x) 5 (gn M 5) 2 = none ∧ gr (arM M x) 5 (gn M 5) 3 = none ∧ gr (arM M x) 5 (gn M 5) 4 = none := by
  unfold arM rgN rgI
  refine ⟨?_, ?_, ?_, ?_, ?_, ?_⟩ <;> simp [gi_si, gi_sr, gr_si, gr_sr]
theorem arM_o {M : mM} (ho : wO M) (x : Int32) : wO (arM M x) := by
  refine ⟨ho.1, fun i hi => ?_, fun i hi => ?_, fun i hi => ?_, by rw [arM_gi M x (by omega) (by omega)]; exact ho.2.2.2.2⟩
  · by_cases h : i = gn M 5
    · subst h; exact ⟨0, by decide, (arM_new M x).2.1⟩
    · rw [arM_gi M x (by omega) (by omega)]
      rw [arM_gn, if_pos rfl] at hi
      exact ho.2.1 i (by omega)
  · rw [arM_gi M x (by omega) (by omega)]; exact ho.2.2.1 i hi
  · rw [arM_gi M x (by omega) (by omega)]; exact ho.2.2.2.1 i hi
/-- a new worker, not yet in its place -/
def wkN (M : mM) (k : Nat) : mM := wkI (sn M 7) (gn M 7) (gi M 0 0 4 + 1) k
theorem wkN_gn (M : mM) (k a : Nat) : gn (wkN M k) a = if a = 7 ∨ a = 6 ∨ a = 15 ∨ a = 16 then gn M a + 1 else gn M a := by
  unfold wkN wkI caI
  simp only [gn_si, gn_sr, gn_sn]
  by_cases h7 : a = 7
  · subst h7; simp
  by_cases h6 : a = 6
  · subst h6; simp
  by_cases h15 : a = 15
  · subst h15; simp
  by_cases h16 : a = 16
  · subst h16; simp
  simp [h7, h6, h15, h16]
theorem wkN_gi (M : mM) (q : Nat) {k i j : Nat} (h : ¬ ((k = 7 ∨ k = 6 ∨ k = 15 ∨ k = 16) ∧ i = gn M k)) : gi (wkN M q) k i j = gi M k i j := by
  have h7 : ¬ (k = 7 ∧ i = gn M 7) := fun z => h ⟨Or.inl z.1, by rw [z.1]; exact z.2⟩
  have h6 : ¬ (k = 6 ∧ i = gn M 6) := fun z => h ⟨Or.inr (Or.inl z.1), by rw [z.1]; exact z.2⟩
  have h15 : ¬ (k = 15 ∧ i = gn M 15) := fun z => h ⟨Or.inr (Or.inr (Or.inl z.1)), by rw [z.1]; exact z.2⟩
  have h16 : ¬ (k = 16 ∧ i = gn M 16) := fun z => h ⟨Or.inr (Or.inr (Or.inr z.1)), by rw [z.1]; exact z.2⟩
  unfold wkN wkI caI
  generalize hz0 : gi M 0 0 4 + 1 = z0
  simp only [gi_si, gi_sr, gi_sn, gn_si, gn_sr, gn_sn]
  simp only [show ∀ b, (k = 7 ∧ i = gn M 7 ∧ b) = False from fun b => eq_false (fun z => h7 ⟨z.1, z.2.1⟩), show ∀ b, (k = 6 ∧ i = gn M 6 ∧ b) = False from fun b => eq_false (fun z => h6 ⟨z.1, z.2.1⟩), eq_false h7, eq_false h6, eq_false h15, eq_false h16, show ((6 : Nat) = 7) = False from eq_false (by decide), show ((15 : Nat) = 7) = False from eq_false (by decide), show ((15 : Nat) = 6) = False from eq_false (by decide), show ((16 : Nat) = 7) = False from eq_false (by decide), show ((16 : Nat) = 6) = False from eq_false (by decide), show ((16 : Nat) = 15) = False from eq_false (by decide), if_false]
theorem wkN_gr (M : mM) (q : Nat) {k i j : Nat} (h : ¬ ((k = 7 ∨ k = 6 ∨ k = 15 ∨ k = 16) ∧ i = gn M k)) : gr (wkN M q) k i j = gr M k i j := by
  have h7 : ¬ (k = 7 ∧ i = gn M 7) := fun z => h ⟨Or.inl z.1, by rw [z.1]; exact z.2⟩
  have h6 : ¬ (k = 6 ∧ i = gn M 6) := fun z => h ⟨Or.inr (Or.inl z.1), by rw [z.1]; exact z.2⟩
  have h15 : ¬ (k = 15 ∧ i = gn M 15) := fun z => h ⟨Or.inr (Or.inr (Or.inl z.1)), by rw [z.1]; exact z.2⟩
  have h16 : ¬ (k = 16 ∧ i = gn M 16) := fun z => h ⟨Or.inr (Or.inr (Or.inr z.1)), by rw [z.1]; exact z.2⟩
  unfold wkN wkI caI
  simp only [gr_si, gr_sr, gr_sn, gn_si, gn_sr, gn_sn]
  simp only [show ∀ b, (k = 7 ∧ i = gn M 7 ∧ b) = False from fun b => eq_false (fun z => h7 ⟨z.1, z.2.1⟩), show ∀ b, (k = 6 ∧ i = gn M 6 ∧ b) = False from fun b => eq_false (fun z => h6 ⟨z.1, z.2.1⟩), eq_false h7, eq_false h6, eq_false h15, eq_false h16, show ((6 : Nat) = 7) = False from eq_false (by decide), show ((15 : Nat) = 7) = False from eq_false (by decide), show ((15 : Nat) = 6) = False from eq_false (by decide), show ((16 : Nat) = 7) = False from eq_false (by decide), show ((16 : Nat) = 6) = False from eq_false (by decide), show ((16 : Nat) = 15) = False from eq_false (by decide), if_false]
theorem wkN_new (M : mM) (k : Nat) : gi (wkN M k) 7 (gn M 7) 0 = gi M 0 0 4 + 1 ∧ gi (wkN M k) 7 (gn M 7) 1 = gi M 1 k 0 ∧ gi (wkN M k) 7 (gn M 7) 2 = gi M 1 k 2 ∧ gi (wkN M k) 7 (gn M 7) 3 = gi M 1 k 3 ∧ gi (wkN M k) 7 (gn M 7) 5 = 1 ∧ gi (wkN M k) 7 (gn M 7) 6 = 0 ∧ gr (wkN M k) 7 (gn M 7) 4 = some (gn M 6) ∧ gr (wkN M k) 6 (gn M 6) 0 = some (gn M 15) ∧ gr (wkN M k) 6 (gn M 6) 1 = some (gn M 16) ∧ gi (wkN M k) 6 (gn M 6) 2 = 0 := by
  unfold wkN wkI caI
  refine ⟨?_, ?_, ?_, ?_, ?_, ?_, ?_, ?_, ?_, ?_⟩ <;> simp [gi_si, gi_sr, gi_sn, gr_si, gr_sr, gr_sn, gn_si, gn_sr, gn_sn]
def bi0 (M : mM) (g k : Nat) : mM := sr (si (sr (wkN M k) 9 0 (gn M 7) (some (gn M 7))) 0 0 4 (nI (gn M 7 + 1))) 5 g 2 (some (gn M 7))
theorem bi0_gn (M : mM) (g k a : Nat) : gn (bi0 M g k) a = if a = 7 ∨ a = 6 ∨ a = 15 ∨ a = 16 then gn M a + 1 else gn M a := wkN_gn M k a
theorem bi0_gi (M : mM) (g q : Nat) {k i j : Nat} (h : ¬ ((k = 7 ∨ k = 6 ∨ k = 15 ∨ k = 16) ∧ i = gn M k)) (h2 : ¬ (k = 0 ∧ j = 4)) : gi (bi0 M g q) k i j = gi M k i j := by
  unfold bi0
  rw [gi_sr, gi_si, if_neg (by omega), gi_sr]; exact wkN_gi M q h
theorem bi0_gr (M : mM) (g q : Nat) {k i j : Nat} (h : ¬ ((k = 7 ∨ k = 6 ∨ k = 15 ∨ k = 16) ∧ i = gn M k)) (h2 : ¬ (k = 9 ∧ j = gn M 7)) (h3 : ¬ (k = 5 ∧ i = g ∧ j = 2)) : gr (bi0 M g q) k i j = gr M k i j := by
  unfold bi0
  rw [gr_sr, if_neg (by omega), gr_si, gr_sr, if_neg (by omega)]; exact wkN_gr M q h
theorem bi0_new (M : mM) (g k : Nat) : gi (bi0 M g k) 7 (gn M 7) 0 = gi M 0 0 4 + 1 ∧ gi (bi0 M g k) 7 (gn M 7) 1 = gi M 1 k 0 ∧ gi (bi0 M g k) 7 (gn M 7) 2 = gi M 1 k 2 ∧ gi (bi0 M g k) 7 (gn M 7) 3 = gi M 1 k 3 ∧ gi (bi0 M g k) 7 (gn M 7) 5 = 1 ∧ gi (bi0 M g k) 7 (gn M 7) 6 = 0 ∧ gr (bi0 M g k) 7 (gn M 7) 4 = some (gn M 6) ∧ gr (bi0 M g k) 6 (gn M 6) 0 = some (gn M 15) ∧ gr (bi0 M g k) 6 (gn M 6) 1 = some (gn M 16) ∧ gi (bi0 M g k) 6 (gn M 6) 2 = 0 := by
  obtain ⟨h0, h1, h2, h3, h4, h5, h6, h7, h8, h9⟩ := wkN_new M k
  unfold bi0
  simp only [gi_sr, gi_si, gr_sr, gr_si]
  refine ⟨?_, ?_, ?_, ?_, ?_, ?_, ?_, ?_, ?_, ?_⟩ <;> simp [h0, h1, h2, h3, h4, h5, h6, h7, h8, h9]
theorem bi0_w {M : mM} (hw : wK M) (ho : wO M) (g k : Nat) (h40 : gn M 7 < 40) : wK (bi0 M g k) := by
  have en : ∀ a, ¬ (a = 7 ∨ a = 6 ∨ a = 15 ∨ a = 16) → gn (bi0 M g k) a = gn M a := fun a ha => by rw [bi0_gn, if_neg ha]
  have e7 : gn (bi0 M g k) 7 = gn M 7 + 1 := by rw [bi0_gn, if_pos (by omega)]
  have e6 : nRg (bi0 M g k) = nRg M := by unfold nRg; rw [bi0_gi M g k (by omega) (by omega)]
  have er : ∀ i, rgx (bi0 M g k) i = rgx M i := fun i => by unfold rgx; rw [bi0_gr M g k (by omega) (by omega) (by omega)]
  obtain ⟨n0, n1, n2, n3, n4, n5, n6, n7, n8, n9⟩ := bi0_new M g k
  refine ⟨⟨by rw [en 0 (by omega)]; exact w_k hw, ?_, ?_, ?_, ?_, ?_, ?_, ?_, by rw [bi0_gr M g k (by omega) (by omega) (by omega)]; exact w_3_0 hw⟩, fun i hi => by rw [bi0_gr M g k (by omega) (by omega) (by omega)]; exact w_sc hw hi, fun i hi => by rw [bi0_gr M g k (by omega) (by omega) (by omega)]; exact w_cl hw hi, ⟨?_, ?_, ?_⟩, ⟨?_, ?_, ?_⟩, ?_, ?_, ?_⟩
  · rw [bi0_gr M g k (by omega) (by omega) (by omega)]; exact w_0_0 hw
  · rw [bi0_gr M g k (by omega) (by omega) (by omega)]; exact w_0_3 hw
  · rw [bi0_gr M g k (by omega) (by omega) (by omega)]; exact w_0_5 hw
  · rw [bi0_gr M g k (by omega) (by omega) (by omega)]; exact w_0_7 hw
  · rw [bi0_gr M g k (by omega) (by omega) (by omega)]; exact w_0_8 hw
  · rw [bi0_gr M g k (by omega) (by omega) (by omega)]; exact w_0_9 hw
  · rw [bi0_gr M g k (by omega) (by omega) (by omega)]; exact w_0_11 hw
  · rw [e7]; rfl
  · rw [e7]; omega
  · intro i hi
    rw [e7] at hi
    by_cases h : i = gn M 7
    · have h9 : gr (bi0 M g k) 9 0 (gn M 7) = some (gn M 7) := by
        unfold bi0
        rw [gr_sr, if_neg (by omega), gr_si, gr_sr, if_pos ⟨rfl, rfl, rfl⟩]
      rw [ho.1.1] at n6 n7 n8
      rw [ho.1.2.1] at n7
      rw [ho.1.2.2] at n8
      subst h
      exact ⟨h9, by rw [n0, w_nw hw, nI_1], n6, n7, n8⟩
    · have hi : i < gn M 7 := by omega
      rw [bi0_gr M g k (k := 9) (by omega) (by omega) (by omega), bi0_gr M g k (k := 7) (by omega) (by omega) (by omega), bi0_gr M g k (k := 6) (by rw [ho.1.1]; omega) (by omega) (by omega), bi0_gr M g k (k := 6) (by rw [ho.1.1]; omega) (by omega) (by omega), bi0_gi M g k (k := 7) (by omega) (by omega)]
      exact ⟨w_wk hw hi, w_num hw hi, w_7_4 hw hi, w_6_0 hw hi, w_6_1 hw hi⟩
  · rw [e6, bi0_gi M g k (by omega) (by omega)]; exact w_nr hw
  · rw [e6]; exact w_nrl hw
  · intro i hi
    rw [e6] at hi
    rw [er, bi0_gr M g k (by omega) (by omega) (by omega)]; exact w_rg hw hi
  · rw [bi0_gi M g k (by omega) (by omega), en 4 (by omega)]; exact w_nj hw
  · rw [en 4 (by omega)]; exact w_njl hw
  · intro i hi
    rw [en 4 (by omega)] at hi
    rw [bi0_gr M g k (by omega) (by omega) (by omega), bi0_gi M g k (by omega) (by omega)]
    exact ⟨w_jb hw hi, w_jn hw hi⟩
theorem bi0_wT {M : mM} (ht : wT M) (g k : Nat) : wT (bi0 M g k) := kt_w (M := M) (bi0_gi M g k (by omega) (by omega)) ht
theorem bi0_o {M : mM} (ho : wO M) (g k : Nat) : wO (bi0 M g k) := by
  have en : ∀ a, ¬ (a = 7 ∨ a = 6 ∨ a = 15 ∨ a = 16) → gn (bi0 M g k) a = gn M a := fun a ha => by rw [bi0_gn, if_neg ha]
  have ep : ∀ a, (a = 7 ∨ a = 6 ∨ a = 15 ∨ a = 16) → gn (bi0 M g k) a = gn M a + 1 := fun a ha => by rw [bi0_gn, if_pos ha]
  refine ⟨⟨by rw [ep 6 (by omega), ep 7 (by omega), ho.1.1], by rw [ep 15 (by omega), ep 7 (by omega), ho.1.2.1], by rw [ep 16 (by omega), ep 7 (by omega), ho.1.2.2]⟩, fun i hi => ?_, fun i hi => ?_, fun i hi => ?_, by rw [bi0_gi M g k (by omega) (by omega)]; exact ho.2.2.2.2⟩
  · rw [en 5 (by omega)] at hi; rw [bi0_gi M g k (by omega) (by omega)]; exact ho.2.1 i hi
  · rw [en 4 (by omega)] at hi; rw [bi0_gi M g k (by omega) (by omega)]; exact ho.2.2.1 i hi
  · rw [ep 7 (by omega)] at hi
    by_cases h : i = gn M 7
    · subst h
      have n9 := (bi0_new M g k).2.2.2.2.2.2.2.2.2
      rw [ho.1.1] at n9
      exact ⟨0, by decide, n9⟩
    · rw [bi0_gi M g k (k := 6) (by rw [ho.1.1]; omega) (by omega)]; exact ho.2.2.2.1 i (by omega)
/-- an install begins -/
def biM (M : mM) (g k : Nat) : mM := brM (bi0 M g k) (some (gn M 7)) 1
theorem biM_w {M : mM} (hw : wK M) (ho : wO M) (g k : Nat) (h40 : gn M 7 < 40) : wK (biM M g k) := kp_w (brM_kp _ _ _) (bi0_w hw ho g k h40)
theorem biM_wT {M : mM} (ht : wT M) (g k : Nat) : wT (biM M g k) := brM_wT (bi0_wT ht g k) _ _
theorem biM_o {M : mM} (ho : wO M) (g k : Nat) : wO (biM M g k) := kq_o (kp_q (brM_kp _ _ _)) (bi0_o ho g k)
