section SIM11
variable {T : Int32}
def aft (C : mM) (F : Nat × Int32 × mM) : mM := if F.1 = 0 then F.2.2 else C
/-- the reference's answer is the class's, and the memories stay side by side -/
def Ans (C : mM) (B : Nat) (F : Nat × Int32 × mM) (v : Int32) (r : rR) : Prop := (F.1 = 0 → v = F.2.1) ∧ Rq (nI F.1) (aft C F) r (B + 100)
theorem sim_th {C : mM} {r : rR} {B : Nat} (h : Rq T C r B) (x : Int32) : Rq x C (ru r 18 34 x) B := (Rq.mk (ru_s _ _ _ _) h.w h.o h.d h.sc h.ne h.nw h.wk h.ca h.nr h.rg h.rl h.rp h.cl h.cq h.fz h.nj h.jb h.tr)
theorem ans_no {C : mM} {r : rR} {B : Nat} (h : Rq T C r B) {F : Nat × Int32 × mM} {k : Nat} (hF : F.1 = k) (hk : k ≠ 0) (v : Int32) : Ans C B F v (ru r 18 34 (nI k)) := by
  refine ⟨fun z => absurd (hF.symm.trans z) hk, ?_⟩
  unfold aft
  rw [if_neg (fun z => hk (hF.symm.trans z)), hF]
  exact (sim_th h (nI k)).up (by omega)
theorem ans_yes {C : mM} {r : rR} {B : Nat} {F : Nat × Int32 × mM} {v : Int32} (hF : F.1 = 0) (hv : v = F.2.1) (h : Rq 0 F.2.2 r (B + 100)) : Ans C B F v r := by
  refine ⟨fun _ => hv, ?_⟩
  unfold aft
  rw [if_pos hF, hF]
  exact h
theorem lt_n {x : Int32} (n : Nat) (hn : n < 2 ^ 31 - 1) : x < nI (n + 1) ↔ x ≤ nI n := by
  rw [Int32.lt_iff_toInt_lt, Int32.le_iff_toInt_le, nI_toInt (by omega), nI_toInt (by omega)]
  omega
theorem in_n {x : Int32} {n : Nat} (hn : n < 2 ^ 31 - 1) (h : 0 ≤ x ∧ x ≤ nI n) : ∃ j, j ≤ n ∧ x = nI j := by
  rcases pk_ix x (n := n + 1) (by omega) with z | z | ⟨a, ha, e⟩
  · exact absurd h.1 (Int32.not_le.mpr z)
  · exact absurd ((lt_n n hn).mpr h.2) (Int32.not_lt.mpr z)
  · exact ⟨a, by omega, e⟩
theorem sim_serve {C : mM} {r : rR} {B : Nat} (h : Rq T C r B) (a k b f d : Int32) : m_serve_ok r a k b f d ∧ Ans C B (fSv C a k b f d) 0 (m_serve r a k b f d) := by
  obtain ⟨oP, eP⟩ := sim_isPath b
  unfold m_serve_ok m_serve
  have i1 := in_0 a 0 3
  have i2 := in_0 f 0 1
  have i3 := in_0 d 0 3
  have no : ¬ svOk a b f d → Ans C B (fSv C a k b f d) 0 (ru r 18 34 1) := fun z => ans_no h (k := 1) (by unfold fSv; rw [if_neg z]) (by omega) 0
  have l3 : a < 4 ↔ a ≤ 3 := lt_n (x := a) 3 (by omega)
  by_cases c1 : m_in a 0 3 = 0
  · rw [if_pos c1]
    exact ⟨⟨fun _ => trivial, fun z => absurd c1 z⟩, no (fun z => i1.mp c1 ⟨z.1.1, l3.mp z.1.2⟩)⟩
  rw [if_neg c1]
  by_cases c2 : m_isPath b = 0
  · rw [if_pos c2]
    exact ⟨⟨fun z => absurd z c1, fun _ => ⟨oP, fun _ => trivial, fun z => absurd c2 z⟩⟩, no (fun z => by have := z.2.1; rw [eP.mp c2] at this; cases this)⟩
  rw [if_neg c2]
  by_cases c3 : m_in f 0 1 = 0
  · rw [if_pos c3]
    exact ⟨⟨fun z => absurd z c1, fun _ => ⟨oP, fun z => absurd z c2, fun _ => ⟨fun _ => trivial, fun z => absurd c3 z⟩⟩⟩, no (fun z => i2.mp c3 z.2.2.1)⟩
  rw [if_neg c3]
  by_cases c4 : m_in d 0 3 = 0
  · rw [if_pos c4]
    exact ⟨⟨fun z => absurd z c1, fun _ => ⟨oP, fun z => absurd z c2, fun _ => ⟨fun z => absurd z c3, fun _ => ⟨fun _ => trivial, fun z => absurd c4 z⟩⟩⟩⟩, no (fun z => i3.mp c4 z.2.2.2)⟩
  rw [if_neg c4]
  have q1 := Classical.not_not.mp (fun z => c1 (i1.mpr z))
  have q3 := Classical.not_not.mp (fun z => c3 (i2.mpr z))
  have q4 := Classical.not_not.mp (fun z => c4 (i3.mpr z))
  have qP : isP b = true := by cases hb : isP b with
    | true => rfl
    | false => exact absurd (eP.mpr hb) c2
  obtain ⟨j, hj, rfl⟩ := in_n (n := 3) (by omega) q1
  obtain ⟨j4, hj4, rfl⟩ := in_n (n := 3) (by omega) q4
  have ej : (nI j).toNatClampNeg = j := nI_clamp (by omega)
  have hsv : svOk (nI j) b f (nI j4) := ⟨⟨q1.1, l3.mpr q1.2⟩, qP, q3, q4⟩
  have hx := ixk_n (n := j) (N := 4) (by omega) (by omega)
  refine ⟨⟨fun z => absurd z c1, fun _ => ⟨oP, fun z => absurd z c2, fun _ => ⟨fun z => absurd z c3, fun _ => ⟨fun z => absurd z c4, fun _ => hx⟩⟩⟩⟩, ?_⟩
  have eF : fSv C (nI j) k b f (nI j4) = (0, 0, si (si (si (si C 1 j 0 k) 1 j 1 b) 1 j 2 f) 1 j 3 (nI j4)) := by
    unfold fSv; rw [if_pos hsv, ej]
  rw [eF, ej]
  refine ans_yes rfl rfl ?_
  have hk : kp C (si (si (si (si C 1 j 0 k) 1 j 1 b) 1 j 2 f) 1 j 3 (nI j4)) := kp_tr (kp_tr (kp_tr (kp_si _ _ _ _ _ (by omega)) (kp_si _ _ _ _ _ (by omega))) (kp_si _ _ _ _ _ (by omega))) (kp_si _ _ _ _ _ (by omega))
  have h0 := (sim_th h 0).up (B' := B + 100) (by omega)
  refine (Rq.mk h0.th (kp_w hk h.w) (kq_o (kp_q hk) h.o) (kp_D hk h.d) (fun q hq => ?_) h0.ne h0.nw h0.wk h0.ca h0.nr h0.rg h0.rl h0.rp h0.cl h0.cq h0.fz h0.nj h0.jb h0.tr)
  obtain ⟨s1, s2, s3, s4, s5, s6⟩ := h0.sc q hq
  unfold ru at s1 s2 s3 s4 ⊢
  simp only [gi_si]
  by_cases hqj : q = j
  · subst hqj
    simp
    exact ⟨qP, j4, by omega, rfl⟩
  · simp [hqj]
    exact ⟨s1, s2, s3, s4, s5, s6⟩
theorem sim_network {C : mM} {r : rR} {B : Nat} (h : Rq T C r B) (u x : Int32) (hu : u = 0 ∨ u = 1) : (m_network r u x).1 = gi C 0 0 1 ∧ Rq 0 (si (si C 0 0 1 u) 0 0 2 x) (m_network r u x).2 (B + 100) := by
  have ho := h.o.2.2.2.2
  have hd := h.ne.2
  have hk0 : wK (si (si C 0 0 1 u) 0 0 2 x) := h.w
  have ho0 : wO (si (si C 0 0 1 u) 0 0 2 x) := ⟨h.o.1, h.o.2.1, h.o.2.2.1, h.o.2.2.2.1, hu⟩
  have hd0 : wD (si (si C 0 0 1 u) 0 0 2 x) := h.d
  have key : ∀ y : Int32, y = (if u = 0 then 1 else 0) → Rq 0 (si (si C 0 0 1 u) 0 0 2 x) (ru (ru (ru r 18 34 0) 18 35 y) 18 33 x) (B + 100) := by
    intro y hy
    have h0 := (sim_th h 0).up (B' := B + 100) (by omega)
    exact (Rq.mk h0.th (hk0) (ho0) (hd0) h0.sc (⟨rfl, by show y = (if u = 0 then 1 else 0); exact hy⟩) h0.nw h0.wk h0.ca h0.nr h0.rg h0.rl h0.rp h0.cl h0.cq h0.fz h0.nj h0.jb h0.tr)
  unfold m_network
  by_cases c1 : r 18 35 = 0
  · rw [if_pos c1]
    have e1 : gi C 0 0 1 = 1 := by
      rcases ho with z | z
      · rw [hd, if_pos z] at c1; exact absurd c1 (by decide)
      · exact z
    by_cases c2 : u = 0
    · rw [if_pos c2]; exact ⟨e1.symm, key 1 (by rw [if_pos c2])⟩
    · rw [if_neg c2]; exact ⟨e1.symm, key 0 (by rw [if_neg c2])⟩
  · rw [if_neg c1]
    have e1 : gi C 0 0 1 = 0 := by
      rcases ho with z | z
      · exact z
      · rw [hd, z, if_neg (by decide)] at c1; exact absurd rfl c1
    by_cases c2 : u = 0
    · rw [if_pos c2]; exact ⟨e1.symm, key 1 (by rw [if_pos c2])⟩
    · rw [if_neg c2]; exact ⟨e1.symm, key 0 (by rw [if_neg c2])⟩
end SIM11
