section SIM12
variable {T : Int32}
theorem in_n1 (x : Int32) {n : Nat} (hn : n < 2 ^ 30) : m_in x 0 (nI n - 1) = 0 ↔ ¬ (0 ≤ x ∧ x < nI n) := by
  rw [in_0]
  have : x ≤ nI n - 1 ↔ x < nI n := by
    rw [Int32.lt_iff_toInt_lt, Int32.le_iff_toInt_le, nI_toInt (by omega), show (1 : Int32) = nI 1 from rfl, pk_sub_toInt hn (by omega)]
    omega
  rw [this]
theorem isP_of {x : Int32} (eP : m_isPath x = 0 ↔ isP x = false) (c : ¬ m_isPath x = 0) : isP x = true := by
  cases hb : isP x with
  | true => rfl
  | false => exact absurd (eP.mpr hb) c
theorem sim_outcome {C : mM} {r : rR} {B : Nat} (h : Rq T C r B) (x : Int32) : m_outcome_ok r x ∧ Ans C B (fOc C x) (m_outcome r x).1 (m_outcome r x).2 := by
  have hN := w_njl h.w
  have hj := w_nj h.w
  unfold m_outcome_ok m_outcome
  rw [h.nj]
  have i1 := in_n1 x (n := gn C 4) (by omega)
  by_cases c : m_in x 0 (nI (gn C 4) - 1) = 0
  · rw [if_pos c]
    refine ⟨⟨fun _ => trivial, fun z => absurd c z⟩, ans_no h (k := 1) ?_ (by omega) 0⟩
    unfold fOc; exact if_neg (fun z => i1.mp c ⟨z.1, by rw [← hj]; exact z.2⟩)
  · rw [if_neg c]
    have q := Classical.not_not.mp (fun z => c (i1.mpr z))
    obtain ⟨j, hjn, e⟩ : ∃ j, j < gn C 4 ∧ x = nI j := by
      rcases pk_ix x (n := gn C 4) (by omega) with z | z | ⟨a, ha, e⟩
      · exact absurd q.1 (Int32.not_le.mpr z)
      · exact absurd q.2 (Int32.not_lt.mpr z)
      · exact ⟨a, ha, e⟩
    subst e
    have ej : (nI j).toNatClampNeg = j := nI_clamp (by omega)
    refine ⟨⟨fun z => absurd z c, fun _ => ixk_n (by omega) (by omega)⟩, ?_⟩
    rw [ej]
    refine ans_yes ?_ ?_ ?_
    · unfold fOc; exact if_pos ⟨q.1, by rw [hj]; exact q.2⟩
    · unfold fOc; dsimp only; rw [ej]; exact (h.jb j hjn).2.2.2.1
    · exact (sim_th h 0).up (by omega)
theorem sim_trace {C : mM} {r : rR} {B : Nat} (h : Rq T C r B) (hB : B < 1000000) (x : Int32) : m_trace_ok r x ∧ Ans C B (fTr C x) (m_trace r x).1 (m_trace r x).2 := by
  obtain ⟨t, t1, t2, t3, t4, t5⟩ := h.tr
  have hle : (60 : Int32) ≤ nI t ↔ 60 ≤ t := nI_leI (a := 60) (by omega) (by omega)
  unfold m_trace_ok m_trace
  rw [t2]
  have key : ∀ n, n = min t 60 → ∀ y : Int32, y = nI n - 1 → ((m_in x 0 y = 0 → True) ∧ (¬ m_in x 0 y = 0 → ixk x 60)) ∧ Ans C B (fTr C x) (if m_in x 0 y = 0 then ((0 : Int32), ru r 18 34 1) else (r 46 x.toNatClampNeg, ru r 18 34 0)).1 (if m_in x 0 y = 0 then ((0 : Int32), ru r 18 34 1) else (r 46 x.toNatClampNeg, ru r 18 34 0)).2 := by
    intro n hn y hy
    subst hy
    have i1 := in_n1 x (n := n) (by omega)
    by_cases c : m_in x 0 (nI n - 1) = 0
    · rw [if_pos c]
      refine ⟨⟨fun _ => trivial, fun z => absurd c z⟩, ans_no h (k := 1) ?_ (by omega) 0⟩
      unfold fTr; exact if_neg (fun z => i1.mp c ⟨z.1, by rw [hn, ← t4]; exact z.2⟩)
    · rw [if_neg c]
      have q := Classical.not_not.mp (fun z => c (i1.mpr z))
      obtain ⟨j, hjn, e⟩ : ∃ j, j < n ∧ x = nI j := by
        rcases pk_ix x (n := n) (by omega) with z | z | ⟨a, ha, e⟩
        · exact absurd q.1 (Int32.not_le.mpr z)
        · exact absurd q.2 (Int32.not_lt.mpr z)
        · exact ⟨a, ha, e⟩
      subst e
      have ej : (nI j).toNatClampNeg = j := nI_clamp (by omega)
      refine ⟨⟨fun z => absurd z c, fun _ => ixk_n (by omega) (by omega)⟩, ?_⟩
      rw [ej]
      refine ans_yes ?_ ?_ ?_
      · unfold fTr; exact if_pos ⟨q.1, by rw [t4, ← hn]; exact q.2⟩
      · unfold fTr; dsimp only; rw [ej]; exact t5 j (by omega)
      · exact (sim_th h 0).up (by omega)
  by_cases c : (60 : Int32) ≤ nI t
  · have h60 := hle.mp c
    rw [if_pos c]
    obtain ⟨k1, k2⟩ := key 60 (by omega) (60 - 1) rfl
    exact ⟨⟨fun _ => k1, fun z => absurd c z⟩, k2⟩
  · have h60 : t < 60 := by rcases Nat.lt_or_ge t 60 with z | z; exact z; exact absurd (hle.mpr z) c
    rw [if_neg c]
    obtain ⟨k1, k2⟩ := key t (by omega) (nI t - 1) rfl
    exact ⟨⟨fun z => absurd z c, fun _ => k1⟩, k2⟩
theorem sim_reg {C : mM} {r : rR} {B : Nat} (h : Rq T C r B) (x w : Int32) : m_registration_ok r x w ∧ Ans C B (fRg C x w) (m_registration r x w).1 (m_registration r x w).2 := by
  have hN := w_nrl h.w
  obtain ⟨oP, eP⟩ := sim_isPath x
  obtain ⟨oF, eF⟩ := sim_find h x
  have i4 := in_0 w 0 4
  unfold m_registration_ok m_registration
  by_cases c1 : m_isPath x = 0
  · rw [if_pos c1]
    refine ⟨⟨oP, fun _ => trivial, fun z => absurd c1 z⟩, ans_no h (k := 1) ?_ (by omega) 0⟩
    unfold fRg rgXc; exact if_pos (Or.inr (eP.mp c1))
  have hP := isP_of eP c1
  rw [if_neg c1]
  by_cases c2 : m_in w 0 4 = 0
  · rw [if_pos c2]
    refine ⟨⟨oP, fun z => absurd z c1, fun _ => ⟨fun _ => trivial, fun z => absurd c2 z⟩⟩, ans_no h (k := 1) ?_ (by omega) 0⟩
    unfold fRg rgXc; exact if_pos (Or.inl (i4.mp c2))
  rw [if_neg c2]
  have q := Classical.not_not.mp (fun z => c2 (i4.mpr z))
  have hx1 : ¬ (¬ (0 ≤ w ∧ w ≤ 4) ∨ isP x = false) := by
    rintro (z | z)
    · exact z q
    · rw [hP] at z; cases z
  cases hf : fdP C x with
  | none =>
    rw [hf] at eF
    have eF : m_find r x = -1 := eF
    have c3 : ¬ 0 ≤ m_find r x := by rw [eF]; decide
    rw [if_neg c3]
    refine ⟨⟨oP, fun z => absurd z c1, fun _ => ⟨fun z => absurd z c2, fun _ => ⟨oF, fun z => absurd z c3, fun _ => trivial⟩⟩⟩, ans_no h (k := 2) ?_ (by omega) 0⟩
    unfold fRg rgXc; dsimp only; rw [if_neg hx1, rgOf_fd, hf]; rfl
  | some p =>
    rw [hf] at eF
    have eF : m_find r x = nI p := eF
    obtain ⟨hp, hps⟩ := fdP_lt hf
    have ep : (nI p).toNatClampNeg = p := nI_clamp (by omega)
    have c3 : 0 ≤ m_find r x := by rw [eF]; exact nI_pos' (by omega)
    have hx := ixk_n (n := p) (N := 6) (by omega) (by omega)
    obtain ⟨g0, g1, g2, g3, g4, g5⟩ := h.rg p hp
    have eR : rgOf C x = some (rgx C p) := by rw [rgOf_fd, hf]; rfl
    have eA : fRg C x w = (0, rgW C (rgx C p) w, C) := by
      unfold fRg rgXc
      rw [if_neg hx1, eR]
      rfl
    have hok : ((w = 0 → ixk (m_find r x) 6) ∧ (¬ w = 0 → ((w = 1 → ixk (m_find r x) 6) ∧ (¬ w = 1 → ((w = 2 → ixk (m_find r x) 6) ∧ (¬ w = 2 → ((w = 3 → ixk (m_find r x) 6) ∧ (¬ w = 3 → ixk (m_find r x) 6)))))))) := by
      rw [eF]; exact ⟨fun _ => hx, fun _ => ⟨fun _ => hx, fun _ => ⟨fun _ => hx, fun _ => ⟨fun _ => hx, fun _ => hx⟩⟩⟩⟩
    refine ⟨⟨oP, fun z => absurd z c1, fun _ => ⟨fun z => absurd z c2, fun _ => ⟨oF, fun _ => hok, fun z => absurd c3 z⟩⟩⟩, ?_⟩
    rw [if_pos c3, eF, ep, g1, g2, g3, g4, g5, eA]
    have h0 := (sim_th h 0).up (B' := B + 100) (by omega)
    unfold rgW
    by_cases d0 : w = 0
    · rw [if_pos d0, if_pos d0]; exact ans_yes rfl rfl h0
    rw [if_neg d0, if_neg d0]
    by_cases d1 : w = 1
    · rw [if_pos d1, if_pos d1]; exact ans_yes rfl rfl h0
    rw [if_neg d1, if_neg d1]
    by_cases d2 : w = 2
    · rw [if_pos d2, if_pos d2]; exact ans_yes rfl rfl h0
    rw [if_neg d2, if_neg d2]
    by_cases d3 : w = 3
    · rw [if_pos d3, if_pos d3]; exact ans_yes rfl rfl h0
    rw [if_neg d3, if_neg d3]
    by_cases d4 : gi C 5 (rgx C p) 5 = 0
    · rw [if_pos d4, if_pos d4]; exact ans_yes rfl rfl h0
    · rw [if_neg d4, if_neg d4]; exact ans_yes rfl rfl h0
end SIM12
