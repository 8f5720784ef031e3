section SIM17
variable {T : Int32}
theorem kep_kk (C : mM) (w : Nat) (x y : Int32) (z : Nat) : kk C (kepM C w x y z) := by
  refine kk_of ⟨?_, fun i => ?_, fun i j => ?_, fun i j => ?_⟩ ⟨?_, fun i j => ?_⟩ <;> unfold kepM <;> split <;> try rfl
  all_goals split <;> rfl
theorem sim_fetch {C : mM} {r : rR} {B : Nat} (h : Rq T C r B) (hV : Iv C) (k x : Int32) : m_fetch_ok r k x ∧ Ans C B (ftF C k x) (m_fetch r k x).1 (m_fetch r k x).2 ∧ Iv (aft C (ftF C k x)) := by
  have hN7 := w_nwl h.w
  obtain ⟨oP, eP⟩ := sim_isPath x
  have i7 := in_0 k 0 7
  have l7 : k < 8 ↔ k ≤ 7 := lt_n (x := k) 7 (by omega)
  have no : ∀ q, q ≠ 0 → (ftF C k x).1 = q → Ans C B (ftF C k x) 0 (ru r 18 34 (nI q)) ∧ Iv (aft C (ftF C k x)) := fun q hq hF => ⟨ans_no h hF hq 0, by rw [aft_no (by rw [hF]; exact hq)]; exact hV⟩
  unfold m_fetch_ok m_fetch
  by_cases c1 : m_isPath x = 0
  · rw [if_pos c1]
    exact ⟨⟨oP, fun _ => trivial, fun z => absurd c1 z⟩, no 1 (by omega) (by unfold ftF; rw [if_pos (eP.mp c1)])⟩
  have hP := isP_of eP c1
  have hnP : ¬ isP x = false := by rw [hP]; simp
  rw [if_neg c1]
  by_cases c2 : m_in k 0 7 = 0
  · rw [if_pos c2]
    exact ⟨⟨oP, fun z => absurd z c1, fun _ => ⟨fun _ => trivial, fun z => absurd c2 z⟩⟩, no 2 (by omega) (by unfold ftF; rw [if_neg hnP, if_pos (fun z => i7.mp c2 ⟨z.1, l7.mp z.2.1⟩)])⟩
  rw [if_neg c2]
  have q := Classical.not_not.mp (fun z => c2 (i7.mpr z))
  obtain ⟨j, hj, e⟩ := in_n (n := 7) (by omega) q
  subst e
  have ej : (nI j).toNatClampNeg = j := nI_clamp (by omega)
  have hx := ixk_n (n := j) (N := 8) (by omega) (by omega)
  rw [ej]
  obtain ⟨s1, s2, s3⟩ := h.cl j (by omega)
  obtain ⟨u1, u2, u3, u4⟩ := h.cq j (by omega)
  by_cases c3 : r 38 j = 0
  · rw [if_pos c3]
    exact ⟨⟨oP, fun z => absurd z c1, fun _ => ⟨fun z => absurd z c2, fun _ => ⟨hx, fun _ => trivial, fun z => absurd c3 z⟩⟩⟩, no 2 (by omega) (by unfold ftF; rw [if_neg hnP, if_pos (fun z => z.2.2 (by rw [ej, ← s1]; exact c3))])⟩
  rw [if_neg c3]
  have eF : ftF C (nI j) x = ftK C j x := by
    unfold ftF
    rw [if_neg hnP, if_neg (fun z => z ⟨q.1, l7.mpr q.2, by rw [ej, ← s1]; exact c3⟩), ej]
  rw [eF] at no ⊢
  have h0 := sim_th h 0
  have hdn : r 18 35 = 0 ↔ ¬ gi C 0 0 1 = 0 := by
    rw [h.ne.2]
    by_cases z : gi C 0 0 1 = 0
    · rw [if_pos z]; exact ⟨fun y => absurd y (by decide), fun y => absurd z y⟩
    · rw [if_neg z]; exact ⟨fun _ => z, fun _ => rfl⟩
  have fail3 : (ftK C j x).1 = 3 → Ans C B (ftK C j x) 0 (ru (ru r 18 34 0) 18 34 3) ∧ Iv (aft C (ftK C j x)) := fun hF => ⟨ans_no h0 (k := 3) hF (by omega) 0, by rw [aft_no (by rw [hF]; omega)]; exact hV⟩
  have same : ∀ v, ftK C j x = (0, v, C) → Ans C B (ftK C j x) v (ru r 18 34 0) ∧ Iv (aft C (ftK C j x)) := fun v hF => ⟨by rw [hF]; exact ans_yes rfl rfl (h0.up (by omega)), by rw [hF]; exact aft_kk (fun _ => kk_rf C) hV⟩
  cases hw : gr C 2 j 2 with
  | none =>
    have d0 : r 41 j = 0 := by rw [s3, hw]; rfl
    have eK : ftK C j x = ftN C x := by unfold ftK; rw [hw]
    rw [if_pos d0]
    refine ⟨⟨oP, fun z => absurd z c1, fun _ => ⟨fun z => absurd z c2, fun _ => ⟨hx, fun z => absurd z c3, fun _ => ⟨fun _ => trivial, fun z => absurd d0 z⟩⟩⟩⟩, ?_⟩
    by_cases d : r 18 35 = 0
    · rw [if_pos d, h.ne.1]
      exact same _ (by rw [eK]; unfold ftN; rw [if_neg (hdn.mp d)])
    · rw [if_neg d]
      exact fail3 (by rw [eK]; unfold ftN; rw [if_pos (Classical.not_not.mp (fun z => d (hdn.mpr z)))])
  | some w =>
    have hwl := u4 w hw
    have d1 : r 41 j = nI (w + 1) := by rw [s3, hw]; exact num_s h.w hwl
    have ew : (nI (w + 1)).toNatClampNeg = w + 1 := nI_clamp (by omega)
    have hxw := ixk_n (n := w + 1) (N := 41) (by omega) (by omega)
    have d0 : ¬ nI (w + 1) = 0 := nI_ne0 (by omega) (by omega)
    obtain ⟨k1, k2, k3, k4, k5, k6, ⟨qm, hqm, k7⟩, k8⟩ := h.wk w hwl
    obtain ⟨oC, eC⟩ := sim_cached h0 hwl x
    have hcz := csz_n h hwl
    have hp100 : ∀ z, chP C w x = some z → z < 100 := fun z hz => by have := ff_lt hz; omega
    obtain ⟨oK, hK⟩ := sim_keep h0 hwl x (gi C 0 0 2 + x)
    rw [d1, ew, if_neg d0, k4, k2, eC, h.ne.1, k7]
    have hKv : m_keep (ru r 18 34 0) (nI (w + 1)) x (gi C 0 0 2 + x) 18 33 = gi C 0 0 2 := by
      rw [hK.ne.1]
      unfold kepM
      split
      · rfl
      · split <;> rfl
    have keptA : ftK C j x = (0, gi C 0 0 2 + x, kepM C w x (gi C 0 0 2 + x) (csz C w)) → Ans C B (ftK C j x) (m_keep (ru r 18 34 0) (nI (w + 1)) x (gi C 0 0 2 + x) 18 33 + x) (m_keep (ru r 18 34 0) (nI (w + 1)) x (gi C 0 0 2 + x)) ∧ Iv (aft C (ftK C j x)) := fun hF => ⟨by rw [hF]; exact ans_yes rfl (by rw [hKv]) (hK.up (by omega)), by rw [hF]; exact aft_kk (fun _ => kep_kk _ _ _ _ _) hV⟩
    have eK : ftK C j x = if gi C 7 w 3 = 0 then ftN C x else if gi C 7 w 3 = 3 then (0, gi C 7 w 1, C) else if (gi C 7 w 3 = 1 ∨ gi C 0 0 1 = 0) ∧ plc C w x (csz C w) < csz C w then (0, atC C 16 w (csz C w) (nI (plc C w x (csz C w))), C) else if gi C 0 0 1 = 0 then (3, 0, C) else (0, gi C 0 0 2 + x, kepM C w x (gi C 0 0 2 + x) (csz C w)) := by
      unfold ftK; rw [hw]
    have hq : qm = 0 ∨ qm = 1 ∨ qm = 2 ∨ qm = 3 := by omega
    -- the cache's answer
    have ckl : oI (chP C w x) < 0 ↔ chP C w x = none := oI_lt _ hp100
    have epl : ∀ p, chP C w x = some p → plc C w x (csz C w) = p ∧ p < csz C w := by
      intro p hp
      have := ff_lt hp
      exact ⟨by unfold plc; rw [show ff (fun i => decide (gi C 15 w i = x)) (csz C w) 0 = some p from hp]; rfl, by omega⟩
    have epn : chP C w x = none → ¬ plc C w x (csz C w) < csz C w := by
      intro hp
      have : plc C w x (csz C w) = csz C w := by unfold plc; rw [show ff (fun i => decide (gi C 15 w i = x)) (csz C w) 0 = none from hp]; rfl
      omega
    have hit : ∀ p, chP C w x = some p → r 30 (4 * nI (w + 1) + oI (chP C w x)).toNatClampNeg = atC C 16 w (csz C w) (nI (plc C w x (csz C w))) ∧ ixk (4 * nI (w + 1) + oI (chP C w x)) 164 := by
      intro p hp
      obtain ⟨e1, e2⟩ := epl p hp
      have e3 : oI (chP C w x) = nI p := by rw [hp]; rfl
      have e4 : (nI (4 * (w + 1) + p)).toNatClampNeg = 4 * (w + 1) + p := nI_clamp (by omega)
      rw [e3, ix4, e4, e1]
      refine ⟨?_, ixk_n (by omega) (by omega)⟩
      unfold atC
      rw [if_pos ⟨nI_pos' (by omega), nI_lt e2 (by omega)⟩, show (nI p).toNatClampNeg = p from nI_clamp (by omega)]
      exact (h.ca w hwl p e2).2
    rcases hq with rfl | rfl | rfl | rfl
    · -- mode 0
      have m0 : gi C 7 w 3 = 0 := k7
      have eK0 : ftK C j x = ftN C x := by rw [eK, if_pos m0]
      have v3 : ¬ nI 0 = 3 := by decide
      have v1 : ¬ nI 0 = 1 := by decide
      have v2 : ¬ nI 0 = 2 := by decide
      have vl : nI 0 ≤ 0 := by decide
      have tail : Ans C B (ftK C j x) (if r 18 35 = 0 then (if nI 0 ≤ 0 then (gi C 0 0 2 + x, ru r 18 34 0) else (m_keep (ru r 18 34 0) (nI (w + 1)) x (gi C 0 0 2 + x) 18 33 + x, m_keep (ru r 18 34 0) (nI (w + 1)) x (gi C 0 0 2 + x))) else ((m_fail (ru r 18 34 0) 3).1, (m_fail (ru r 18 34 0) 3).2)).1 (if r 18 35 = 0 then (if nI 0 ≤ 0 then (gi C 0 0 2 + x, ru r 18 34 0) else (m_keep (ru r 18 34 0) (nI (w + 1)) x (gi C 0 0 2 + x) 18 33 + x, m_keep (ru r 18 34 0) (nI (w + 1)) x (gi C 0 0 2 + x))) else ((m_fail (ru r 18 34 0) 3).1, (m_fail (ru r 18 34 0) 3).2)).2 ∧ Iv (aft C (ftK C j x)) := by
        by_cases d : r 18 35 = 0
        · rw [if_pos d, if_pos vl]
          exact same _ (by rw [eK0]; unfold ftN; rw [if_neg (hdn.mp d)])
        · rw [if_neg d]
          exact fail3 (by rw [eK0]; unfold ftN; rw [if_pos (Classical.not_not.mp (fun z => d (hdn.mpr z)))])
      rw [if_neg v3, if_neg v1, if_neg v2]
      refine ⟨⟨oP, fun z => absurd z c1, fun _ => ⟨fun z => absurd z c2, fun _ => ⟨hx, fun z => absurd z c3, fun _ => ⟨fun z => absurd z d0, fun _ => ⟨hxw, oC, fun z => absurd z v3, fun _ => ⟨fun _ => ⟨fun _ => ⟨fun _ => trivial, fun z => absurd vl z⟩, fun _ => trivial⟩, fun _ => ⟨fun z => absurd z v1, fun _ => ⟨fun z => absurd z v2, fun _ => ⟨fun _ => ⟨fun _ => trivial, fun z => absurd vl z⟩, fun _ => trivial⟩⟩⟩⟩⟩⟩⟩⟩⟩, ?_⟩
      split <;> exact tail
    · -- mode 1
      have m0 : gi C 7 w 3 = 1 := k7
      have v3 : ¬ nI 1 = 3 := by decide
      have v1 : nI 1 = 1 := by decide
      have vl : ¬ nI 1 ≤ 0 := by decide
      have eK1 : ftK C j x = if plc C w x (csz C w) < csz C w then (0, atC C 16 w (csz C w) (nI (plc C w x (csz C w))), C) else if gi C 0 0 1 = 0 then (3, 0, C) else (0, gi C 0 0 2 + x, kepM C w x (gi C 0 0 2 + x) (csz C w)) := by
        rw [eK, if_neg (by rw [m0]; decide), if_neg (by rw [m0]; decide)]
        by_cases z : plc C w x (csz C w) < csz C w
        · rw [if_pos ⟨Or.inl m0, z⟩, if_pos z]
        · rw [if_neg (fun y => z y.2), if_neg z]
      rw [if_neg v3, if_pos v1, if_neg vl]
      cases hp : chP C w x with
      | none =>
        have cl := ckl.mpr hp
        rw [hp] at cl hit
        rw [if_pos cl]
        refine ⟨⟨oP, fun z => absurd z c1, fun _ => ⟨fun z => absurd z c2, fun _ => ⟨hx, fun z => absurd z c3, fun _ => ⟨fun z => absurd z d0, fun _ => ⟨hxw, oC, fun z => absurd z v3, fun _ => ⟨fun _ => ⟨fun _ => ⟨fun z => absurd z vl, fun _ => oK⟩, fun _ => trivial⟩, fun z => absurd cl z⟩⟩⟩⟩⟩⟩, ?_⟩
        by_cases d : r 18 35 = 0
        · rw [if_pos d]
          exact keptA (by rw [eK1, if_neg (epn hp), if_neg (hdn.mp d)])
        · rw [if_neg d]
          exact fail3 (by rw [eK1, if_neg (epn hp), if_pos (Classical.not_not.mp (fun z => d (hdn.mpr z)))])
      | some p =>
        have cl : ¬ oI (some p) < 0 := by rw [← hp]; intro z; have := ckl.mp z; rw [hp] at this; cases this
        obtain ⟨e1, e2⟩ := hit p hp
        rw [hp] at e1 e2
        rw [if_neg cl]
        refine ⟨⟨oP, fun z => absurd z c1, fun _ => ⟨fun z => absurd z c2, fun _ => ⟨hx, fun z => absurd z c3, fun _ => ⟨fun z => absurd z d0, fun _ => ⟨hxw, oC, fun z => absurd z v3, fun _ => ⟨fun z => absurd z cl, fun _ => ⟨fun _ => e2, fun z => absurd v1 z⟩⟩⟩⟩⟩⟩⟩, ?_⟩
        rw [e1]
        exact same _ (by rw [eK1, if_pos (by rw [(epl p hp).1]; exact (epl p hp).2)])
    · -- mode 2
      have m0 : gi C 7 w 3 = 2 := k7
      have v3 : ¬ nI 2 = 3 := by decide
      have v1 : ¬ nI 2 = 1 := by decide
      have v2 : nI 2 = 2 := by decide
      have vl : ¬ nI 2 ≤ 0 := by decide
      have eK2 : ftK C j x = if gi C 0 0 1 = 0 ∧ plc C w x (csz C w) < csz C w then (0, atC C 16 w (csz C w) (nI (plc C w x (csz C w))), C) else if gi C 0 0 1 = 0 then (3, 0, C) else (0, gi C 0 0 2 + x, kepM C w x (gi C 0 0 2 + x) (csz C w)) := by
        rw [eK, if_neg (by rw [m0]; decide), if_neg (by rw [m0]; decide)]
        have n1 : ¬ gi C 7 w 3 = 1 := by rw [m0]; decide
        by_cases z : gi C 0 0 1 = 0 ∧ plc C w x (csz C w) < csz C w
        · rw [if_pos ⟨Or.inr z.1, z.2⟩, if_pos z]
        · rw [if_neg (fun y => z ⟨y.1.resolve_left n1, y.2⟩), if_neg z]
      rw [if_neg v3, if_neg v1, if_pos v2, if_neg vl]
      cases hp : chP C w x with
      | none =>
        have cl := ckl.mpr hp
        rw [hp] at cl hit
        rw [if_pos cl]
        refine ⟨⟨oP, fun z => absurd z c1, fun _ => ⟨fun z => absurd z c2, fun _ => ⟨hx, fun z => absurd z c3, fun _ => ⟨fun z => absurd z d0, fun _ => ⟨hxw, oC, fun z => absurd z v3, fun _ => ⟨fun _ => ⟨fun _ => ⟨fun z => absurd z vl, fun _ => oK⟩, fun _ => trivial⟩, fun z => absurd cl z⟩⟩⟩⟩⟩⟩, ?_⟩
        by_cases d : r 18 35 = 0
        · rw [if_pos d]
          exact keptA (by rw [eK2, if_neg (fun z => hdn.mp d z.1), if_neg (hdn.mp d)])
        · rw [if_neg d]
          exact fail3 (by rw [eK2, if_neg (fun z => epn hp z.2), if_pos (Classical.not_not.mp (fun z => d (hdn.mpr z)))])
      | some p =>
        have cl : ¬ oI (some p) < 0 := by rw [← hp]; intro z; have := ckl.mp z; rw [hp] at this; cases this
        obtain ⟨e1, e2⟩ := hit p hp
        rw [hp] at e1 e2
        rw [if_neg cl]
        refine ⟨⟨oP, fun z => absurd z c1, fun _ => ⟨fun z => absurd z c2, fun _ => ⟨hx, fun z => absurd z c3, fun _ => ⟨fun z => absurd z d0, fun _ => ⟨hxw, oC, fun z => absurd z v3, fun _ => ⟨fun z => absurd z cl, fun _ => ⟨fun z => absurd z v1, fun _ => ⟨fun _ => ⟨fun _ => ⟨fun z => absurd z vl, fun _ => oK⟩, fun _ => e2⟩, fun z => absurd v2 z⟩⟩⟩⟩⟩⟩⟩⟩, ?_⟩
        by_cases d : r 18 35 = 0
        · rw [if_pos d]
          exact keptA (by rw [eK2, if_neg (fun z => hdn.mp d z.1), if_neg (hdn.mp d)])
        · have dd := Classical.not_not.mp (fun z => d (hdn.mpr z))
          rw [if_neg d, e1]
          exact same _ (by rw [eK2, if_pos ⟨dd, by rw [(epl p hp).1]; exact (epl p hp).2⟩])
    · -- mode 3
      have m0 : gi C 7 w 3 = 3 := k7
      have v3 : nI 3 = 3 := by decide
      rw [if_pos v3]
      refine ⟨⟨oP, fun z => absurd z c1, fun _ => ⟨fun z => absurd z c2, fun _ => ⟨hx, fun z => absurd z c3, fun _ => ⟨fun z => absurd z d0, fun _ => ⟨hxw, oC, fun _ => trivial, fun z => absurd v3 z⟩⟩⟩⟩⟩, ?_⟩
      exact same _ (by rw [eK, if_neg (by rw [m0]; decide), if_pos m0])
end SIM17
