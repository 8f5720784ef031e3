section SIM21
variable {T : Int32}
theorem sim_new {C : mM} {r : rR} {B : Nat} (h : Rq T C r B) (h60 : gn C 4 < 60) (kd : Int32) {x : Int32} (hx : isP x = true) {k : Nat} (hk : k < 4) : Rq T (jnM C kd x (nI k)) (ru (ru (ru (ru (ru (ru r 42 (gn C 4) kd) 43 (gn C 4) x) 44 (gn C 4) (nI k)) 45 (gn C 4) 0) 39 (gn C 4) 0) 18 31 (nI (gn C 4) + 1)) B := by
  have fw := jnM_w h.w kd x (nI k) h60
  have fo := jnM_o h.w h.o kd x hk
  obtain ⟨n0, n1, n2, n3, n4, n5, -⟩ := jnM_new h.w kd x (nI k)
  refine (Rq.mk h.th (fw) (fo) h.d h.sc h.ne h.nw h.wk h.ca h.nr h.rg h.rl h.rp h.cl h.cq h.fz ?_ (fun j hj => ?_) h.tr)
  · rw [ru_s, jnM_gn, if_pos rfl, nI_1]
  · rw [jnM_gn, if_pos rfl] at hj
    by_cases hjn : j = gn C 4
    · subst hjn
      rw [n1, n2, n3, n4, n5]
      unfold ru
      simp
      exact hx
    · have hjl : j < gn C 4 := by omega
      obtain ⟨b1, b2, b3, b4, b5, b6, b7⟩ := h.jb j hjl
      rw [jnM_gi _ _ _ _ (by omega) (by omega), jnM_gi _ _ _ _ (by omega) (by omega), jnM_gi _ _ _ _ (by omega) (by omega), jnM_gi _ _ _ _ (by omega) (by omega), jnM_gi _ _ _ _ (by omega) (by omega)]
      unfold ru
      simp [hjn]
      exact ⟨b1, b2, b3, b4, b5, b6, b7⟩
theorem new_Iv {C : mM} (hw : wK C) (hV : Iv C) (kd x o : Int32) (hL : lenR C x < 4) : Iv (jnM C kd x o) := by
  obtain ⟨n0, n1, n2, n3, n4, n5, -⟩ := jnM_new hw kd x o
  refine ⟨hV.1, hV.2.1, fun j hj h5 h4 => ?_, fun y => ?_⟩
  · rw [jnM_gn, if_pos rfl] at hj
    by_cases hjn : j = gn C 4
    · subst hjn; exact absurd n4 h4
    · rw [jnM_gi _ _ _ _ (by omega) (by omega)] at h4 h5 ⊢
      obtain ⟨a, b⟩ := hV.2.2.1 j (by omega) h5 h4
      refine ⟨a, fun i hi => ?_⟩
      rw [jnM_gi _ _ _ _ (by omega) (by omega), jnM_gi _ _ _ _ (by omega) (by omega)]; exact b i hi
  · have e : lenR (jnM C kd x o) y = lenR C y + (if inRow (jnM C kd x o) y (gn C 4) = true then 1 else 0) := by
      have e1 : gn (jnM C kd x o) 4 = gn C 4 + 1 := by rw [jnM_gn, if_pos rfl]
      unfold lenR
      rw [e1]
      show cn _ (gn C 4) + _ = _
      congr 1
      refine cn_cg (fun j hj => ?_)
      unfold inRow
      rw [jnM_gi _ _ _ _ (by omega) (by omega), jnM_gi _ _ _ _ (by omega) (by omega)]
    rw [e]
    have := hV.2.2.2 y
    by_cases hy : y = x
    · subst hy; split <;> omega
    · have : ¬ inRow (jnM C kd x o) y (gn C 4) = true := fun z => hy (by have := (of_decide_eq_true z).1; rw [n2] at this; exact this.symm)
      rw [if_neg this]; omega
theorem sim_jT {C : mM} {r : rR} {B : Nat} (h : Rq T C r B) (hV : Iv C) (kd s : Int32) {x : Int32} (hx : isP x = true) {k : Nat} (hk : k < 4) (ho : own0 kd s = nI k) (hj : jsm C kd x (own0 kd s) = none) (hc : ¬ (¬ (0 ≤ kd ∧ kd ≤ 2) ∨ isP x = false ∨ (kd = 0 ∧ ¬ (0 ≤ s ∧ s < 4)))) : Ans C B (fJb C kd x s) (jT r kd x (nI (lenR C x)) (nI k)).1 (jT r kd x (nI (lenR C x)) (nI k)).2 ∧ Iv (aft C (fJb C kd x s)) := by
  have hN := w_njl h.w
  have hl4 := hV.2.2.2 x
  have e4 : nI (lenR C x) = 4 ↔ lenR C x = 4 := nI_eq (b := 4) (by omega) (by omega)
  have e60 : nI (gn C 4) = 60 ↔ gn C 4 = 60 := nI_eq (b := 60) (by omega) (by omega)
  have hX : jbXc C kd x s = if lenR C x < 4 ∧ gn C 4 < 60 then 0 else 2 := by
    unfold jbXc
    rw [if_neg hc, if_neg (fun z => z hj)]
  have hM : jbM C kd x s = (nI (gn C 4), jnM C kd x (nI k)) := by
    unfold jbM; rw [hj, ho]
  have h0 := sim_th h 0
  have no : ¬ (lenR C x < 4 ∧ gn C 4 < 60) → Ans C B (fJb C kd x s) 0 (ru (ru r 18 34 0) 18 34 2) ∧ Iv (aft C (fJb C kd x s)) := by
    intro z
    have hF : (fJb C kd x s).1 = 2 := by show jbXc C kd x s = 2; rw [hX, if_neg z]
    exact ⟨ans_no h0 (k := 2) hF (by omega) 0, by rw [aft_no (by rw [hF]; omega)]; exact hV⟩
  unfold jT
  rw [h.nj]
  by_cases c1 : lenR C x = 4
  · rw [if_pos (e4.mpr c1)]; exact no (by omega)
  rw [if_neg (fun z => c1 (e4.mp z))]
  by_cases c2 : gn C 4 = 60
  · rw [if_pos (e60.mpr c2)]; exact no (by omega)
  rw [if_neg (fun z => c2 (e60.mp z)), show (nI (gn C 4)).toNatClampNeg = gn C 4 from nI_clamp (by omega)]
  have hF : fJb C kd x s = (0, nI (gn C 4), jnM C kd x (nI k)) := by
    unfold fJb; rw [hX, if_pos (by omega), hM]
  rw [hF]
  refine ⟨ans_yes rfl ?_ ?_, ?_⟩
  · show nI (gn C 4) + 1 - 1 = nI (gn C 4)
    rw [nI_1, nI_pred]
  · exact (sim_new h0 (by omega) kd hx hk).up (by omega)
  · rw [aft_yes rfl]; exact new_Iv h.w hV kd x (nI k) (by omega)
theorem sim_job {C : mM} {r : rR} {B : Nat} (h : Rq T C r B) (hV : Iv C) (kd x s : Int32) : m_job_ok r kd x s ∧ Ans C B (fJb C kd x s) (m_job r kd x s).1 (m_job r kd x s).2 ∧ Iv (aft C (fJb C kd x s)) := by
  have hN := w_njl h.w
  obtain ⟨oP, eP⟩ := sim_isPath x
  have ik := in_0 kd 0 2
  have is := in_0 s 0 3
  have ls : s < 4 ↔ s ≤ 3 := lt_n (x := s) 3 (by omega)
  have no : (¬ (0 ≤ kd ∧ kd ≤ 2) ∨ isP x = false ∨ (kd = 0 ∧ ¬ (0 ≤ s ∧ s < 4))) → Ans C B (fJb C kd x s) 0 (ru r 18 34 1) ∧ Iv (aft C (fJb C kd x s)) := by
    intro z
    have hF : (fJb C kd x s).1 = 1 := by show jbXc C kd x s = 1; unfold jbXc; rw [if_pos z]
    exact ⟨ans_no h (k := 1) hF (by omega) 0, by rw [aft_no (by rw [hF]; omega)]; exact hV⟩
  unfold m_job_ok m_job
  by_cases c1 : m_in kd 0 2 = 0
  · rw [if_pos c1]
    exact ⟨⟨fun _ => trivial, fun z => absurd c1 z⟩, no (Or.inl (ik.mp c1))⟩
  rw [if_neg c1]
  by_cases c2 : m_isPath x = 0
  · rw [if_pos c2]
    exact ⟨⟨fun z => absurd z c1, fun _ => ⟨oP, fun _ => trivial, fun z => absurd c2 z⟩⟩, no (Or.inr (Or.inl (eP.mp c2)))⟩
  rw [if_neg c2]
  have hP := isP_of eP c2
  have hkd := Classical.not_not.mp (fun z => c1 (ik.mpr z))
  -- the row
  have efl : fl (fun j => decide (r 43 j = x ∧ r 45 j = 0)) (gn C 4) = lstR C x := by
    unfold lstR
    exact fl_cg (fun j hj => by rw [(h.jb j hj).2.1, (h.jb j hj).2.2.2.1]; rfl)
  have ecn : cn (fun j => decide (r 43 j = x ∧ r 45 j = 0)) (gn C 4) = lenR C x := by
    unfold lenR
    exact cn_cg (fun j hj => by rw [(h.jb j hj).2.1, (h.jb j hj).2.2.2.1]; rfl)
  have hl100 : ∀ z, lstR C x = some z → z < 60 := fun z hz => by have := (fl_lt hz).1; omega
  have key : ∀ k, k < 4 → own0 kd s = nI k → ¬ (¬ (0 ≤ kd ∧ kd ≤ 2) ∨ isP x = false ∨ (kd = 0 ∧ ¬ (0 ≤ s ∧ s < 4))) → m_job_L55_ok 61 r kd x s (-1) 0 (nI k) 0 ∧ Ans C B (fJb C kd x s) (m_job_L55 61 r kd x s (-1) 0 (nI k) 0).1 (m_job_L55 61 r kd x s (-1) 0 (nI k) 0).2 ∧ Iv (aft C (fJb C kd x s)) := by
    intro k hk ho hc
    have hx60 : ¬ r 18 31 = 60 → ixk (r 18 31) 60 := by
      intro z
      rw [h.nj] at z ⊢
      have e60 : nI (gn C 4) = 60 ↔ gn C 4 = 60 := nI_eq (b := 60) (by omega) (by omega)
      exact ixk_n (by have : gn C 4 ≠ 60 := fun y => z (e60.mpr y)
                      omega) (by omega)
    have hxl : ¬ oI (lstR C x) < 0 → ixk (oI (lstR C x)) 60 := by
      intro z
      cases hq : lstR C x with
      | none => rw [hq] at z; exact absurd (by decide) z
      | some q => exact ixk_n (hl100 q hq) (by omega)
    have hE : jEo r kd x (oI (fl (fun j => decide (r 43 j = x ∧ r 45 j = 0)) (gn C 4))) (nI (cn (fun j => decide (r 43 j = x ∧ r 45 j = 0)) (gn C 4))) (nI k) := by
      rw [efl, ecn]; exact jEo_of hxl hx60
    obtain ⟨o1, e1⟩ := job_at (r := r) (N := gn C 4) h.nj hN (v1 := kd) (x := x) (v3 := s) (v6 := nI k) hE 61 0 (by omega) (by omega)
    have e1 : m_job_L55 61 r kd x s (-1) 0 (nI k) 0 = _ := e1
    refine ⟨o1, ?_⟩
    rw [e1, efl, ecn, jE_eq]
    have jt : jsm C kd x (own0 kd s) = none → Ans C B (fJb C kd x s) (jT r kd x (nI (lenR C x)) (nI k)).1 (jT r kd x (nI (lenR C x)) (nI k)).2 ∧ Iv (aft C (fJb C kd x s)) := fun z => sim_jT h hV kd s hP hk ho z hc
    cases hq : lstR C x with
    | none =>
      rw [if_pos (show oI none < 0 by decide)]
      exact jt (by unfold jsm; rw [hq])
    | some q =>
      have hql := (fl_lt hq).1
      have eq : (oI (some q)).toNatClampNeg = q := nI_clamp (by omega)
      obtain ⟨b1, b2, b3, b4, b5, b6, b7⟩ := h.jb q hql
      rw [if_neg (show ¬ oI (some q) < 0 from nI_pos (by omega)), eq, b1, b3, b5]
      have ej : jsm C kd x (own0 kd s) = if gi C 4 q 4 = 0 ∧ gi C 4 q 1 = kd ∧ gi C 4 q 3 = own0 kd s then some q else none := by unfold jsm; rw [hq]
      by_cases d1 : gi C 4 q 1 = kd
      · rw [if_pos d1]
        by_cases d2 : gi C 4 q 3 = nI k
        · rw [if_pos d2]
          by_cases d3 : gi C 4 q 4 = 0
          · rw [if_pos d3]
            have ejs : jsm C kd x (own0 kd s) = some q := by rw [ej, if_pos ⟨d3, d1, by rw [ho]; exact d2⟩]
            have hF : fJb C kd x s = (0, nI q, C) := by
              unfold fJb jbXc jbM
              rw [if_neg hc, if_pos (by rw [ejs]; simp), ejs]
            rw [hF]
            exact ⟨ans_yes rfl rfl ((sim_th h 0).up (by omega)), by rw [aft_yes rfl]; exact hV⟩
          · rw [if_neg d3]; exact jt (by rw [ej, if_neg (fun z => d3 z.1)])
        · rw [if_neg d2]; exact jt (by rw [ej, if_neg (fun z => d2 (by rw [← ho]; exact z.2.2))])
      · rw [if_neg d1]; exact jt (by rw [ej, if_neg (fun z => d1 z.2.1)])
  by_cases c3 : kd = 0
  · rw [if_pos c3]
    by_cases c4 : m_in s 0 3 = 0
    · rw [if_pos c4]
      exact ⟨⟨fun z => absurd z c1, fun _ => ⟨oP, fun z => absurd z c2, fun _ => ⟨fun _ => ⟨fun _ => trivial, fun z => absurd c4 z⟩, fun z => absurd c3 z⟩⟩⟩, no (Or.inr (Or.inr ⟨c3, fun z => is.mp c4 ⟨z.1, ls.mp z.2⟩⟩))⟩
    · rw [if_neg c4]
      have hs := Classical.not_not.mp (fun z => c4 (is.mpr z))
      obtain ⟨k, hk, e⟩ := in_n (n := 3) (by omega) hs
      have ho : own0 kd s = nI k := by unfold own0; rw [if_pos c3]; exact e
      obtain ⟨o1, a1⟩ := key k (by omega) ho (by
        rintro (z | z | z)
        · exact z hkd
        · rw [hP] at z; cases z
        · exact z.2 ⟨hs.1, ls.mpr hs.2⟩)
      rw [← e] at o1 a1
      exact ⟨⟨fun z => absurd z c1, fun _ => ⟨oP, fun z => absurd z c2, fun _ => ⟨fun _ => ⟨fun z => absurd z c4, fun _ => o1⟩, fun z => absurd c3 z⟩⟩⟩, a1⟩
  · rw [if_neg c3]
    have ho : own0 kd s = nI 0 := by unfold own0; rw [if_neg c3]; rfl
    obtain ⟨o1, a1⟩ := key 0 (by omega) ho (by
      rintro (z | z | z)
      · exact z hkd
      · rw [hP] at z; cases z
      · exact c3 z.1)
    exact ⟨⟨fun z => absurd z c1, fun _ => ⟨oP, fun z => absurd z c2, fun _ => ⟨fun z => absurd z c3, fun _ => o1⟩⟩⟩, a1⟩
end SIM21
