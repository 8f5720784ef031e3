section SIM14
variable {T : Int32}
def Iv (C : mM) : Prop := wU C ∧ wS C ∧ wJ C ∧ wL C
theorem kk_Iv {M M' : mM} (h : kk M M') (g : Iv M) : Iv M' := ⟨h.1 g.1, h.2.1 g.2.1, kk_J h g.2.2.1, kj_L h.2.2.2 g.2.2.2⟩
theorem aft_no {C : mM} {F : Nat × Int32 × mM} (h : ¬ F.1 = 0) : aft C F = C := if_neg h
theorem aft_yes {C : mM} {F : Nat × Int32 × mM} (h : F.1 = 0) : aft C F = F.2.2 := if_pos h
theorem aft_kk {C : mM} {F : Nat × Int32 × mM} (h : F.1 = 0 → kk C F.2.2) (g : Iv C) : Iv (aft C F) := by
  unfold aft
  split
  · rename_i z; exact kk_Iv (h z) g
  · exact g
theorem open_at {r : rR} {x : Int32} (oF : m_forPath_ok (ru r 18 34 0) x) (oX : 0 ≤ m_forPath (ru r 18 34 0) x → ixk (m_forPath (ru r 18 34 0) x) 6) : ∀ n i, i ≤ 8 → 8 < i + n → m_open_L15_ok n r x (nI i) ∧ ∀ c, c = (ff (fun j => decide (r 38 j = 0)) (8 - i) i).getD 8 → m_open_L15 n r x (nI i) = if c = 8 then ((0 : Int32), ru r 18 34 2) else (nI c, ru (ru (ru (ru r 18 34 0) 38 c 1) 40 c x) 41 c (if 0 ≤ m_forPath (ru r 18 34 0) x then r 36 (m_forPath (ru r 18 34 0) x).toNatClampNeg else 0)) := by
  intro n
  induction n with
  | zero => intro i h1 h2; omega
  | succ n ih =>
    intro i h1 h2
    have ec : (nI i).toNatClampNeg = i := nI_clamp (by omega)
    have hle : (8 : Int32) ≤ nI i ↔ 8 ≤ i := nI_leI (a := 8) (by omega) (by omega)
    have heq : nI i = 8 ↔ i = 8 := nI_eq (b := 8) (by omega) (by omega)
    unfold m_open_L15_ok m_open_L15
    rw [ec]
    by_cases hi : 8 ≤ i
    · have e0 : i = 8 := by omega
      subst e0
      rw [if_pos (by decide), if_pos (by decide)]
      refine ⟨⟨fun _ => ⟨fun _ => trivial, fun z => absurd (by decide) z⟩, fun z => absurd (by decide) z⟩, fun c hc => ?_⟩
      have : c = 8 := hc
      rw [if_pos this]; rfl
    · have hx := ixk_n (n := i) (N := 8) (by omega) (by omega)
      have c0 : ¬ (8 : Int32) ≤ nI i := fun z => hi (hle.mp z)
      have c8 : ¬ nI i = 8 := fun z => hi (by rw [heq.mp z]; exact Nat.le_refl _)
      have e1 : 8 - i = (8 - (i + 1)) + 1 := by omega
      rw [if_neg c0, e1]
      by_cases hp : r 38 i = 0
      · rw [if_pos hp, if_neg c8]
        refine ⟨⟨fun z => absurd z c0, fun _ => ⟨hx, fun _ => ⟨fun z => absurd z c8, fun _ => ⟨oF, oX, fun _ => trivial⟩⟩, fun z => absurd hp z⟩⟩, fun c hc => ?_⟩
        rw [ff_t (by simpa using hp)] at hc
        have : c = i := hc
        subst this
        rw [if_neg (show ¬ c = 8 from fun z => hi (by rw [z]; exact Nat.le_refl _))]
        by_cases hq : 0 ≤ m_forPath (ru r 18 34 0) x
        · rw [if_pos hq, if_pos hq]
        · rw [if_neg hq, if_neg hq]
      · have h9 := ih (i + 1) (by omega) (by omega)
        rw [if_neg hp, nI_1]
        refine ⟨⟨fun z => absurd z c0, fun _ => ⟨hx, fun z => absurd z hp, fun _ => h9.1⟩⟩, fun c hc => ?_⟩
        rw [ff_f (by simpa using hp)] at hc
        exact h9.2 c hc
theorem sim_open {C : mM} {r : rR} {B : Nat} (h : Rq T C r B) (hV : Iv C) (x : Int32) : m_open_ok r x ∧ Ans C B (fOp C x) (m_open r x).1 (m_open r x).2 ∧ Iv (aft C (fOp C x)) := by
  have hN := w_nrl h.w
  have hN7 := w_nwl h.w
  obtain ⟨oP, eP⟩ := sim_isPath x
  unfold m_open_ok m_open
  refine ⟨?_, ?_, aft_kk (fun _ => kk_of ⟨rfl, fun _ => rfl, fun _ _ => rfl, fun _ _ => rfl⟩ ⟨rfl, fun _ _ => rfl⟩) hV⟩
  all_goals
    by_cases c1 : m_isPath x = 0
  · exact ⟨oP, fun _ => trivial, fun z => absurd c1 z⟩
  · obtain ⟨oF, eF⟩ := sim_forPath (sim_th h 0) (isP_of eP c1)
    refine ⟨oP, fun z => absurd z c1, fun _ => (open_at oF (fun z => ?_) 9 0 (by omega) (by omega)).1⟩
    rw [eF] at z ⊢
    cases hf : fpP C x with
    | none => rw [hf] at z; exact absurd z (by decide)
    | some p => exact ixk_n (by have := (rfP_lt hf).1; omega) (by omega)
  · rw [if_pos c1]
    exact ans_no h (k := 1) (by unfold fOp opXc; exact if_pos (eP.mp c1)) (by omega) 0
  · have hP := isP_of eP c1
    rw [if_neg c1]
    obtain ⟨oF, eF⟩ := sim_forPath (sim_th h 0) hP
    have oX : 0 ≤ m_forPath (ru r 18 34 0) x → ixk (m_forPath (ru r 18 34 0) x) 6 := by
      intro z
      rw [eF] at z ⊢
      cases hf : fpP C x with
      | none => rw [hf] at z; exact absurd z (by decide)
      | some p => exact ixk_n (by have := (rfP_lt hf).1; omega) (by omega)
    have e1 := (open_at oF oX 9 0 (by omega) (by omega)).2 (lfc C) (by
      unfold lfc
      congr 1
      exact ff_cg (fun j _ hj => by rw [(h.cl j (by omega)).1]))
    have e1 : m_open_L15 9 r x 0 = _ := e1
    rw [e1]
    have hxc : opXc C x = if lfc C = 8 then 2 else 0 := by unfold opXc; rw [if_neg (by rw [hP]; simp)]
    by_cases c2 : lfc C = 8
    · rw [if_pos c2]
      exact ans_no h (k := 2) (by unfold fOp; dsimp only; rw [hxc, if_pos c2]) (by omega) 0
    · rw [if_neg c2]
      have hc8 : lfc C < 8 := by have := lfc_le C; omega
      have ev : (if 0 ≤ m_forPath (ru r 18 34 0) x then r 36 (m_forPath (ru r 18 34 0) x).toNatClampNeg else 0) = num C (actFor C x) := by
        unfold actFor
        rw [rgFor_P, eF]
        cases hf : fpP C x with
        | none => rw [if_neg (by decide)]; rfl
        | some p =>
          have hp := (rfP_lt hf).1
          rw [if_pos (show 0 ≤ oI (some p) from nI_pos' (by omega)), show (oI (some p)).toNatClampNeg = p from nI_clamp (by omega)]
          exact (h.rg p hp).2.2.2.2.1
      have el : ∀ q, actFor C x = some q → q < gn C 7 := by
        intro q hq
        unfold actFor at hq
        rw [rgFor_P] at hq
        cases hf : fpP C x with
        | none => rw [hf] at hq; cases hq
        | some p => rw [hf] at hq; exact (h.rl p (rfP_lt hf).1).2.2 q hq
      rw [ev]
      refine ans_yes (by unfold fOp; dsimp only; rw [hxc, if_neg c2]) rfl ?_
      show Rq 0 (sr (si (si C 2 (lfc C) 0 1) 2 (lfc C) 1 x) 2 (lfc C) 2 (actFor C x)) _ _
      have hk : kp C (sr (si (si C 2 (lfc C) 0 1) 2 (lfc C) 1 x) 2 (lfc C) 2 (actFor C x)) := kp_tr (kp_tr (kp_si _ _ _ _ _ (by omega)) (kp_si _ _ _ _ _ (by omega))) (kp_sr _ _ _ _ _ (by omega))
      have h0 := (sim_th h 0).up (B' := B + 100) (by omega)
      generalize lfc C = c at *
      generalize actFor C x = q at *
      refine (Rq.mk h0.th (kp_w hk h.w) (kq_o (kp_q hk) h.o) (kp_D hk h.d) h0.sc h0.ne h0.nw h0.wk h0.ca h0.nr h0.rg h0.rl h0.rp (fun i hi => ?_) (fun i hi => ?_) h0.fz h0.nj h0.jb h0.tr)
      · obtain ⟨s1, s2, s3⟩ := h.cl i hi
        have en : ∀ z, num (sr (si (si C 2 c 0 1) 2 c 1 x) 2 c 2 q) z = num C z := fun z => rfl
        rw [en]
        unfold ru
        simp only [gi_sr, gi_si, gr_sr, gr_si]
        by_cases hic : i = c
        · subst hic; simp
        · simp [hic]; exact ⟨s1, s2, s3⟩
      · obtain ⟨s1, s2, s3, s4⟩ := h.cq i hi
        simp only [gi_sr, gi_si, gr_sr, gr_si]
        by_cases hic : i = c
        · subst hic; simp; exact ⟨hP, el⟩
        · simp [hic]; exact ⟨s1, s2, s3, s4⟩
theorem sim_close {C : mM} {r : rR} {B : Nat} (h : Rq T C r B) (hB : B + 100 < 1000000) (hV : Iv C) (x : Int32) : m_close_ok r x ∧ Ans C B (fCl C x) (m_close r x).1 (m_close r x).2 ∧ Iv (aft C (fCl C x)) := by
  have i7 := in_0 x 0 7
  have l7 : x < 8 ↔ x ≤ 7 := lt_n (x := x) 7 (by omega)
  unfold m_close_ok m_close
  by_cases c1 : m_in x 0 7 = 0
  · rw [if_pos c1]
    have hF : (fCl C x).1 = 1 := if_neg (fun z => i7.mp c1 ⟨z.1, l7.mp z.2.1⟩)
    exact ⟨⟨fun _ => trivial, fun z => absurd c1 z⟩, ans_no h (k := 1) hF (by omega) 0, by rw [aft_no (by rw [hF]; omega)]; exact hV⟩
  rw [if_neg c1]
  have q := Classical.not_not.mp (fun z => c1 (i7.mpr z))
  obtain ⟨j, hj, e⟩ := in_n (n := 7) (by omega) q
  subst e
  have ej : (nI j).toNatClampNeg = j := nI_clamp (by omega)
  have hx := ixk_n (n := j) (N := 8) (by omega) (by omega)
  rw [ej]
  obtain ⟨s1, s2, s3⟩ := h.cl j (by omega)
  obtain ⟨u1, u2, u3, u4⟩ := h.cq j (by omega)
  by_cases c2 : r 38 j = 0
  · rw [if_pos c2]
    have hF : (fCl C (nI j)).1 = 1 := if_neg (fun z => z.2.2 (by rw [ej, ← s1]; exact c2))
    exact ⟨⟨fun z => absurd z c1, fun _ => ⟨hx, fun _ => trivial, fun z => absurd c2 z⟩⟩, ans_no h (k := 1) hF (by omega) 0, by rw [aft_no (by rw [hF]; omega)]; exact hV⟩
  · rw [if_neg c2]
    have hF : (fCl C (nI j)).1 = 0 := if_pos ⟨q.1, l7.mpr q.2, by rw [ej, ← s1]; exact c2⟩
    have hk : kp C (cl0 C j) := cl0_kp C j
    have h0 := sim_th h 0
    have h1 : Rq 0 (cl0 C j) (ru (ru (ru r 18 34 0) 38 j 0) 41 j 0) B := by
      unfold cl0 at hk ⊢
      refine (Rq.mk h0.th (kp_w hk h.w) (kq_o (kp_q hk) h.o) (kp_D hk h.d) h0.sc h0.ne h0.nw h0.wk h0.ca h0.nr h0.rg h0.rl h0.rp (fun i hi => ?_) (fun i hi => ?_) h0.fz h0.nj h0.jb h0.tr)
      · obtain ⟨s1, s2, s3⟩ := h.cl i hi
        have en : ∀ z, num (sr (si C 2 j 0 0) 2 j 2 none) z = num C z := fun z => rfl
        rw [en]
        unfold ru
        simp only [gi_sr, gi_si, gr_sr, gr_si]
        by_cases hic : i = j
        · subst hic; simp; exact ⟨s2, rfl⟩
        · simp [hic]; exact ⟨s1, s2, s3⟩
      · obtain ⟨s1, s2, s3, s4⟩ := h.cq i hi
        simp only [gi_sr, gi_si, gr_sr, gr_si]
        by_cases hic : i = j
        · subst hic; simp; exact u3
        · simp [hic]; exact ⟨s1, s2, s3, s4⟩
    have kk1 : kk C (cl0 C j) := kk_of ⟨rfl, fun _ => rfl, fun _ _ => rfl, fun _ _ => rfl⟩ ⟨rfl, fun _ _ => rfl⟩
    obtain ⟨o2, h2⟩ := sim_settle h1 (by omega) (kk1.1 hV.1) (gr C 2 j 2) (by rw [hk.1]; exact u4)
    rw [kp_num hk, ← s3] at o2 h2
    have e2 : (fCl C (nI j)).2.2 = stM (cl0 C j) (gr C 2 j 2) := by
      show clM C (nI j).toNatClampNeg = _
      rw [ej]; rfl
    refine ⟨⟨fun z => absurd z c1, fun _ => ⟨hx, fun z => absurd z c2, fun _ => o2⟩⟩, ans_yes hF ?_ ?_, ?_⟩
    · show r 41 j = num C (gr C 2 (nI j).toNatClampNeg 2)
      rw [ej]; exact s3
    · rw [e2]; exact h2.up (by omega)
    · refine aft_kk (fun _ => ?_) hV
      rw [e2]
      exact kk_tr kk1 (stM_kk (kp_w hk h.w) (kp_D hk h.d) _)
end SIM14
