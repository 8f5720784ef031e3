section SIM19
variable {T : Int32}
def cfin (r : rR) (v1 a b : Int32) : Int32 × rR := if v1 = 0 then (r 18 29, r) else if v1 = 1 then (r 18 30, r) else if v1 = 2 then (a, r) else if v1 = 3 then (r 18 31, r) else if v1 = 4 then (b, r) else (r 18 32, r)
theorem count2_at {r : rR} {N : Nat} (hN : r 18 31 = nI N) (hN60 : N ≤ 60) {v1 a : Int32} : ∀ n k, k ≤ N → N < k + n → m_count_L184_ok n r v1 a (nI (cn (fun j => decide (r 45 j = 0)) k)) (nI k) ∧ m_count_L184 n r v1 a (nI (cn (fun j => decide (r 45 j = 0)) k)) (nI k) = cfin r v1 a (nI (cn (fun j => decide (r 45 j = 0)) N)) := by
  intro n
  induction n with
  | zero => intro k h1 h2; omega
  | succ n ih =>
    intro k h1 h2
    have ec : (nI k).toNatClampNeg = k := nI_clamp (by omega)
    have hle : r 18 31 ≤ nI k ↔ N ≤ k := by rw [hN]; exact nI_leI (by omega) (by omega)
    unfold m_count_L184_ok m_count_L184
    rw [ec]
    by_cases hi : N ≤ k
    · have e0 : k = N := by omega
      subst e0
      rw [if_pos (hle.mpr hi)]
      exact ⟨⟨fun _ => trivial, fun z => absurd (hle.mpr hi) z⟩, rfl⟩
    · have c0 : ¬ r 18 31 ≤ nI k := fun z => hi (hle.mp z)
      rw [if_neg c0, nI_1, nI_1]
      have hxk := ixk_n (n := k) (N := 60) (by omega) (by omega)
      have h9 := ih (k + 1) (by omega) (by omega)
      have es : ∀ p : Nat → Bool, cn p (k + 1) = cn p k + (if p k = true then 1 else 0) := fun _ => rfl
      rw [es] at h9
      by_cases hp : r 45 k = 0
      · rw [if_pos (by simp [hp])] at h9
        rw [if_pos hp]; exact ⟨⟨fun z => absurd z c0, fun _ => ⟨hxk, fun _ => h9.1, fun z => absurd hp z⟩⟩, h9.2⟩
      · rw [if_neg (by simp [hp]), Nat.add_zero] at h9
        rw [if_neg hp]; exact ⟨⟨fun z => absurd z c0, fun _ => ⟨hxk, fun z => absurd z hp, fun _ => h9.1⟩⟩, h9.2⟩
theorem count1_at {r : rR} {N : Nat} (hN : r 18 31 = nI N) (hN60 : N ≤ 60) {v1 : Int32} : ∀ n k, k ≤ 8 → 8 < k + n → m_count_L155_ok n r v1 (nI (cn (fun j => decide (¬ r 38 j = 0)) k)) 0 (nI k) ∧ m_count_L155 n r v1 (nI (cn (fun j => decide (¬ r 38 j = 0)) k)) 0 (nI k) = cfin r v1 (nI (cn (fun j => decide (¬ r 38 j = 0)) 8)) (nI (cn (fun j => decide (r 45 j = 0)) N)) := by
  intro n
  induction n with
  | zero => intro k h1 h2; omega
  | succ n ih =>
    intro k h1 h2
    have ec : (nI k).toNatClampNeg = k := nI_clamp (by omega)
    have hle : (8 : Int32) ≤ nI k ↔ 8 ≤ k := nI_leI (a := 8) (by omega) (by omega)
    unfold m_count_L155_ok m_count_L155
    rw [ec]
    by_cases hi : 8 ≤ k
    · have e0 : k = 8 := by omega
      subst e0
      obtain ⟨o1, a1⟩ := count2_at hN hN60 (v1 := v1) (a := nI (cn (fun j => decide (¬ r 38 j = 0)) 8)) 70 0 (by omega) (by omega)
      have a1 : m_count_L184 70 r v1 (nI (cn (fun j => decide (¬ r 38 j = 0)) 8)) 0 0 = _ := a1
      rw [if_pos (by decide)]
      exact ⟨⟨fun _ => o1, fun z => absurd (by decide) z⟩, a1⟩
    · have c0 : ¬ (8 : Int32) ≤ nI k := fun z => hi (hle.mp z)
      rw [if_neg c0, nI_1, nI_1]
      have hxk := ixk_n (n := k) (N := 8) (by omega) (by omega)
      have h9 := ih (k + 1) (by omega) (by omega)
      have es : ∀ p : Nat → Bool, cn p (k + 1) = cn p k + (if p k = true then 1 else 0) := fun _ => rfl
      rw [es] at h9
      by_cases hp : r 38 k = 0
      · rw [if_neg (by simp [hp]), Nat.add_zero] at h9
        rw [if_pos hp]; exact ⟨⟨fun z => absurd z c0, fun _ => ⟨hxk, fun _ => h9.1, fun z => absurd hp z⟩⟩, h9.2⟩
      · rw [if_pos (by simp [hp])] at h9
        rw [if_neg hp]; exact ⟨⟨fun z => absurd z c0, fun _ => ⟨hxk, fun z => absurd z hp, fun _ => h9.1⟩⟩, h9.2⟩
def cB (r : rR) (a0 : Int32) : Int32 × rR := (if a0 ≤ 29 then (if a0 ≤ 19 then (if a0 ≤ 9 then m_count_L155 70 (ru r 18 34 0) a0 0 0 0 else (if (r 38 ((a0 - 10).toNatClampNeg)) = 0 then (0, (ru r 18 34 0)) else (r 41 ((a0 - 10).toNatClampNeg), (ru r 18 34 0)))) else (if (r 38 ((a0 - 20).toNatClampNeg)) = 0 then ((-1), (ru r 18 34 0)) else (r 40 ((a0 - 20).toNatClampNeg), (ru r 18 34 0)))) else (if (r 18 29) ≤ (a0 - 30) then ((-1), (ru r 18 34 0)) else (r 32 ((a0 - 30).toNatClampNeg), (ru r 18 34 0))))
def cBo (r : rR) (a0 : Int32) : Prop := (((a0 ≤ 29) → (((a0 ≤ 19) → (((a0 ≤ 9) → (m_count_L155_ok 70 (ru r 18 34 0) a0 0 0 0)) ∧ (¬ (a0 ≤ 9) → (ixk (a0 - 10) 8)))) ∧ (¬ (a0 ≤ 19) → (ixk (a0 - 20) 8)))) ∧ (¬ (a0 ≤ 29) → ((((r 18 29) ≤ (a0 - 30)) → (True)) ∧ (¬ ((r 18 29) ≤ (a0 - 30)) → (ixk (a0 - 30) 6)))))
theorem sim_cB {C : mM} {r : rR} {B : Nat} (h : Rq T C r B) {q : Nat} (hq : q ≤ 5 ∨ (10 ≤ q ∧ q ≤ 17) ∨ (20 ≤ q ∧ q ≤ 27) ∨ (30 ≤ q ∧ q ≤ 34)) : cBo r (nI q) ∧ Ans C B (fCt C (nI q)) (cB r (nI q)).1 (cB r (nI q)).2 := by
  have hN := w_nrl h.w
  have h0 := sim_th h 0
  have L : ∀ n, n < 100 → ((nI q ≤ nI n) ↔ q ≤ n) := fun n hn => nI_leI (by omega) (by omega)
  have L' : ∀ n, n < 100 → ((nI n ≤ nI q) ↔ n ≤ q) := fun n hn => nI_leI (by omega) (by omega)
  have Lt : ∀ n, n < 100 → ((nI q < nI n) ↔ q < n) := fun n hn => nI_ltI (by omega) (by omega)
  have Le : ∀ n, n < 100 → ((nI q = nI n) ↔ q = n) := fun n hn => nI_eq (by omega) (by omega)
  have l9 : nI q ≤ 9 ↔ q ≤ 9 := L 9 (by omega)
  have l19 : nI q ≤ 19 ↔ q ≤ 19 := L 19 (by omega)
  have l29 : nI q ≤ 29 ↔ q ≤ 29 := L 29 (by omega)
  have g10 : 10 ≤ nI q ↔ 10 ≤ q := L' 10 (by omega)
  have g20 : 20 ≤ nI q ↔ 20 ≤ q := L' 20 (by omega)
  have g30 : 30 ≤ nI q ↔ 30 ≤ q := L' 30 (by omega)
  have t18 : nI q < 10 + 8 ↔ q < 18 := Lt 18 (by omega)
  have t28 : nI q < 20 + 8 ↔ q < 28 := Lt 28 (by omega)
  have t35 : nI q < 30 + 5 ↔ q < 35 := Lt 35 (by omega)
  have l5 : nI q ≤ 5 ↔ q ≤ 5 := L 5 (by omega)
  have hok : ctOk (nI q) := by
    unfold ctOk
    rw [g10, g20, g30, t18, t28, t35, l5]
    have p0 : 0 ≤ nI q := nI_pos' (by omega)
    rcases hq with z | z | z | z
    · exact Or.inr (Or.inr (Or.inr ⟨p0, z⟩))
    · exact Or.inl (by omega)
    · exact Or.inr (Or.inl (by omega))
    · exact Or.inr (Or.inr (Or.inl (by omega)))
  have hF : fCt C (nI q) = (0, ctV C (nI q), C) := by unfold fCt; rw [if_pos hok]
  rw [hF]
  have yes : ∀ v, v = ctV C (nI q) → Ans C B (0, ctV C (nI q), C) v (ru r 18 34 0) := fun v hv => ans_yes rfl hv (h0.up (by omega))
  have sub : ∀ n, n ≤ q → nI q - nI n = nI (q - n) := fun n hn => pk_sub hn
  unfold cBo cB
  by_cases c29 : q ≤ 29
  · rw [if_pos (l29.mpr c29)]
    by_cases c19 : q ≤ 19
    · rw [if_pos (l19.mpr c19)]
      by_cases c9 : q ≤ 9
      · rw [if_pos (l9.mpr c9)]
        have hj : (ru r 18 34 0) 18 31 = nI (gn C 4) := h.nj
        obtain ⟨o1, a1⟩ := count1_at (r := ru r 18 34 0) hj (w_njl h.w) (v1 := nI q) 70 0 (by omega) (by omega)
        have a1 : m_count_L155 70 (ru r 18 34 0) (nI q) 0 0 0 = _ := a1
        refine ⟨⟨fun _ => ⟨fun _ => ⟨fun _ => o1, fun z => absurd (l9.mpr c9) z⟩, fun z => absurd (l19.mpr c19) z⟩, fun z => absurd (l29.mpr c29) z⟩, ?_⟩
        rw [a1]
        have e1 : cn (fun j => decide (¬ (ru r 18 34 0) 38 j = 0)) 8 = thr C := by
          unfold thr
          refine cn_cg (fun j hj => ?_)
          show decide (¬ r 38 j = 0) = _
          rw [(h.cl j hj).1]
        have e2 : cn (fun j => decide ((ru r 18 34 0) 45 j = 0)) (gn C 4) = opn C := by
          unfold opn
          refine cn_cg (fun j hj => ?_)
          show decide (r 45 j = 0) = _
          rw [(h.jb j hj).2.2.2.1]
        rw [e1, e2]
        obtain ⟨t, t1, t2, t3, t4⟩ := h.tr
        unfold cfin
        have eV : ctV C (nI q) = if nI q = 0 then gi C 0 0 6 else if nI q = 1 then gi C 0 0 4 else if nI q = 2 then nI (thr C) else if nI q = 3 then gi C 0 0 10 else if nI q = 4 then nI (opn C) else gi C 3 0 2 := by
          unfold ctV
          rw [if_neg (fun z => by have := g10.mp z.1; omega), if_neg (fun z => by have := g20.mp z.1; omega), if_neg (fun z => by have := g30.mp z.1; omega)]
        rw [eV] at yes ⊢
        have hq6 : q = 0 ∨ q = 1 ∨ q = 2 ∨ q = 3 ∨ q = 4 ∨ q = 5 := by omega
        rcases hq6 with rfl | rfl | rfl | rfl | rfl | rfl
        · exact yes _ (h.nr.trans (w_nr h.w).symm)
        · exact yes _ (h.nw.trans (w_nw h.w).symm)
        · exact yes _ rfl
        · exact yes _ (h.nj.trans (w_nj h.w).symm)
        · exact yes _ rfl
        · exact yes _ (t2.trans t3.symm)
      · have n9 : ¬ nI q ≤ 9 := fun z => c9 (l9.mp z)
        have es : nI q - 10 = nI (q - 10) := sub 10 (by omega)
        have e10 : (nI (q - 10)).toNatClampNeg = q - 10 := nI_clamp (by omega)
        obtain ⟨s1, s2, s3⟩ := h.cl (q - 10) (by omega)
        obtain ⟨u1, u2, u3, u4⟩ := h.cq (q - 10) (by omega)
        have eV : ctV C (nI q) = num C (gr C 2 (q - 10) 2) := by
          unfold ctV
          rw [if_pos ⟨g10.mpr (by omega), t18.mpr (by omega)⟩, es, e10]
        rw [eV] at yes ⊢
        rw [if_neg n9, es, e10]
        refine ⟨⟨fun _ => ⟨fun _ => ⟨fun z => absurd z n9, fun _ => ixk_n (by omega) (by omega)⟩, fun z => absurd (l19.mpr c19) z⟩, fun z => absurd (l29.mpr c29) z⟩, ?_⟩
        by_cases ct : r 38 (q - 10) = 0
        · rw [if_pos ct]; exact yes _ (by rw [u2 (by rw [← s1]; exact ct)]; rfl)
        · rw [if_neg ct]; exact yes _ s3
    · have n19 : ¬ nI q ≤ 19 := fun z => c19 (l19.mp z)
      have es : nI q - 20 = nI (q - 20) := sub 20 (by omega)
      have e10 : (nI (q - 20)).toNatClampNeg = q - 20 := nI_clamp (by omega)
      obtain ⟨s1, s2, s3⟩ := h.cl (q - 20) (by omega)
      have eV : ctV C (nI q) = if gi C 2 (q - 20) 0 = 0 then -1 else gi C 2 (q - 20) 1 := by
        unfold ctV
        rw [if_neg (fun z => by have := t18.mp z.2; omega), if_pos ⟨g20.mpr (by omega), t28.mpr (by omega)⟩, es, e10]
      rw [eV] at yes ⊢
      rw [if_neg n19, es, e10]
      refine ⟨⟨fun _ => ⟨fun z => absurd z n19, fun _ => ixk_n (by omega) (by omega)⟩, fun z => absurd (l29.mpr c29) z⟩, ?_⟩
      by_cases ct : r 38 (q - 20) = 0
      · rw [if_pos ct]; exact yes _ (by rw [if_pos (by rw [← s1]; exact ct)])
      · rw [if_neg ct]; exact yes _ (by rw [if_neg (by rw [← s1]; exact ct)]; exact s2)
  · have n29 : ¬ nI q ≤ 29 := fun z => c29 (l29.mp z)
    have es : nI q - 30 = nI (q - 30) := sub 30 (by omega)
    have e10 : (nI (q - 30)).toNatClampNeg = q - 30 := nI_clamp (by omega)
    have lr : nI (nRg C) ≤ nI (q - 30) ↔ nRg C ≤ q - 30 := nI_leI (by omega) (by omega)
    have lr2 : nI (q - 30) < nI (nRg C) ↔ q - 30 < nRg C := nI_ltI (by omega) (by omega)
    have eV : ctV C (nI q) = if q - 30 < nRg C then gi C 5 (rgx C (q - 30)) 0 else -1 := by
      unfold ctV
      rw [if_neg (fun z => by have := t18.mp z.2; omega), if_neg (fun z => by have := t28.mp z.2; omega), if_pos ⟨g30.mpr (by omega), t35.mpr (by omega)⟩, es, e10, w_nr h.w]
      by_cases c : q - 30 < nRg C
      · rw [if_pos (lr2.mpr c), if_pos c]
      · rw [if_neg (fun z => c (lr2.mp z)), if_neg c]
    rw [eV] at yes ⊢
    rw [if_neg n29, es, e10, h.nr]
    by_cases c : nRg C ≤ q - 30
    · rw [if_pos (lr.mpr c)]
      exact ⟨⟨fun z => absurd z n29, fun _ => ⟨fun _ => trivial, fun z => absurd (lr.mpr c) z⟩⟩, yes _ (by rw [if_neg (by omega)])⟩
    · rw [if_neg (fun z => c (lr.mp z))]
      exact ⟨⟨fun z => absurd z n29, fun _ => ⟨fun z => absurd (lr.mp z) c, fun _ => ixk_n (by omega) (by omega)⟩⟩, yes _ (by rw [if_pos (by omega)]; exact (h.rg _ (by omega)).1)⟩
theorem sim_count {C : mM} {r : rR} {B : Nat} (h : Rq T C r B) (x : Int32) : m_count_ok r x ∧ Ans C B (fCt C x) (m_count r x).1 (m_count r x).2 := by
  have e : m_count r x = if m_in x 0 5 = 0 then (if m_in x 10 17 = 0 then (if m_in x 20 27 = 0 then (if m_in x 30 34 = 0 then ((m_fail r 1).1, (m_fail r 1).2) else cB r x) else cB r x) else cB r x) else cB r x := rfl
  have eo : m_count_ok r x = ((m_in x 0 5 = 0 → ((m_in x 10 17 = 0 → ((m_in x 20 27 = 0 → ((m_in x 30 34 = 0 → True) ∧ (¬ m_in x 30 34 = 0 → cBo r x))) ∧ (¬ m_in x 20 27 = 0 → cBo r x))) ∧ (¬ m_in x 10 17 = 0 → cBo r x))) ∧ (¬ m_in x 0 5 = 0 → cBo r x)) := rfl
  rw [e, eo]
  by_cases c1 : m_in x 0 5 = 0
  · rw [if_pos c1]
    by_cases c2 : m_in x 10 17 = 0
    · rw [if_pos c2]
      by_cases c3 : m_in x 20 27 = 0
      · rw [if_pos c3]
        by_cases c4 : m_in x 30 34 = 0
        · rw [if_pos c4]
          refine ⟨⟨fun _ => ⟨fun _ => ⟨fun _ => ⟨fun _ => trivial, fun z => absurd c4 z⟩, fun z => absurd c3 z⟩, fun z => absurd c2 z⟩, fun z => absurd c1 z⟩, ans_no h (k := 1) ?_ (by omega) 0⟩
          unfold fCt; dsimp only
          refine if_neg ?_
          rintro (z | z | z | z)
          · exact (in_0 x 10 17).mp c2 ⟨z.1, (lt_n (x := x) 17 (by omega)).mp z.2⟩
          · exact (in_0 x 20 27).mp c3 ⟨z.1, (lt_n (x := x) 27 (by omega)).mp z.2⟩
          · exact (in_0 x 30 34).mp c4 ⟨z.1, (lt_n (x := x) 34 (by omega)).mp z.2⟩
          · exact (in_0 x 0 5).mp c1 z
        · rw [if_neg c4]
          obtain ⟨q, q1, q2, rfl⟩ := in_r (lo := 30) (hi := 34) (by omega) (by omega) (Classical.not_not.mp (fun z => c4 ((in_0 x 30 34).mpr z)))
          obtain ⟨o1, a1⟩ := sim_cB h (q := q) (by omega)
          exact ⟨⟨fun _ => ⟨fun _ => ⟨fun _ => ⟨fun z => absurd z c4, fun _ => o1⟩, fun z => absurd c3 z⟩, fun z => absurd c2 z⟩, fun z => absurd c1 z⟩, a1⟩
      · rw [if_neg c3]
        obtain ⟨q, q1, q2, rfl⟩ := in_r (lo := 20) (hi := 27) (by omega) (by omega) (Classical.not_not.mp (fun z => c3 ((in_0 x 20 27).mpr z)))
        obtain ⟨o1, a1⟩ := sim_cB h (q := q) (by omega)
        exact ⟨⟨fun _ => ⟨fun _ => ⟨fun z => absurd z c3, fun _ => o1⟩, fun z => absurd c2 z⟩, fun z => absurd c1 z⟩, a1⟩
    · rw [if_neg c2]
      obtain ⟨q, q1, q2, rfl⟩ := in_r (lo := 10) (hi := 17) (by omega) (by omega) (Classical.not_not.mp (fun z => c2 ((in_0 x 10 17).mpr z)))
      obtain ⟨o1, a1⟩ := sim_cB h (q := q) (by omega)
      exact ⟨⟨fun _ => ⟨fun z => absurd z c2, fun _ => o1⟩, fun z => absurd c1 z⟩, a1⟩
  · rw [if_neg c1]
    obtain ⟨q, q1, q2, rfl⟩ := in_r (lo := 0) (hi := 5) (by omega) (by omega) (Classical.not_not.mp (fun z => c1 ((in_0 x 0 5).mpr z)))
    obtain ⟨o1, a1⟩ := sim_cB h (q := q) (by omega)
    exact ⟨⟨fun z => absurd z c1, fun _ => o1⟩, a1⟩
end SIM19
