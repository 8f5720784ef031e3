section SIM18
variable {T : Int32}
theorem in_r {x : Int32} {lo hi : Nat} (hh : hi < 2 ^ 31 - 1) (hl : lo ≤ hi) (h : nI lo ≤ x ∧ x ≤ nI hi) : ∃ q, lo ≤ q ∧ q ≤ hi ∧ x = nI q := by
  obtain ⟨q, hq, e⟩ := in_n (x := x) (n := hi) hh ⟨Int32.le_trans (nI_pos' (by omega)) h.1, h.2⟩
  subst e
  exact ⟨q, (nI_leI (by omega) (by omega)).mp h.1, hq, rfl⟩
theorem in_q (q lo hi : Nat) (hq : q < 2 ^ 31) (hl : lo < 2 ^ 31) (hh : hi < 2 ^ 31) : m_in (nI q) (nI lo) (nI hi) = 0 ↔ ¬ (lo ≤ q ∧ q ≤ hi) := by
  rw [in_0, nI_leI hl hq, nI_leI hq hh]
theorem rem10 {m : Nat} (h : m < 2 ^ 31) : nI m - nI m / 10 * 10 = nI (m % 10) := by rw [show (10 : Int32) = nI 10 from rfl]; exact pk_rem h (by omega) (by omega)
def wfin (r : rR) (v1 v2 n : Int32) : Int32 × rR := if v2 = 0 then (r 24 v1.toNatClampNeg, r) else if v2 = 1 then (r 25 v1.toNatClampNeg, r) else if v2 = 2 then (r 27 v1.toNatClampNeg, r) else if v2 = 3 then (n, r) else (r 28 v1.toNatClampNeg, r)
theorem worker_at {r : rR} {v1 v2 : Int32} (hx : ixk v1 41) : ∀ n k, k ≤ 8 → 8 < k + n → m_worker_L120_ok n r v1 v2 (nI (cn (fun j => decide (¬ r 38 j = 0 ∧ r 41 j = v1)) k)) (nI k) ∧ m_worker_L120 n r v1 v2 (nI (cn (fun j => decide (¬ r 38 j = 0 ∧ r 41 j = v1)) k)) (nI k) = wfin r v1 v2 (nI (cn (fun j => decide (¬ r 38 j = 0 ∧ r 41 j = v1)) 8)) := by
  intro n
  induction n with
  | zero => intro k h1 h2; omega
  | succ n ih =>
    intro k h1 h2
    have ec : (nI k).toNatClampNeg = k := nI_clamp (by omega)
    have hle : (8 : Int32) ≤ nI k ↔ 8 ≤ k := nI_leI (a := 8) (by omega) (by omega)
    unfold m_worker_L120_ok m_worker_L120
    rw [ec]
    by_cases hi : 8 ≤ k
    · have e0 : k = 8 := by omega
      subst e0
      rw [if_pos (by decide)]
      exact ⟨⟨fun _ => ⟨fun _ => hx, fun _ => ⟨fun _ => hx, fun _ => ⟨fun _ => hx, fun _ => ⟨fun _ => trivial, fun _ => hx⟩⟩⟩⟩, fun z => absurd (by decide) z⟩, rfl⟩
    · have c0 : ¬ (8 : Int32) ≤ nI k := fun z => hi (hle.mp z)
      rw [if_neg c0, nI_1, nI_1]
      have hxk := ixk_n (n := k) (N := 8) (by omega) (by omega)
      have h9 := ih (k + 1) (by omega) (by omega)
      have es : ∀ p : Nat → Bool, cn p (k + 1) = cn p k + (if p k = true then 1 else 0) := fun _ => rfl
      rw [es] at h9
      by_cases hp : r 38 k = 0
      · rw [if_neg (by simp [hp]), Nat.add_zero] at h9
        rw [if_pos hp]; exact ⟨⟨fun z => absurd z c0, fun _ => ⟨hxk, fun _ => h9.1, fun z => absurd hp z⟩⟩, h9.2⟩
      · by_cases hq : r 41 k = v1
        · rw [if_pos (by simp [hp, hq])] at h9
          rw [if_neg hp, if_pos hq]; exact ⟨⟨fun z => absurd z c0, fun _ => ⟨hxk, fun z => absurd z hp, fun _ => ⟨fun _ => h9.1, fun z => absurd hq z⟩⟩⟩, h9.2⟩
        · rw [if_neg (by simp [hq]), Nat.add_zero] at h9
          rw [if_neg hp, if_neg hq]; exact ⟨⟨fun z => absurd z c0, fun _ => ⟨hxk, fun z => absurd z hp, fun _ => ⟨fun z => absurd z hq, fun _ => h9.1⟩⟩⟩, h9.2⟩
def wB (r : rR) (a0 a1 : Int32) : Int32 × rR := (if (m_in a0 1 (r 18 30)) = 0 then ((m_fail r 2).1, (m_fail r 2).2) else (if a1 ≤ 9 then m_worker_L120 9 (ru r 18 34 0) a0 a1 0 0 else (if (a1 - a1 / 10 * 10) < (r 28 (a0.toNatClampNeg)) then (if 20 ≤ a1 then (r 30 (((4 * a0) + (a1 - a1 / 10 * 10)).toNatClampNeg), (ru r 18 34 0)) else (r 29 (((4 * a0) + (a1 - a1 / 10 * 10)).toNatClampNeg), (ru r 18 34 0))) else (0, (ru r 18 34 0)))))
def wBo (r : rR) (a0 a1 : Int32) : Prop := ((((m_in a0 1 (r 18 30)) = 0) → (True)) ∧ (¬ ((m_in a0 1 (r 18 30)) = 0) → (((a1 ≤ 9) → (m_worker_L120_ok 9 (ru r 18 34 0) a0 a1 0 0)) ∧ (¬ (a1 ≤ 9) → ((ixk a0 41) ∧ ((((a1 - a1 / 10 * 10) < (r 28 (a0.toNatClampNeg))) → (((20 ≤ a1) → (ixk ((4 * a0) + (a1 - a1 / 10 * 10)) 164)) ∧ (¬ (20 ≤ a1) → (ixk ((4 * a0) + (a1 - a1 / 10 * 10)) 164)))) ∧ (¬ ((a1 - a1 / 10 * 10) < (r 28 (a0.toNatClampNeg))) → (True))))))))
theorem sim_wB {C : mM} {r : rR} {B : Nat} (h : Rq T C r B) (w : Int32) {q : Nat} (hq : q ≤ 4 ∨ (10 ≤ q ∧ q ≤ 13) ∨ (20 ≤ q ∧ q ≤ 23)) : wBo r w (nI q) ∧ Ans C B (fWk C w (nI q)) (wB r w (nI q)).1 (wB r w (nI q)).2 := by
  have hN := w_nwl h.w
  have hnw := w_nw h.w
  have h0 := sim_th h 0
  have hval : ¬ ¬ ((0 ≤ nI q ∧ nI q ≤ 4) ∨ (10 ≤ nI q ∧ nI q < 10 + 4) ∨ (20 ≤ nI q ∧ nI q < 20 + 4)) := by
    intro z
    apply z
    have e1 : (nI q ≤ 4) ↔ q ≤ 4 := nI_leI (b := 4) (by omega) (by omega)
    have e2 : (10 ≤ nI q) ↔ 10 ≤ q := nI_leI (a := 10) (by omega) (by omega)
    have e3 : (nI q < 10 + 4) ↔ q < 14 := nI_ltI (b := 14) (by omega) (by omega)
    have e4 : (20 ≤ nI q) ↔ 20 ≤ q := nI_leI (a := 20) (by omega) (by omega)
    have e5 : (nI q < 20 + 4) ↔ q < 24 := nI_ltI (b := 24) (by omega) (by omega)
    rw [e1, e2, e3, e4, e5]
    rcases hq with z | z | z
    · exact Or.inl ⟨nI_pos' (by omega), z⟩
    · exact Or.inr (Or.inl ⟨z.1, by omega⟩)
    · exact Or.inr (Or.inr ⟨z.1, by omega⟩)
  unfold wBo wB
  rw [h.nw]
  have i1 := in_0 w 1 (nI (gn C 7))
  by_cases c1 : m_in w 1 (nI (gn C 7)) = 0
  · rw [if_pos c1]
    refine ⟨⟨fun _ => trivial, fun z => absurd c1 z⟩, ans_no h (k := 2) ?_ (by omega) 0⟩
    unfold fWk wkXc; dsimp only; rw [if_neg hval, hnw]; exact if_pos (i1.mp c1)
  rw [if_neg c1]
  have qq := Classical.not_not.mp (fun z => c1 (i1.mpr z))
  obtain ⟨iw, hi1, hi2, e⟩ := in_r (lo := 1) (hi := gn C 7) (by omega) (by
    rcases Nat.lt_or_ge 0 (gn C 7) with z | z
    · exact z
    · have : gn C 7 = 0 := by omega
      rw [this] at qq; exact absurd (Int32.le_trans qq.1 qq.2) (by decide)) qq
  subst e
  obtain ⟨i, rfl⟩ : ∃ i, iw = i + 1 := ⟨iw - 1, by omega⟩
  have hi : i < gn C 7 := by omega
  have ei : (nI (i + 1)).toNatClampNeg = i + 1 := nI_clamp (by omega)
  have hx := ixk_n (n := i + 1) (N := 41) (by omega) (by omega)
  have e1 : (nI (i + 1) - 1).toNatClampNeg = i := by rw [nI_pred]; exact nI_clamp (by omega)
  have hF : fWk C (nI (i + 1)) (nI q) = (0, wkW C i (nI q), C) := by
    unfold fWk wkXc
    rw [if_neg hval, hnw, if_neg (fun z => z qq), e1]
  rw [hF]
  have yes : ∀ v, v = wkW C i (nI q) → Ans C B (0, wkW C i (nI q), C) v (ru r 18 34 0) := fun v hv => ans_yes rfl hv (h0.up (by omega))
  obtain ⟨k1, k2, k3, k4, k5, k6, k7, k8⟩ := h.wk i hi
  have l9 : nI q ≤ 9 ↔ q ≤ 9 := nI_leI (b := 9) (by omega) (by omega)
  have l20 : 20 ≤ nI q ↔ 20 ≤ q := nI_leI (a := 20) (by omega) (by omega)
  by_cases c2 : q ≤ 9
  · rw [if_pos (l9.mpr c2)]
    obtain ⟨o1, a1⟩ := worker_at (r := ru r 18 34 0) (v1 := nI (i + 1)) (v2 := nI q) hx 9 0 (by omega) (by omega)
    have a1 : m_worker_L120 9 (ru r 18 34 0) (nI (i + 1)) (nI q) 0 0 = _ := a1
    refine ⟨⟨fun z => absurd z c1, fun _ => ⟨fun _ => o1, fun z => absurd (l9.mpr c2) z⟩⟩, ?_⟩
    rw [a1]
    have ecn : cn (fun j => decide (¬ (ru r 18 34 0) 38 j = 0 ∧ (ru r 18 34 0) 41 j = nI (i + 1))) 8 = ctl C (some i) := by
      unfold ctl
      refine cn_cg (fun j hj => ?_)
      show decide (¬ r 38 j = 0 ∧ r 41 j = nI (i + 1)) = _
      rw [(h.cl j hj).1, (h.cl j hj).2.2, ← num_s h.w hi]
      refine decide_eq_decide.mpr ⟨fun z => ⟨by simp, num_inj h.w (h.cq j hj).2.2.2 (fun q hq => by cases hq; exact hi) z.2⟩, fun z => ⟨fun z0 => ?_, by rw [z.2]⟩⟩
      have := (h.cq j hj).2.1 z0
      rw [z.2] at this; cases this
    rw [ecn]
    unfold wfin
    rw [ei]
    have hq5 : q = 0 ∨ q = 1 ∨ q = 2 ∨ q = 3 ∨ q = 4 := by omega
    unfold wkW at yes ⊢
    rcases hq5 with rfl | rfl | rfl | rfl | rfl
    · exact yes _ k1
    · exact yes _ k2
    · exact yes _ k4
    · exact yes _ rfl
    · exact yes _ k5
  · have n9 : ¬ nI q ≤ 9 := fun z => c2 (l9.mp z)
    rw [if_neg n9, rem10 (by omega), ei]
    obtain ⟨hz4, hz⟩ := csz_n h hi
    have e4 : 4 * nI (i + 1) + nI (q % 10) = nI (4 * (i + 1) + q % 10) := ix4
    have e5 : (nI (4 * (i + 1) + q % 10)).toNatClampNeg = 4 * (i + 1) + q % 10 := nI_clamp (by omega)
    have lz : nI (q % 10) < nI (csz C i) ↔ q % 10 < csz C i := nI_ltI (by omega) (by omega)
    rw [hz, e4, e5]
    have hx2 := ixk_n (n := 4 * (i + 1) + q % 10) (N := 164) (by omega) (by omega)
    have n0 : ¬ nI q = 0 := fun z => by have := (nI_eq (b := 0) (by omega) (by omega)).mp z; omega
    have n1 : ¬ nI q = 1 := fun z => by have := (nI_eq (b := 1) (by omega) (by omega)).mp z; omega
    have n2 : ¬ nI q = 2 := fun z => by have := (nI_eq (b := 2) (by omega) (by omega)).mp z; omega
    have n3 : ¬ nI q = 3 := fun z => by have := (nI_eq (b := 3) (by omega) (by omega)).mp z; omega
    have n4 : ¬ nI q = 4 := fun z => by have := (nI_eq (b := 4) (by omega) (by omega)).mp z; omega
    have eW : wkW C i (nI q) = if q % 10 < csz C i then (if 20 ≤ q then gi C 16 i (q % 10) else gi C 15 i (q % 10)) else 0 := by
      unfold wkW atC
      rw [if_neg n0, if_neg n1, if_neg n2, if_neg n3, if_neg n4]
      by_cases c20 : 20 ≤ q
      · have es : nI q - 20 = nI (q % 10) := by
          have := pk_sub (a := q) (b := 20) c20
          rw [show (20 : Int32) = nI 20 from rfl, this]; congr 1; omega
        rw [if_pos (l20.mpr c20), es, show (nI (q % 10)).toNatClampNeg = q % 10 from nI_clamp (by omega)]
        by_cases cz : q % 10 < csz C i
        · rw [if_pos ⟨nI_pos' (by omega), lz.mpr cz⟩, if_pos cz, if_pos c20]
        · rw [if_neg (fun z => cz (lz.mp z.2)), if_neg cz]
      · have es : nI q - 10 = nI (q % 10) := by
          have := pk_sub (a := q) (b := 10) (by omega)
          rw [show (10 : Int32) = nI 10 from rfl, this]; congr 1; omega
        rw [if_neg (fun z => c20 (l20.mp z)), es, show (nI (q % 10)).toNatClampNeg = q % 10 from nI_clamp (by omega)]
        by_cases cz : q % 10 < csz C i
        · rw [if_pos ⟨nI_pos' (by omega), lz.mpr cz⟩, if_pos cz, if_neg c20]
        · rw [if_neg (fun z => cz (lz.mp z.2)), if_neg cz]
    refine ⟨⟨fun z => absurd z c1, fun _ => ⟨fun z => absurd z n9, fun _ => ⟨hx, fun _ => ⟨fun _ => hx2, fun _ => hx2⟩, fun _ => trivial⟩⟩⟩, ?_⟩
    by_cases cz : q % 10 < csz C i
    · rw [if_pos (lz.mpr cz)]
      by_cases c20 : 20 ≤ q
      · rw [if_pos (l20.mpr c20)]
        exact yes _ (by rw [eW, if_pos cz, if_pos c20]; exact (h.ca i hi _ cz).2)
      · rw [if_neg (fun z => c20 (l20.mp z))]
        exact yes _ (by rw [eW, if_pos cz, if_neg c20]; exact (h.ca i hi _ cz).1)
    · rw [if_neg (fun z => cz (lz.mp z))]
      exact yes _ (by rw [eW, if_neg cz])
theorem sim_worker {C : mM} {r : rR} {B : Nat} (h : Rq T C r B) (w x : Int32) : m_worker_ok r w x ∧ Ans C B (fWk C w x) (m_worker r w x).1 (m_worker r w x).2 := by
  have e : m_worker r w x = if m_in x 0 4 = 0 then (if m_in x 10 13 = 0 then (if m_in x 20 23 = 0 then ((m_fail r 1).1, (m_fail r 1).2) else wB r w x) else wB r w x) else wB r w x := rfl
  have eo : m_worker_ok r w x = ((m_in x 0 4 = 0 → ((m_in x 10 13 = 0 → ((m_in x 20 23 = 0 → True) ∧ (¬ m_in x 20 23 = 0 → wBo r w x))) ∧ (¬ m_in x 10 13 = 0 → wBo r w x))) ∧ (¬ m_in x 0 4 = 0 → wBo r w x)) := rfl
  rw [e, eo]
  by_cases c1 : m_in x 0 4 = 0
  · rw [if_pos c1]
    by_cases c2 : m_in x 10 13 = 0
    · rw [if_pos c2]
      by_cases c3 : m_in x 20 23 = 0
      · rw [if_pos c3]
        refine ⟨⟨fun _ => ⟨fun _ => ⟨fun _ => trivial, fun z => absurd c3 z⟩, fun z => absurd c2 z⟩, fun z => absurd c1 z⟩, ans_no h (k := 1) ?_ (by omega) 0⟩
        unfold fWk wkXc; dsimp only
        refine if_pos ?_
        rintro (z | z | z)
        · exact (in_0 x 0 4).mp c1 z
        · exact (in_0 x 10 13).mp c2 ⟨z.1, (lt_n (x := x) 13 (by omega)).mp z.2⟩
        · exact (in_0 x 20 23).mp c3 ⟨z.1, (lt_n (x := x) 23 (by omega)).mp z.2⟩
      · rw [if_neg c3]
        obtain ⟨q, q1, q2, rfl⟩ := in_r (lo := 20) (hi := 23) (by omega) (by omega) (Classical.not_not.mp (fun z => c3 ((in_0 x 20 23).mpr z)))
        obtain ⟨o1, a1⟩ := sim_wB h w (q := q) (by omega)
        exact ⟨⟨fun _ => ⟨fun _ => ⟨fun z => absurd z c3, fun _ => o1⟩, fun z => absurd c2 z⟩, fun z => absurd c1 z⟩, a1⟩
    · rw [if_neg c2]
      obtain ⟨q, q1, q2, rfl⟩ := in_r (lo := 10) (hi := 13) (by omega) (by omega) (Classical.not_not.mp (fun z => c2 ((in_0 x 10 13).mpr z)))
      obtain ⟨o1, a1⟩ := sim_wB h w (q := q) (by omega)
      exact ⟨⟨fun _ => ⟨fun z => absurd z c2, fun _ => o1⟩, fun z => absurd c1 z⟩, a1⟩
  · rw [if_neg c1]
    obtain ⟨q, q1, q2, rfl⟩ := in_r (lo := 0) (hi := 4) (by omega) (by omega) (Classical.not_not.mp (fun z => c1 ((in_0 x 0 4).mpr z)))
    obtain ⟨o1, a1⟩ := sim_wB h w (q := q) (by omega)
    exact ⟨⟨fun z => absurd z c1, fun _ => o1⟩, a1⟩
end SIM18
