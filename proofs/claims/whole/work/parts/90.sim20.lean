section SIM20
variable {T : Int32}
theorem Rq.wt {C : mM} {r : rR} {B : Nat} (h : Rq T C r B) : wT C := by
  obtain ⟨t, t1, t2, t3, t4, t5⟩ := h.tr
  have hz : tsz C = min t 60 := by unfold tsz; rw [t4]; exact nI_clamp (by omega)
  exact ⟨by rw [hz]; exact t4, by rw [hz]; omega⟩
def jE (r : rR) (v1 v2 v4 v5 v6 : Int32) : Int32 × rR := (if v4 < 0 then (if v5 = 4 then ((m_fail (ru r 18 34 0) 2).1, (m_fail (ru r 18 34 0) 2).2) else (if (r 18 31) = 60 then ((m_fail (ru r 18 34 0) 2).1, (m_fail (ru r 18 34 0) 2).2) else (((r 18 31) + 1) - 1, (ru (ru (ru (ru (ru (ru (ru r 18 34 0) 42 ((r 18 31).toNatClampNeg) v1) 43 ((r 18 31).toNatClampNeg) v2) 44 ((r 18 31).toNatClampNeg) v6) 45 ((r 18 31).toNatClampNeg) 0) 39 ((r 18 31).toNatClampNeg) 0) 18 31 ((r 18 31) + 1))))) else (if (r 42 (v4.toNatClampNeg)) = v1 then (if (r 44 (v4.toNatClampNeg)) = v6 then (if (r 39 (v4.toNatClampNeg)) = 0 then (v4, (ru r 18 34 0)) else (if v5 = 4 then ((m_fail (ru r 18 34 0) 2).1, (m_fail (ru r 18 34 0) 2).2) else (if (r 18 31) = 60 then ((m_fail (ru r 18 34 0) 2).1, (m_fail (ru r 18 34 0) 2).2) else (((r 18 31) + 1) - 1, (ru (ru (ru (ru (ru (ru (ru r 18 34 0) 42 ((r 18 31).toNatClampNeg) v1) 43 ((r 18 31).toNatClampNeg) v2) 44 ((r 18 31).toNatClampNeg) v6) 45 ((r 18 31).toNatClampNeg) 0) 39 ((r 18 31).toNatClampNeg) 0) 18 31 ((r 18 31) + 1)))))) else (if v5 = 4 then ((m_fail (ru r 18 34 0) 2).1, (m_fail (ru r 18 34 0) 2).2) else (if (r 18 31) = 60 then ((m_fail (ru r 18 34 0) 2).1, (m_fail (ru r 18 34 0) 2).2) else (((r 18 31) + 1) - 1, (ru (ru (ru (ru (ru (ru (ru r 18 34 0) 42 ((r 18 31).toNatClampNeg) v1) 43 ((r 18 31).toNatClampNeg) v2) 44 ((r 18 31).toNatClampNeg) v6) 45 ((r 18 31).toNatClampNeg) 0) 39 ((r 18 31).toNatClampNeg) 0) 18 31 ((r 18 31) + 1)))))) else (if v5 = 4 then ((m_fail (ru r 18 34 0) 2).1, (m_fail (ru r 18 34 0) 2).2) else (if (r 18 31) = 60 then ((m_fail (ru r 18 34 0) 2).1, (m_fail (ru r 18 34 0) 2).2) else (((r 18 31) + 1) - 1, (ru (ru (ru (ru (ru (ru (ru r 18 34 0) 42 ((r 18 31).toNatClampNeg) v1) 43 ((r 18 31).toNatClampNeg) v2) 44 ((r 18 31).toNatClampNeg) v6) 45 ((r 18 31).toNatClampNeg) 0) 39 ((r 18 31).toNatClampNeg) 0) 18 31 ((r 18 31) + 1)))))))
def jEo (r : rR) (v1 v2 v4 v5 v6 : Int32) : Prop := (((v4 < 0) → (((v5 = 4) → (True)) ∧ (¬ (v5 = 4) → ((((r 18 31) = 60) → (True)) ∧ (¬ ((r 18 31) = 60) → (ixk (r 18 31) 60)))))) ∧ (¬ (v4 < 0) → ((ixk v4 60) ∧ ((((r 42 (v4.toNatClampNeg)) = v1) → ((((r 44 (v4.toNatClampNeg)) = v6) → ((((r 39 (v4.toNatClampNeg)) = 0) → (True)) ∧ (¬ ((r 39 (v4.toNatClampNeg)) = 0) → (((v5 = 4) → (True)) ∧ (¬ (v5 = 4) → ((((r 18 31) = 60) → (True)) ∧ (¬ ((r 18 31) = 60) → (ixk (r 18 31) 60)))))))) ∧ (¬ ((r 44 (v4.toNatClampNeg)) = v6) → (((v5 = 4) → (True)) ∧ (¬ (v5 = 4) → ((((r 18 31) = 60) → (True)) ∧ (¬ ((r 18 31) = 60) → (ixk (r 18 31) 60)))))))) ∧ (¬ ((r 42 (v4.toNatClampNeg)) = v1) → (((v5 = 4) → (True)) ∧ (¬ (v5 = 4) → ((((r 18 31) = 60) → (True)) ∧ (¬ ((r 18 31) = 60) → (ixk (r 18 31) 60))))))))))
theorem job_at {r : rR} {N : Nat} (hN : r 18 31 = nI N) (hN60 : N ≤ 60) {v1 x v3 v6 : Int32} (hE : jEo r v1 x (oI (fl (fun j => decide (r 43 j = x ∧ r 45 j = 0)) N)) (nI (cn (fun j => decide (r 43 j = x ∧ r 45 j = 0)) N)) v6) : ∀ n k, k ≤ N → N < k + n → m_job_L55_ok n r v1 x v3 (oI (fl (fun j => decide (r 43 j = x ∧ r 45 j = 0)) k)) (nI (cn (fun j => decide (r 43 j = x ∧ r 45 j = 0)) k)) v6 (nI k) ∧ m_job_L55 n r v1 x v3 (oI (fl (fun j => decide (r 43 j = x ∧ r 45 j = 0)) k)) (nI (cn (fun j => decide (r 43 j = x ∧ r 45 j = 0)) k)) v6 (nI k) = jE r v1 x (oI (fl (fun j => decide (r 43 j = x ∧ r 45 j = 0)) N)) (nI (cn (fun j => decide (r 43 j = x ∧ r 45 j = 0)) N)) v6 := by
  intro n
  induction n with
  | zero => intro k h1 h2; omega
  | succ n ih =>
    intro k h1 h2
    have ec : (nI k).toNatClampNeg = k := nI_clamp (by omega)
    have hle : r 18 31 ≤ nI k ↔ N ≤ k := by rw [hN]; exact nI_leI (by omega) (by omega)
    unfold m_job_L55_ok m_job_L55
    rw [ec]
    by_cases hi : N ≤ k
    · have e0 : k = N := by omega
      subst e0
      rw [if_pos (hle.mpr hi)]
      exact ⟨⟨fun _ => hE, fun z => absurd (hle.mpr hi) z⟩, rfl⟩
    · have c0 : ¬ r 18 31 ≤ nI k := fun z => hi (hle.mp z)
      rw [if_neg c0, nI_1, nI_1]
      have hxk := ixk_n (n := k) (N := 60) (by omega) (by omega)
      have h9 := ih (k + 1) (by omega) (by omega)
      have es : ∀ p : Nat → Bool, cn p (k + 1) = cn p k + (if p k = true then 1 else 0) := fun _ => rfl
      have ef : ∀ p : Nat → Bool, fl p (k + 1) = (if p k = true then some k else fl p k) := fun _ => rfl
      rw [es, ef] at h9
      by_cases hp : r 43 k = x
      · by_cases hq : r 45 k = 0
        · rw [if_pos (by simp [hp, hq]), if_pos (by simp [hp, hq])] at h9
          rw [if_pos hp, if_pos hq]; exact ⟨⟨fun z => absurd z c0, fun _ => ⟨hxk, fun _ => ⟨fun _ => h9.1, fun z => absurd hq z⟩, fun z => absurd hp z⟩⟩, h9.2⟩
        · rw [if_neg (by simp [hq]), if_neg (by simp [hq]), Nat.add_zero] at h9
          rw [if_pos hp, if_neg hq]; exact ⟨⟨fun z => absurd z c0, fun _ => ⟨hxk, fun _ => ⟨fun z => absurd z hq, fun _ => h9.1⟩, fun z => absurd hp z⟩⟩, h9.2⟩
      · rw [if_neg (by simp [hp]), if_neg (by simp [hp]), Nat.add_zero] at h9
        rw [if_neg hp]; exact ⟨⟨fun z => absurd z c0, fun _ => ⟨hxk, fun z => absurd z hp, fun _ => h9.1⟩⟩, h9.2⟩
def jT (r : rR) (v1 v2 v5 v6 : Int32) : Int32 × rR := (if v5 = 4 then ((m_fail (ru r 18 34 0) 2).1, (m_fail (ru r 18 34 0) 2).2) else (if (r 18 31) = 60 then ((m_fail (ru r 18 34 0) 2).1, (m_fail (ru r 18 34 0) 2).2) else (((r 18 31) + 1) - 1, (ru (ru (ru (ru (ru (ru (ru r 18 34 0) 42 ((r 18 31).toNatClampNeg) v1) 43 ((r 18 31).toNatClampNeg) v2) 44 ((r 18 31).toNatClampNeg) v6) 45 ((r 18 31).toNatClampNeg) 0) 39 ((r 18 31).toNatClampNeg) 0) 18 31 ((r 18 31) + 1)))))
theorem jE_eq (r : rR) (v1 v2 v4 v5 v6 : Int32) : jE r v1 v2 v4 v5 v6 = if v4 < 0 then jT r v1 v2 v5 v6 else if r 42 v4.toNatClampNeg = v1 then (if r 44 v4.toNatClampNeg = v6 then (if r 39 v4.toNatClampNeg = 0 then (v4, ru r 18 34 0) else jT r v1 v2 v5 v6) else jT r v1 v2 v5 v6) else jT r v1 v2 v5 v6 := rfl
theorem jEo_of {r : rR} {v1 v2 v4 v5 v6 : Int32} (h1 : ¬ v4 < 0 → ixk v4 60) (h2 : ¬ r 18 31 = 60 → ixk (r 18 31) 60) : jEo r v1 v2 v4 v5 v6 := by
  unfold jEo
  refine ⟨fun _ => ⟨fun _ => trivial, fun _ => ⟨fun _ => trivial, fun z => h2 z⟩⟩, fun z => ⟨h1 z, fun _ => ⟨fun _ => ⟨fun _ => trivial, fun _ => ⟨fun _ => trivial, fun _ => ⟨fun _ => trivial, fun z => h2 z⟩⟩⟩, fun _ => ⟨fun _ => trivial, fun _ => ⟨fun _ => trivial, fun z => h2 z⟩⟩⟩, fun _ => ⟨fun _ => trivial, fun _ => ⟨fun _ => trivial, fun z => h2 z⟩⟩⟩⟩
end SIM20
