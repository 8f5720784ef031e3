section SIM8
variable {T : Int32}
/-- waiting and active, installing and the others are apart -/
def wU (C : mM) : Prop := ∀ p, p < nRg C → (gr C 5 (rgx C p) 3 = none ∨ gr C 5 (rgx C p) 3 ≠ gr C 5 (rgx C p) 4) ∧ (gr C 5 (rgx C p) 2 = none ∨ gr C 5 (rgx C p) 2 ≠ gr C 5 (rgx C p) 4) ∧ (gr C 5 (rgx C p) 2 = none ∨ gr C 5 (rgx C p) 2 ≠ gr C 5 (rgx C p) 3)
theorem stM_ac (C : mM) (q : Option Nat) : stM C q = match acP C q with
    | none => C
    | some p => if clr C (rgx C p) = true then tcM C (rgx C p) else taM C (rgx C p) := by
  unfold stM
  rw [rgAct_ac]
  cases acP C q <;> rfl
theorem acP_none (C : mM) : acP C none = none := by
  cases h : acP C none with
  | none => rfl
  | some p => exact absurd (of_decide_eq_true (ff_lt h).2.2).1 (by simp)
theorem sim_settle {C : mM} {r : rR} {B : Nat} (h : Rq T C r B) (hB : B + 12 < 1000000) (hU : wU C) (q : Option Nat) (hq : ∀ z, q = some z → z < gn C 7) : m_settle_ok r (num C q) ∧ Rq T (stM C q) (m_settle r (num C q)) (B + 10) := by
  have hN := w_nrl h.w
  rw [stM_ac]
  unfold m_settle_ok m_settle
  cases q with
  | none =>
    rw [acP_none, if_pos ((num_le h.w hq).mpr rfl)]
    exact ⟨⟨fun _ => trivial, fun z => absurd ((num_le h.w hq).mpr rfl) z⟩, h.up (by omega)⟩
  | some w =>
    have hw := hq w rfl
    have hn : ¬ num C (some w) ≤ 0 := fun z => by cases (num_le h.w hq).mp z
    rw [if_neg hn, num_s h.w hw]
    rw [num_s h.w hw] at hn
    obtain ⟨o1, e1⟩ := sim_withActive h hw
    cases hp : acP C (some w) with
    | none =>
      rw [hp] at e1
      have e1 : m_withActive r (nI (w + 1)) = -1 := e1
      rw [e1] at *
      rw [if_neg (by decide)]
      exact ⟨⟨fun z => absurd z hn, fun _ => ⟨o1, fun z => absurd z (by decide), fun _ => trivial⟩⟩, h.up (by omega)⟩
    | some p =>
      rw [hp] at e1
      have e1 : m_withActive r (nI (w + 1)) = nI p := e1
      have hpl := (acP_lt hp).1
      rw [e1, if_pos (nI_pos' (by omega))]
      obtain ⟨o2, v2, h2⟩ := sim_clear h (by omega) hpl
      show _ ∧ Rq T (if clr C (rgx C p) = true then tcM C (rgx C p) else taM C (rgx C p)) _ _
      by_cases hc : clr C (rgx C p) = true
      · rw [if_pos hc] at v2 ⊢
        have v3 : ¬ (m_clearAway r (nI p)).1 = 0 := by rw [v2]; decide
        rw [if_neg v3]
        exact ⟨⟨fun z => absurd z hn, fun _ => ⟨o1, fun _ => ⟨o2, fun z => absurd z v3, fun _ => trivial⟩, fun z => absurd (nI_pos' (by omega)) z⟩⟩, h2.up (by omega)⟩
      · rw [if_neg hc] at v2 ⊢
        rw [if_pos v2]
        have et : tcM C (rgx C p) = C := if_neg hc
        rw [et] at h2
        obtain ⟨o3, h3⟩ := sim_activate h2 (by omega) hpl (hU p hpl).1
        have er : (m_clearAway r (nI p)).2 = r := by
          -- not cleared: nothing is done
          have hx : (m_clearAway r (nI p)).1 = 0 := v2
          unfold m_clearAway at hx ⊢
          split at hx
          · rename_i z; rw [if_pos z]
          · rename_i z; rw [if_neg z]
            split at hx
            · rename_i z; rw [if_pos z]
            · rename_i z; rw [if_neg z]
              split at hx
              · split at hx
                · exact absurd (show (1 : Int32) = 0 from hx) (by decide)
                · split at hx <;> exact absurd (show (1 : Int32) = 0 from hx) (by decide)
              · rename_i z; rw [if_neg z]
                split at hx
                · split at hx
                  · exact absurd (show (1 : Int32) = 0 from hx) (by decide)
                  · split at hx <;> exact absurd (show (1 : Int32) = 0 from hx) (by decide)
                · rename_i z; rw [if_neg z]
        rw [er] at o3 h3 h2 ⊢
        obtain ⟨o3, h3⟩ := sim_activate h (by omega) hpl (hU p hpl).1
        exact ⟨⟨fun z => absurd z hn, fun _ => ⟨o1, fun _ => ⟨o2, fun _ => o3, fun z => absurd v2 z⟩, fun z => absurd (nI_pos' (by omega)) z⟩⟩, h3⟩
end SIM8
