section SIM7
variable {T : Int32}
theorem come_n (r : rR) (a b : Int32) {k : Nat} (j : Nat) (h1 : k ≠ 24) (h2 : k ≠ 46) (h3 : k ≠ 18) : m_come r a b k j = r k j := by
  unfold m_come
  rw [write_rw]
  show (if _ then _ else _) = _
  rw [if_neg (by omega), ru_n _ _ (by omega)]
theorem num_le {C : mM} (hw : wK C) {q : Option Nat} (h : ∀ z, q = some z → z < gn C 7) : num C q ≤ 0 ↔ q = none := by
  have hN := w_nwl hw
  cases q with
  | none => exact ⟨fun _ => rfl, fun _ => by show (0 : Int32) ≤ 0; decide⟩
  | some a =>
    rw [num_s hw (h a rfl)]
    exact ⟨fun z => absurd z (nI_nle (by omega) (by have := h a rfl; omega)), fun z => by cases z⟩
theorem num_gt {C : mM} (hw : wK C) {q : Option Nat} (h : ∀ z, q = some z → z < gn C 7) : 0 < num C q ↔ q ≠ none := by
  constructor
  · intro z e; rw [e] at z; exact absurd z (by show ¬ (0 : Int32) < 0; decide)
  · intro z; exact Int32.not_le.mp (fun e => z ((num_le hw h).mp e))
theorem sim_clear {C : mM} {r : rR} {B : Nat} (h : Rq T C r B) (hB : B + 2 < 1000000) {p : Nat} (hp : p < nRg C) : m_clearAway_ok r (nI p) ∧ (m_clearAway r (nI p)).1 = (if clr C (rgx C p) = true then 1 else 0) ∧ Rq T (tcM C (rgx C p)) (m_clearAway r (nI p)).2 (B + 2) := by
  have hN := w_nrl h.w
  have hN7 := w_nwl h.w
  have ep : (nI p).toNatClampNeg = p := nI_clamp (by omega)
  have hx := ixk_n (n := p) (N := 6) (by omega) (by omega)
  obtain ⟨g0, g1, g2, g3, g4, g5⟩ := h.rg p hp
  obtain ⟨l2, l3, l4⟩ := h.rl p hp
  have hz2 := num_gt h.w l2
  unfold m_clearAway_ok m_clearAway
  rw [ep]
  by_cases c1 : r 37 p = 0
  · have hc : clr C (rgx C p) = false := decide_eq_false (fun z => z.1 (by rw [← g5]; exact c1))
    rw [if_pos c1, hc]
    unfold tcM; rw [hc]
    exact ⟨⟨hx, fun _ => trivial, fun z => absurd c1 z⟩, rfl, h.up (by omega)⟩
  · by_cases c2 : 0 < r 34 p
    · have hc : clr C (rgx C p) = false := decide_eq_false (fun z => hz2.mp (by rw [← g2]; exact c2) z.2.1)
      rw [if_neg c1, if_pos c2, hc]
      unfold tcM; rw [hc]
      exact ⟨⟨hx, fun z => absurd z c1, fun _ => ⟨fun _ => trivial, fun z => absurd c2 z⟩⟩, rfl, h.up (by omega)⟩
    · have hin : gr C 5 (rgx C p) 2 = none := Classical.byContradiction fun z => c2 (by rw [g2]; exact hz2.mpr z)
      rw [if_neg c1, if_neg c2]
      -- the two ends
      have key : ∀ (q : Option Nat) (hq : ∀ z, q = some z → z < gn C 7), q = gr C 5 (rgx C p) 3 → ctl C (gr C 5 (rgx C p) 4) = 0 →
          (((r 35 p ≤ 0 → (¬ r 36 p ≤ 0 → m_come_ok r (r 36 p) 4) ∧ m_go_ok (if r 36 p ≤ 0 then r else m_come r (r 36 p) 4) (nI p)) ∧ (¬ r 35 p ≤ 0 → m_come_ok r (r 35 p) 4 ∧ (r 36 p ≤ 0 → m_go_ok (m_come r (r 35 p) 4) (nI p)) ∧ (¬ r 36 p ≤ 0 → m_come_ok (m_come r (r 35 p) 4) (r 36 p) 4 ∧ m_go_ok (m_come (m_come r (r 35 p) 4) (r 36 p) 4) (nI p)))) ∧
           (clr C (rgx C p) = true ∧ Rq T (tcM C (rgx C p)) (if r 35 p ≤ 0 then m_go (if r 36 p ≤ 0 then r else m_come r (r 36 p) 4) (nI p) else m_go (if r 36 p ≤ 0 then m_come r (r 35 p) 4 else m_come (m_come r (r 35 p) 4) (r 36 p) 4) (nI p)) (B + 2))) := by
        intro q hq hq3 hct
        have hc : clr C (rgx C p) = true := decide_eq_true ⟨by rw [← g5]; exact c1, hin, hct⟩
        have k1 := brM_kp C (gr C 5 (rgx C p) 3) 4
        have e54 : gr (tc1 C (rgx C p)) 5 (rgx C p) 4 = gr C 5 (rgx C p) 4 := by
          unfold tc1 brM
          cases gr C 5 (rgx C p) 3 with
          | none => rfl
          | some a => exact trA_gr _ _ _ _ _
        have et : tcM C (rgx C p) = rmM (brM (tc1 C (rgx C p)) (gr C 5 (rgx C p) 4) 4) (rgx C p) := by
          unfold tcM tc2; rw [if_pos hc, e54]
        have h1 : (¬ r 35 p ≤ 0 → m_come_ok r (r 35 p) 4) ∧ Rq T (tc1 C (rgx C p)) (if r 35 p ≤ 0 then r else m_come r (r 35 p) 4) (B + 1) := by
          unfold tc1
          rw [g3]
          cases hw : gr C 5 (rgx C p) 3 with
          | none => rw [if_pos ((num_le h.w (by simp)).mpr rfl)]; exact ⟨fun z => absurd ((num_le h.w (by simp)).mpr rfl) z, h.up (by omega)⟩
          | some a =>
            have ha := l3 a hw
            have hn : ¬ num C (some a) ≤ 0 := fun z => by cases (num_le h.w (by intro z hz; cases hz; exact ha)).mp z
            rw [if_neg hn, num_s h.w ha]
            have := sim_come h (by omega) ha 4
            exact ⟨fun _ => this.1, this.2⟩
        have k2 := brM_kp (tc1 C (rgx C p)) (gr C 5 (rgx C p) 4) 4
        have h2 : (¬ r 36 p ≤ 0 → m_come_ok (if r 35 p ≤ 0 then r else m_come r (r 35 p) 4) (r 36 p) 4) ∧ Rq T (brM (tc1 C (rgx C p)) (gr C 5 (rgx C p) 4) 4) (if r 36 p ≤ 0 then (if r 35 p ≤ 0 then r else m_come r (r 35 p) 4) else m_come (if r 35 p ≤ 0 then r else m_come r (r 35 p) 4) (r 36 p) 4) (B + 2) := by
          rw [g4]
          cases hw : gr C 5 (rgx C p) 4 with
          | none => rw [if_pos ((num_le h.w (by simp)).mpr rfl)]; exact ⟨fun z => absurd ((num_le h.w (by simp)).mpr rfl) z, h1.2.up (by omega)⟩
          | some a =>
            have ha := l4 a hw
            have hn : ¬ num C (some a) ≤ 0 := fun z => by cases (num_le h.w (by intro z hz; cases hz; exact ha)).mp z
            rw [if_neg hn, num_s h.w ha]
            have := sim_come h1.2 (by omega) (w := a) (by show a < gn (tc1 C (rgx C p)) 7; rw [show gn (tc1 C (rgx C p)) 7 = gn C 7 from k1.1 7]; exact ha) 4
            exact ⟨fun _ => this.1, this.2⟩
        have kk := kp_tr (show kp C (tc1 C (rgx C p)) from k1) k2
        have h3 := sim_go h2.2 (p := p) (by rw [kp_nRg kk]; exact hp)
        rw [kp_rgx kk, ← et] at h3
        refine ⟨⟨fun z => ?_, fun z => ?_⟩, hc, ?_⟩
        · rw [if_pos z] at h2 h3; exact ⟨h2.1, h3.1⟩
        · rw [if_neg z] at h2 h3
          refine ⟨h1.1 z, fun z2 => ?_, fun z2 => ⟨h2.1 z2, ?_⟩⟩
          · rw [if_pos z2] at h3; exact h3.1
          · rw [if_neg z2] at h3; exact h3.1
        · by_cases z : r 35 p ≤ 0
          · rw [if_pos z] at h3 ⊢; exact h3.2
          · rw [if_neg z] at h3 ⊢; exact h3.2
      have e36 : m_come r (r 35 p) 4 36 p = r 36 p := come_n _ _ _ _ (by decide) (by decide) (by decide)
      rw [e36]
      by_cases c3 : r 36 p ≤ 0
      · have hnone : gr C 5 (rgx C p) 4 = none := (num_le h.w l4).mp (by rw [← g4]; exact c3)
        obtain ⟨⟨ka, kb⟩, hc, hR⟩ := key _ l3 rfl (by rw [hnone]; exact ctl_none C)
        rw [if_pos c3, hc]
        simp only [if_pos c3] at ka kb hR
        refine ⟨⟨hx, fun z => absurd z c1, fun _ => ⟨fun z => absurd z c2, fun _ => ⟨fun _ => ⟨fun z => (ka z).2, fun z => ⟨(kb z).1, fun _ => (kb z).2.1 c3, fun y => absurd c3 y⟩⟩, fun z => absurd c3 z⟩⟩⟩, ?_, ?_⟩
        · by_cases z : r 35 p ≤ 0
          · rw [if_pos z]; rfl
          · rw [if_neg z, if_pos c3]; rfl
        · by_cases z : r 35 p ≤ 0
          · rw [if_pos z] at hR ⊢; exact hR
          · rw [if_neg z] at hR ⊢; rw [if_pos c3]; exact hR
      · cases hac : gr C 5 (rgx C p) 4 with
        | none => exact absurd (by rw [g4, hac]; exact (num_le h.w (by simp)).mpr rfl) c3
        | some b =>
          have hb := l4 b hac
          have e4 : r 36 p = nI (b + 1) := by rw [g4, hac]; exact num_s h.w hb
          obtain ⟨oc, hcc⟩ := sim_isCtl h hb
          rw [← e4] at oc hcc
          rw [if_neg c3]
          by_cases c4 : m_isControlling r (r 36 p) = 0
          · obtain ⟨⟨ka, kb⟩, hc, hR⟩ := key _ l3 rfl (by rw [hac]; exact hcc.mp c4)
            rw [if_pos c4, hc]
            simp only [if_neg c3] at ka kb hR
            refine ⟨⟨hx, fun z => absurd z c1, fun _ => ⟨fun z => absurd z c2, fun _ => ⟨fun z => absurd z c3, fun _ => ⟨oc, fun _ => ⟨fun z => ⟨(ka z).1 c3, (ka z).2⟩, fun z => ⟨(kb z).1, fun y => absurd y c3, (kb z).2.2⟩⟩, fun z => absurd c4 z⟩⟩⟩⟩, ?_, ?_⟩
            · by_cases z : r 35 p ≤ 0
              · rw [if_pos z]; rfl
              · rw [if_neg z, if_neg c3]; rfl
            · by_cases z : r 35 p ≤ 0
              · rw [if_pos z] at hR ⊢; exact hR
              · rw [if_neg z] at hR ⊢; rw [if_neg c3]; exact hR
          · have hc : clr C (rgx C p) = false := decide_eq_false (fun z => c4 (hcc.mpr (by rw [← hac]; exact z.2.2)))
            rw [if_neg c4, hc]
            unfold tcM; rw [hc]
            exact ⟨⟨hx, fun z => absurd z c1, fun _ => ⟨fun z => absurd z c2, fun _ => ⟨fun z => absurd z c3, fun _ => ⟨oc, fun z => absurd z c4, fun _ => trivial⟩⟩⟩⟩, rfl, h.up (by omega)⟩
end SIM7
