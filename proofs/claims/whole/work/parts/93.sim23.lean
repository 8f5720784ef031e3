section SIM23
variable {T : Int32}
theorem write_c (r : rR) (x : Int32) (j : Nat) (v : Int32) : ru (m_write r x) 39 j v = m_write (ru r 39 j v) x := by
  have e : ru r 39 j v 18 32 = r 18 32 := rfl
  unfold m_write
  rw [e]
  by_cases c : 60 ≤ r 18 32
  · rw [if_pos c, if_pos c]
    funext k i; unfold ru
    by_cases h1 : k = 39 ∧ i = j
    · rw [if_pos h1, if_neg (by omega), if_pos h1]
    · rw [if_neg h1]
      by_cases h2 : k = 18 ∧ i = 32
      · rw [if_pos h2, if_pos h2]
      · rw [if_neg h2, if_neg h2, if_neg h1]
  · rw [if_neg c, if_neg c]
    funext k i; unfold ru
    by_cases h1 : k = 39 ∧ i = j
    · rw [if_pos h1, if_neg (by omega), if_neg (by omega), if_pos h1]
    · rw [if_neg h1]
      by_cases h2 : k = 18 ∧ i = 32
      · rw [if_pos h2, if_pos h2]
      · rw [if_neg h2, if_neg h2, if_neg h1]
theorem sim_bg {C : mM} {r : rR} {B : Nat} (h : Rq T C r B) {j : Nat} (hj : j < gn C 4) : Rq T (st1 C j) (ru r 39 j 1) B := by
  have hk := st1_kp C j
  unfold st1 at hk ⊢
  refine (Rq.mk h.th (kp_w hk h.w) (kq_o (kp_q hk) h.o) (kp_D hk h.d) h.sc h.ne h.nw h.wk h.ca h.nr h.rg h.rl h.rp h.cl h.cq h.fz h.nj (fun i hi => ?_) h.tr)
  obtain ⟨b1, b2, b3, b4, b5, b6, b7⟩ := h.jb i hi
  rw [gi_si, if_neg (by omega), gi_si, if_neg (by omega), gi_si, if_neg (by omega), gi_si, if_neg (by omega), gi_si]
  unfold ru
  by_cases hij : i = j
  · subst hij; simp; exact ⟨b1, b2, b3, b4, b6⟩
  · simp [hij]; exact ⟨b1, b2, b3, b4, b5, b6, b7⟩
theorem sim_oc {C : mM} {r : rR} {B : Nat} (h : Rq T C r B) {j : Nat} (hj : j < gn C 4) (y : Int32) : Rq T (si C 4 j 5 y) (ru r 45 j y) B := by
  have hk : kp C (si C 4 j 5 y) := kp_si _ _ _ _ _ (by omega)
  refine (Rq.mk h.th (kp_w hk h.w) (kq_o (kp_q hk) h.o) (kp_D hk h.d) h.sc h.ne h.nw h.wk h.ca h.nr h.rg h.rl h.rp h.cl h.cq h.fz h.nj (fun i hi => ?_) h.tr)
  obtain ⟨b1, b2, b3, b4, b5, b6, b7⟩ := h.jb i hi
  have o9 : ∀ c, c ≠ 5 → gi (si C 4 j 5 y) 4 i c = gi C 4 i c := fun c hc => by rw [gi_si, if_neg (by omega)]
  rw [o9 1 (by omega), o9 2 (by omega), o9 3 (by omega), o9 4 (by omega), gi_si]
  unfold ru
  by_cases hij : i = j
  · subst hij; simp; exact ⟨b1, b2, b3, b5, b6, b7⟩
  · simp [hij]; exact ⟨b1, b2, b3, b4, b5, b6, b7⟩
theorem fin_ok {C : mM} {r : rR} {B : Nat} (h : Rq T C r B) (hB : B < 1000000) {j : Nat} (hj : j < gn C 4) (y : Int32) : m_finish_ok r (nI j) y := by
  have hN := w_njl h.w
  have e : (nI j).toNatClampNeg = j := nI_clamp (by omega)
  unfold m_finish_ok
  rw [e]
  exact ⟨ixk_n (by omega) (by omega), (sim_write (sim_oc h hj y) hB _).1⟩
/-- what a step's part leaves: the reference has ended the job itself where the class says how -/
def endR (r : rR) (j : Nat) (y : Int32) : rR := if y = 0 then r else m_finish r (nI j) y
theorem sim_end {C : mM} {r : rR} {B : Nat} (h : Rq T C r B) (hB : B < 1000000) {j : Nat} (hj : j < gn C 4) (y : Int32) : Rq T (stE C j y) (ru (endR r j y) 39 j 1) (B + 1) := by
  have hN := w_njl h.w
  have e : (nI j).toNatClampNeg = j := nI_clamp (by omega)
  unfold stE endR
  by_cases hy : y = 0
  · rw [if_pos hy, if_pos hy]; exact (sim_bg h hj).up (by omega)
  · rw [if_neg hy, if_neg hy]
    unfold m_finish
    rw [e, write_c]
    have h1 := sim_oc (sim_bg h hj) (j := j) hj y
    have er : ru (ru r 39 j 1) 45 j y = ru (ru r 45 j y) 39 j 1 := by
      funext a b; unfold ru
      by_cases c1 : a = 45 ∧ b = j
      · rw [if_pos c1, if_neg (by omega), if_pos c1]
      · rw [if_neg c1]
        by_cases c2 : a = 39 ∧ b = j
        · rw [if_pos c2, if_pos c2]
        · rw [if_neg c2, if_neg c2, if_neg c1]
    rw [er] at h1
    exact (sim_write h1 hB _).2
theorem sim_isSame {C : mM} {r : rR} {B : Nat} (h : Rq T C r B) {p : Nat} (hp : p < nRg C) {k : Nat} (hk : k < 4) : m_isSame_ok r (nI p) (nI k) ∧ (m_isSame r (nI p) (nI k) = 0 ↔ ¬ (gi C 5 (rgx C p) 1 = nI k ∧ upD C (rgx C p) = true)) := by
  have hN := w_nrl h.w
  have hN7 := w_nwl h.w
  have ep : (nI p).toNatClampNeg = p := nI_clamp (by omega)
  have ek : (nI k).toNatClampNeg = k := nI_clamp (by omega)
  have hx := ixk_n (n := p) (N := 6) (by omega) (by omega)
  have hxk := ixk_n (n := k) (N := 4) (by omega) (by omega)
  obtain ⟨g0, g1, g2, g3, g4, g5⟩ := h.rg p hp
  obtain ⟨l2, l3, l4⟩ := h.rl p hp
  obtain ⟨s1, -⟩ := h.sc k hk
  unfold m_isSame_ok m_isSame
  rw [ep, ek, g1, g2, g3, g4, s1]
  have fin : ∀ a, a < gn C 7 → nwst C (rgx C p) = some a → ((gi C 5 (rgx C p) 1 = nI k → ixk (nI (a + 1)) 41 ∧ ixk (nI k) 4) ∧ (¬ gi C 5 (rgx C p) 1 = nI k → True)) ∧ ((if gi C 5 (rgx C p) 1 = nI k then (if r 25 (nI (a + 1)).toNatClampNeg = gi C 1 k 0 then (1 : Int32) else 0) else 0) = 0 ↔ ¬ (gi C 5 (rgx C p) 1 = nI k ∧ upD C (rgx C p) = true)) := by
    intro a ha hn
    have ea : (nI (a + 1)).toNatClampNeg = a + 1 := nI_clamp (by omega)
    rw [ea, (h.wk a ha).2.1]
    refine ⟨⟨fun _ => ⟨ixk_n (by omega) (by omega), hxk⟩, fun _ => trivial⟩, ?_⟩
    by_cases c1 : gi C 5 (rgx C p) 1 = nI k
    · have eu : upD C (rgx C p) = decide (gi C 7 a 1 = gi C 1 k 0) := by unfold upD; rw [hn, c1, ek]
      rw [if_pos c1, eu]
      by_cases c2 : gi C 7 a 1 = gi C 1 k 0
      · rw [if_pos c2]; exact ⟨fun z => absurd z (by decide), fun z => absurd ⟨c1, decide_eq_true c2⟩ z⟩
      · rw [if_neg c2]; exact ⟨fun _ z => c2 (of_decide_eq_true z.2), fun _ => rfl⟩
    · rw [if_neg c1]; exact ⟨fun _ z => c1 z.1, fun _ => rfl⟩
  cases h2 : gr C 5 (rgx C p) 2 with
  | some a =>
    have ha := l2 a h2
    have c : ¬ nI (a + 1) ≤ 0 := nI_nle (by omega) (by omega)
    rw [num_s h.w ha, if_neg c]
    obtain ⟨f1, f2⟩ := fin a ha (by unfold nwst; rw [h2])
    exact ⟨⟨hx, fun z => absurd z c, fun _ => f1⟩, f2⟩
  | none =>
    have c : num C none ≤ 0 := by show (0 : Int32) ≤ 0; decide
    rw [if_pos c]
    cases h3 : gr C 5 (rgx C p) 3 with
    | some a =>
      have ha := l3 a h3
      have c3 : ¬ nI (a + 1) ≤ 0 := nI_nle (by omega) (by omega)
      rw [num_s h.w ha, if_neg c3]
      obtain ⟨f1, f2⟩ := fin a ha (by unfold nwst; rw [h2, h3])
      exact ⟨⟨hx, fun _ => ⟨fun z => absurd z c3, fun _ => f1⟩, fun z => absurd c z⟩, f2⟩
    | none =>
      rw [if_pos c]
      cases h4 : gr C 5 (rgx C p) 4 with
      | some a =>
        have ha := l4 a h4
        have c3 : ¬ nI (a + 1) ≤ 0 := nI_nle (by omega) (by omega)
        rw [num_s h.w ha]
        obtain ⟨f1, f2⟩ := fin a ha (by unfold nwst; rw [h2, h3]; exact h4)
        rw [if_neg c3]
        exact ⟨⟨hx, fun _ => ⟨fun _ => ⟨fun z => ⟨fun y => absurd y c3, fun _ => f1.1 z⟩, fun _ => trivial⟩, fun z => absurd c z⟩, fun z => absurd c z⟩, f2⟩
      | none =>
        have eu : upD C (rgx C p) = false := by unfold upD nwst; rw [h2, h3, h4]
        rw [if_pos c, eu]
        refine ⟨⟨hx, fun _ => ⟨fun _ => ⟨fun _ => ⟨fun _ => trivial, fun z => absurd c z⟩, fun _ => trivial⟩, fun z => absurd c z⟩, fun z => absurd c z⟩, ?_⟩
        constructor
        · intro _ z; cases z.2
        · intro _; split <;> rfl
end SIM23
