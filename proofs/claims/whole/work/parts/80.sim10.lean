section SIM10
variable {T : Int32}
def rfP (C : mM) (x : Int32) : Nat → Option Nat
  | 0 => none
  | n + 1 => if fitR C x (rgx C n) = true ∧ betR C ((rfP C x n).map (rgx C)) (rgx C n) = true then some n else rfP C x n
theorem rfP_B (C : mM) (x : Int32) (n : Nat) : rfB C x n = (rfP C x n).map (rgx C) := by
  induction n with
  | zero => rfl
  | succ n ih =>
    show (if _ then _ else _) = _
    rw [ih]
    show _ = (if _ then _ else _ : Option Nat).map _
    split
    · rfl
    · rfl
theorem rfP_lt {C : mM} {x : Int32} : ∀ {n q : Nat}, rfP C x n = some q → q < n ∧ fitR C x (rgx C q) = true := by
  intro n
  induction n with
  | zero => intro q h; cases h
  | succ n ih =>
    intro q h
    have h : (if fitR C x (rgx C n) = true ∧ betR C ((rfP C x n).map (rgx C)) (rgx C n) = true then some n else rfP C x n) = some q := h
    by_cases hc : fitR C x (rgx C n) = true ∧ betR C ((rfP C x n).map (rgx C)) (rgx C n) = true
    · rw [if_pos hc] at h; cases h; exact ⟨by omega, hc.1⟩
    · rw [if_neg hc] at h; obtain ⟨a, b⟩ := ih h; exact ⟨by omega, b⟩
theorem oI_lt (q : Option Nat) (h : ∀ z, q = some z → z < 100) : oI q < 0 ↔ q = none := by
  cases q with
  | none => exact ⟨fun _ => rfl, fun _ => by show (-1 : Int32) < 0; decide⟩
  | some a => exact ⟨fun z => absurd z (nI_pos (by have := h a rfl; omega)), fun z => by cases z⟩
theorem oI_ge (q : Option Nat) (h : ∀ z, q = some z → z < 100) : 0 ≤ oI q ↔ q ≠ none := by
  rw [← Int32.not_lt, oI_lt q h]
theorem forPath_at {C : mM} {r : rR} {B : Nat} (h : Rq T C r B) {x : Int32} (hx : isP x = true) : ∀ n i, i ≤ nRg C → nRg C < i + n → m_forPath_L4_ok n r x (oI (rfP C x i)) (nI i) ∧ m_forPath_L4 n r x (oI (rfP C x i)) (nI i) = oI (rfP C x (nRg C)) := by
  have hN := w_nrl h.w
  intro n
  induction n with
  | zero => intro i h1 h2; omega
  | succ n ih =>
    intro i h1 h2
    have ec : (nI i).toNatClampNeg = i := nI_clamp (by omega)
    have hle : r 18 29 ≤ nI i ↔ nRg C ≤ i := by rw [h.nr]; exact nI_leI (by omega) (by omega)
    have hq100 : ∀ z, rfP C x i = some z → z < 100 := fun z hz => by have := (rfP_lt hz).1; omega
    unfold m_forPath_L4_ok m_forPath_L4
    rw [ec]
    by_cases hi : nRg C ≤ i
    · have e0 : i = nRg C := by omega
      rw [if_pos (hle.mpr hi), e0]
      rw [e0] at hle
      exact ⟨⟨fun _ => trivial, fun z => absurd (hle.mpr (Nat.le_refl _)) z⟩, rfl⟩
    · have hlt : i < nRg C := by omega
      have c0 : ¬ r 18 29 ≤ nI i := fun z => hi (hle.mp z)
      rw [if_neg c0, nI_1]
      have hxi := ixk_n (n := i) (N := 6) (by omega) (by omega)
      obtain ⟨g0, g1, g2, g3, g4, g5⟩ := h.rg i hlt
      obtain ⟨p1, p2⟩ := h.rp i hlt
      have hz4 := num_0 h.w (h.rl i hlt).2.2
      have h9 := ih (i + 1) (by omega) (by omega)
      have eS : rfP C x (i + 1) = if fitR C x (rgx C i) = true ∧ betR C ((rfP C x i).map (rgx C)) (rgx C i) = true then some i else rfP C x i := rfl
      have eno : ¬ fitR C x (rgx C i) = true → rfP C x (i + 1) = rfP C x i := fun z => by rw [eS, if_neg (fun y => z y.1)]
      rw [g5, g4, g0]
      by_cases c1 : gi C 5 (rgx C i) 5 = 0
      · rw [if_pos c1]
        by_cases c2 : num C (gr C 5 (rgx C i) 4) = 0
        · rw [if_pos c2]
          have e9 := eno (fun z => (of_decide_eq_true z).2.1 (hz4.mp c2))
          rw [e9] at h9
          exact ⟨⟨fun z => absurd z c0, fun _ => ⟨hxi, fun _ => ⟨fun _ => h9.1, fun z => absurd c2 z⟩, fun z => absurd c1 z⟩⟩, h9.2⟩
        · rw [if_neg c2]
          obtain ⟨ob, eb⟩ := sim_begins p1 hx
          by_cases c3 : m_begins (gi C 5 (rgx C i) 0) x = 0
          · rw [if_pos c3]
            have e9 := eno (fun z => by have := (of_decide_eq_true z).2.2; rw [eb.mp c3] at this; cases this)
            rw [e9] at h9
            exact ⟨⟨fun z => absurd z c0, fun _ => ⟨hxi, fun _ => ⟨fun z => absurd z c2, fun _ => ⟨ob, fun _ => h9.1, fun z => absurd c3 z⟩⟩, fun z => absurd c1 z⟩⟩, h9.2⟩
          · rw [if_neg c3]
            have hbg : bgs (gi C 5 (rgx C i) 0) x = true := by
              cases hb : bgs (gi C 5 (rgx C i) 0) x with
              | true => rfl
              | false => exact absurd (eb.mpr hb) c3
            have hfit : fitR C x (rgx C i) = true := decide_eq_true ⟨c1, fun z => c2 (hz4.mpr z), hbg⟩
            cases hq : rfP C x i with
            | none =>
              have hv : oI none < 0 := by show (-1 : Int32) < 0; decide
              rw [if_pos hv]
              have e9 : rfP C x (i + 1) = some i := by rw [eS, hq, if_pos ⟨hfit, rfl⟩]
              rw [e9] at h9
              exact ⟨⟨fun z => absurd z c0, fun _ => ⟨hxi, fun _ => ⟨fun z => absurd z c2, fun _ => ⟨ob, fun z => absurd z c3, fun _ => ⟨fun _ => h9.1, fun z => absurd hv z⟩⟩⟩, fun z => absurd c1 z⟩⟩, h9.2⟩
            | some q =>
              obtain ⟨hqi, hqf⟩ := rfP_lt hq
              have hqf := of_decide_eq_true hqf
              have hv : ¬ oI (some q) < 0 := nI_pos (by omega)
              have eq : (oI (some q)).toNatClampNeg = q := nI_clamp (by omega)
              obtain ⟨q0, q1⟩ := h.rp q (by omega)
              have hxq := ixk_n (n := q) (N := 6) (by omega) (by omega)
              obtain ⟨a, ha, e1⟩ := isP_n p1
              obtain ⟨b, hb, e2⟩ := isP_n q0
              have o1 : m_weight_ok (gi C 5 (rgx C i) 0) := by rw [e1]; exact (sim_weight ha).1
              have o2 : m_weight_ok (gi C 5 (rgx C q) 0) := by rw [e2]; exact (sim_weight hb).1
              have hc := weight_cmp p1 q0 hx hbg hqf.2.2
              rw [if_neg hv, eq, (h.rg q (by omega)).1]
              by_cases c4 : m_weight (gi C 5 (rgx C i) 0) ≤ m_weight (gi C 5 (rgx C q) 0)
              · rw [if_pos c4]
                have e9 : rfP C x (i + 1) = some q := by rw [eS, hq, if_neg (fun z => hc.mp c4 (of_decide_eq_true z.2))]
                rw [e9] at h9
                exact ⟨⟨fun z => absurd z c0, fun _ => ⟨hxi, fun _ => ⟨fun z => absurd z c2, fun _ => ⟨ob, fun z => absurd z c3, fun _ => ⟨fun z => absurd z hv, fun _ => ⟨o1, hxq, o2, fun _ => h9.1, fun z => absurd c4 z⟩⟩⟩⟩, fun z => absurd c1 z⟩⟩, h9.2⟩
              · rw [if_neg c4]
                have hlt2 : gi C 5 (rgx C q) 0 < gi C 5 (rgx C i) 0 := Classical.byContradiction fun z => c4 (hc.mpr z)
                have e9 : rfP C x (i + 1) = some i := by rw [eS, hq, if_pos ⟨hfit, decide_eq_true hlt2⟩]
                rw [e9] at h9
                exact ⟨⟨fun z => absurd z c0, fun _ => ⟨hxi, fun _ => ⟨fun z => absurd z c2, fun _ => ⟨ob, fun z => absurd z c3, fun _ => ⟨fun z => absurd z hv, fun _ => ⟨o1, hxq, o2, fun z => absurd z c4, fun _ => h9.1⟩⟩⟩⟩, fun z => absurd c1 z⟩⟩, h9.2⟩
      · rw [if_neg c1]
        have e9 := eno (fun z => c1 (of_decide_eq_true z).1)
        rw [e9] at h9
        exact ⟨⟨fun z => absurd z c0, fun _ => ⟨hxi, fun z => absurd z c1, fun _ => h9.1⟩⟩, h9.2⟩
def fpP (C : mM) (x : Int32) : Option Nat := rfP C x (nRg C)
theorem rgFor_P (C : mM) (x : Int32) : rgFor C x = (fpP C x).map (rgx C) := rfP_B C x _
theorem sim_forPath {C : mM} {r : rR} {B : Nat} (h : Rq T C r B) {x : Int32} (hx : isP x = true) : m_forPath_ok r x ∧ m_forPath r x = oI (fpP C x) := by
  have hN := w_nrl h.w
  exact forPath_at h hx 6 0 (by omega) (by omega)
end SIM10
