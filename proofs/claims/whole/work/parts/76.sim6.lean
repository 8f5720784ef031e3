section SIM6
variable {T : Int32}
theorem ctl_none (C : mM) : ctl C none = 0 := by
  unfold ctl
  rw [cn_0]
  cases hf : ff (fun i => decide ((none : Option Nat) ≠ none ∧ gr C 2 i 2 = none)) 8 0 with
  | none => rfl
  | some q => exact absurd (of_decide_eq_true (ff_lt hf).2.2).1 (by simp)
theorem sim_act {C : mM} {r : rR} {B : Nat} (h : Rq T C r B) (hB : B + 10 < 1000000) {p : Nat} (hp : p < nRg C) {n b : Nat} (hn : n < gn C 7) (hb : b < gn C 7) (hbn : b ≠ n) (v1 : Int32) :
    m_come_ok r (nI (b + 1)) 4 ∧ m_come_ok (ru (ru (m_come r (nI (b + 1)) 4) 35 p 0) 36 p (nI (n + 1))) (nI (n + 1)) 3 ∧ m_activate_L73_ok 9 (m_come (ru (ru (m_come r (nI (b + 1)) 4) 35 p 0) 36 p (nI (n + 1))) (nI (n + 1)) 3) v1 (nI (n + 1)) (nI (b + 1)) 0 ∧ Rq T (actM C (rgx C p) n (some b)) (m_activate_L73 9 (m_come (ru (ru (m_come r (nI (b + 1)) 4) 35 p 0) 36 p (nI (n + 1))) (nI (n + 1)) 3) v1 (nI (n + 1)) (nI (b + 1)) 0) (B + 10) := by
  obtain ⟨o1, h1⟩ := sim_come h (by omega) hb 4
  have k1 := brM_kp C (some b) 4
  have h2 := sim_act0 h1 (p := p) (by rw [kp_nRg k1]; exact hp) (n := n) (by rw [k1.1]; exact hn)
  rw [kp_rgx k1] at h2
  have k2 := act0_kp (brM C (some b) 4) (rgx C p) n
  obtain ⟨o3, h3⟩ := sim_come h2 (by omega) (w := n) (by rw [k2.1, k1.1]; exact hn) 3
  have k3 := act1_kp C (rgx C p) n (some b)
  have h4 := hnd_at (A := act1 C (rgx C p) n (some b)) (b := b) (n := n) hbn (by rw [k3.1]; exact hn) (by rw [k3.1]; exact hb) v1 8 0 _ (B + 2) (by omega) (by omega) h3
  exact ⟨o1, o3, h4.1, h4.2⟩
theorem sim_activate {C : mM} {r : rR} {B : Nat} (h : Rq T C r B) (hB : B + 10 < 1000000) {p : Nat} (hp : p < nRg C) (hU : gr C 5 (rgx C p) 3 = none ∨ gr C 5 (rgx C p) 3 ≠ gr C 5 (rgx C p) 4) : m_activate_ok r (nI p) ∧ Rq T (taM C (rgx C p)) (m_activate r (nI p)) (B + 10) := by
  have hN := w_nrl h.w
  have hN7 := w_nwl h.w
  have ep : (nI p).toNatClampNeg = p := nI_clamp (by omega)
  have hx := ixk_n (n := p) (N := 6) (by omega) (by omega)
  obtain ⟨g0, g1, g2, g3, g4, g5⟩ := h.rg p hp
  obtain ⟨l2, l3, l4⟩ := h.rl p hp
  unfold m_activate_ok m_activate
  rw [ep]
  cases hw : gr C 5 (rgx C p) 3 with
  | none =>
    rw [hw] at g3
    have g3 : r 35 p = 0 := g3
    rw [if_pos g3, taM_0 hw]
    exact ⟨⟨hx, fun _ => trivial, fun z => absurd g3 z⟩, h.up (by omega)⟩
  | some n =>
    have hn := l3 n hw
    rw [hw, num_s h.w hn] at g3
    have en : (nI (n + 1)).toNatClampNeg = n + 1 := nI_clamp (by omega)
    have hn0 : ¬ nI (n + 1) = 0 := nI_ne0 (by omega) (by omega)
    rw [g3, if_neg hn0, en]
    cases ha : gr C 5 (rgx C p) 4 with
    | none =>
      rw [ha] at g4
      have g4 : r 36 p = 0 := g4
      rw [g4, if_pos (by decide)]
      have h2 := sim_act0 h hp hn
      obtain ⟨o3, h3⟩ := sim_come h2 (by omega) (w := n) (by rw [(act0_kp C (rgx C p) n).1]; exact hn) 3
      have e : taM C (rgx C p) = brM (act0 C (rgx C p) n) (some n) 3 := by
        unfold taM
        rw [hw]
        show (if _ then _ else _) = _
        rw [ha, if_pos (Or.inr (ctl_none C))]; rfl
      have eL : m_activate_L73 9 (m_come (ru (ru r 35 p 0) 36 p (nI (n + 1))) (nI (n + 1)) 3) (nI p) (nI (n + 1)) 0 0 = m_come (ru (ru r 35 p 0) 36 p (nI (n + 1))) (nI (n + 1)) 3 := by
        unfold m_activate_L73; rw [if_neg (by decide), if_pos (by decide)]
      have oL : m_activate_L73_ok 9 (m_come (ru (ru r 35 p 0) 36 p (nI (n + 1))) (nI (n + 1)) 3) (nI p) (nI (n + 1)) 0 0 := by
        unfold m_activate_L73_ok; exact ⟨fun _ => trivial, fun _ => ⟨fun _ => trivial, fun z => absurd (by decide) z⟩⟩
      rw [e, eL]
      exact ⟨⟨hx, fun z => absurd z hn0, fun _ => ⟨fun _ => ⟨o3, oL⟩, fun z => absurd (by decide) z⟩⟩, h3.up (by omega)⟩
    | some b =>
      have hb := l4 b ha
      rw [ha, num_s h.w hb] at g4
      have hbn : b ≠ n := by
        rcases hU with z | z
        · rw [hw] at z; cases z
        · rw [hw, ha] at z; intro q; exact z (by rw [q])
      have hb0 : ¬ nI (b + 1) ≤ 0 := nI_nle (by omega) (by omega)
      have hxn := ixk_n (n := n + 1) (N := 41) (by omega) (by omega)
      obtain ⟨oc, hc⟩ := sim_isCtl h hb
      have hsk := (h.wk n hn).2.2.2.2.2.1
      obtain ⟨o1, o2, o3, hA⟩ := sim_act h hB hp hn hb hbn (nI p)
      have et : taM C (rgx C p) = if gi C 7 n 6 ≠ 0 ∨ ctl C (some b) = 0 then actM C (rgx C p) n (some b) else C := by
        unfold taM
        rw [hw]
        show (if _ then _ else _) = _
        rw [ha]
      rw [g4, if_neg hb0, hsk, et]
      by_cases hs : gi C 7 n 6 = 0
      · rw [if_pos hs]
        by_cases hcc : ctl C (some b) = 0
        · rw [if_pos (hc.mpr hcc), if_pos (Or.inr hcc)]
          exact ⟨⟨hx, fun z => absurd z hn0, fun _ => ⟨fun z => absurd z hb0, fun _ => ⟨hxn, fun _ => ⟨oc, fun _ => ⟨o1, o2, o3⟩, fun z => absurd (hc.mpr hcc) z⟩, fun z => absurd hs z⟩⟩⟩, hA⟩
        · rw [if_neg (fun z => hcc (hc.mp z)), if_neg (by rintro (z | z); exact z hs; exact hcc z)]
          exact ⟨⟨hx, fun z => absurd z hn0, fun _ => ⟨fun z => absurd z hb0, fun _ => ⟨hxn, fun _ => ⟨oc, fun z => absurd (hc.mp z) hcc, fun _ => trivial⟩, fun z => absurd hs z⟩⟩⟩, h.up (by omega)⟩
      · rw [if_neg hs, if_pos (Or.inl hs)]
        exact ⟨⟨hx, fun z => absurd z hn0, fun _ => ⟨fun z => absurd z hb0, fun _ => ⟨hxn, fun z => absurd z hs, fun _ => ⟨o1, o2, o3⟩⟩⟩⟩, hA⟩
end SIM6
