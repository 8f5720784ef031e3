section SIM5
variable {T : Int32}
theorem sim_in {C : mM} {r : rR} {B : Nat} (h : Rq T C r B) {p : Nat} (hp : p < nRg C) (q : Option Nat) (hq : ∀ z, q = some z → z < gn C 7) : Rq T (sr C 5 (rgx C p) 2 q) (ru r 34 p (num C q)) B := by
  have hk : kp C (sr C 5 (rgx C p) 2 q) := kp_sr _ _ _ _ _ (by omega)
  refine (Rq.mk h.th (kp_w hk h.w) (kq_o (kp_q hk) h.o) (kp_D hk h.d) h.sc h.ne h.nw h.wk h.ca h.nr (fun i hi => ?_) (fun i hi => ?_) h.rp h.cl h.cq h.fz h.nj h.jb h.tr)
  · obtain ⟨h1, h2, h3, h4, h5, h6⟩ := h.rg i hi
    have hx : rgx (sr C 5 (rgx C p) 2 q) i = rgx C i := rfl
    have hn : ∀ z, num (sr C 5 (rgx C p) 2 q) z = num C z := fun z => rfl
    rw [hx, hn, hn, hn, gr_sr, gr_sr, gr_sr]
    unfold ru
    by_cases hi2 : i = p
    · subst hi2
      refine ⟨h1, h2, ?_, ?_, ?_, h6⟩ <;> simp <;> assumption
    · have hne : ¬ rgx C i = rgx C p := fun z => hi2 (h.d.2 i p hi hp z)
      refine ⟨h1, h2, ?_, ?_, ?_, h6⟩ <;> simp [hi2, hne] <;> assumption
  · obtain ⟨h3, h4, h5⟩ := h.rl i hi
    have hx : rgx (sr C 5 (rgx C p) 2 q) i = rgx C i := rfl
    rw [hx, gr_sr, gr_sr, gr_sr]
    by_cases hi2 : i = p
    · subst hi2
      refine ⟨?_, ?_, ?_⟩ <;> simp <;> assumption
    · have hne : ¬ rgx C i = rgx C p := fun z => hi2 (h.d.2 i p hi hp z)
      refine ⟨?_, ?_, ?_⟩ <;> simp [hne] <;> assumption
theorem sim_wa {C : mM} {r : rR} {B : Nat} (h : Rq T C r B) {p : Nat} (hp : p < nRg C) (q : Option Nat) (hq : ∀ z, q = some z → z < gn C 7) : Rq T (sr C 5 (rgx C p) 3 q) (ru r 35 p (num C q)) B := by
  have hk : kp C (sr C 5 (rgx C p) 3 q) := kp_sr _ _ _ _ _ (by omega)
  refine (Rq.mk h.th (kp_w hk h.w) (kq_o (kp_q hk) h.o) (kp_D hk h.d) h.sc h.ne h.nw h.wk h.ca h.nr (fun i hi => ?_) (fun i hi => ?_) h.rp h.cl h.cq h.fz h.nj h.jb h.tr)
  · obtain ⟨h1, h2, h3, h4, h5, h6⟩ := h.rg i hi
    have hx : rgx (sr C 5 (rgx C p) 3 q) i = rgx C i := rfl
    have hn : ∀ z, num (sr C 5 (rgx C p) 3 q) z = num C z := fun z => rfl
    rw [hx, hn, hn, hn, gr_sr, gr_sr, gr_sr]
    unfold ru
    by_cases hi2 : i = p
    · subst hi2
      refine ⟨h1, h2, ?_, ?_, ?_, h6⟩ <;> simp <;> assumption
    · have hne : ¬ rgx C i = rgx C p := fun z => hi2 (h.d.2 i p hi hp z)
      refine ⟨h1, h2, ?_, ?_, ?_, h6⟩ <;> simp [hi2, hne] <;> assumption
  · obtain ⟨h3, h4, h5⟩ := h.rl i hi
    have hx : rgx (sr C 5 (rgx C p) 3 q) i = rgx C i := rfl
    rw [hx, gr_sr, gr_sr, gr_sr]
    by_cases hi2 : i = p
    · subst hi2
      refine ⟨?_, ?_, ?_⟩ <;> simp <;> assumption
    · have hne : ¬ rgx C i = rgx C p := fun z => hi2 (h.d.2 i p hi hp z)
      refine ⟨?_, ?_, ?_⟩ <;> simp [hne] <;> assumption
theorem sim_ac {C : mM} {r : rR} {B : Nat} (h : Rq T C r B) {p : Nat} (hp : p < nRg C) (q : Option Nat) (hq : ∀ z, q = some z → z < gn C 7) : Rq T (sr C 5 (rgx C p) 4 q) (ru r 36 p (num C q)) B := by
  have hk : kp C (sr C 5 (rgx C p) 4 q) := kp_sr _ _ _ _ _ (by omega)
  refine (Rq.mk h.th (kp_w hk h.w) (kq_o (kp_q hk) h.o) (kp_D hk h.d) h.sc h.ne h.nw h.wk h.ca h.nr (fun i hi => ?_) (fun i hi => ?_) h.rp h.cl h.cq h.fz h.nj h.jb h.tr)
  · obtain ⟨h1, h2, h3, h4, h5, h6⟩ := h.rg i hi
    have hx : rgx (sr C 5 (rgx C p) 4 q) i = rgx C i := rfl
    have hn : ∀ z, num (sr C 5 (rgx C p) 4 q) z = num C z := fun z => rfl
    rw [hx, hn, hn, hn, gr_sr, gr_sr, gr_sr]
    unfold ru
    by_cases hi2 : i = p
    · subst hi2
      refine ⟨h1, h2, ?_, ?_, ?_, h6⟩ <;> simp <;> assumption
    · have hne : ¬ rgx C i = rgx C p := fun z => hi2 (h.d.2 i p hi hp z)
      refine ⟨h1, h2, ?_, ?_, ?_, h6⟩ <;> simp [hi2, hne] <;> assumption
  · obtain ⟨h3, h4, h5⟩ := h.rl i hi
    have hx : rgx (sr C 5 (rgx C p) 4 q) i = rgx C i := rfl
    rw [hx, gr_sr, gr_sr, gr_sr]
    by_cases hi2 : i = p
    · subst hi2
      refine ⟨?_, ?_, ?_⟩ <;> simp <;> assumption
    · have hne : ¬ rgx C i = rgx C p := fun z => hi2 (h.d.2 i p hi hp z)
      refine ⟨?_, ?_, ?_⟩ <;> simp [hne] <;> assumption
theorem sim_lv {C : mM} {r : rR} {B : Nat} (h : Rq T C r B) {p : Nat} (hp : p < nRg C) (x : Int32) (hx0 : x = 0 ∨ x = 1) : Rq T (si C 5 (rgx C p) 5 x) (ru r 37 p x) B := by
  have hk : kp C (si C 5 (rgx C p) 5 x) := kp_si _ _ _ _ _ (by omega)
  refine (Rq.mk h.th (kp_w hk h.w) (kq_o (kp_q hk) h.o) (kp_D hk h.d) h.sc h.ne h.nw h.wk h.ca h.nr (fun i hi => ?_) h.rl (fun i hi => ?_) h.cl h.cq h.fz h.nj h.jb h.tr)
  · obtain ⟨h1, h2, h3, h4, h5, h6⟩ := h.rg i hi
    have hx : rgx (si C 5 (rgx C p) 5 x) i = rgx C i := rfl
    refine ⟨?_, ?_, h3, h4, h5, ?_⟩
    · rw [hx, gi_si, if_neg (by omega)]; exact h1
    · rw [hx, gi_si, if_neg (by omega)]; exact h2
    · rw [hx, gi_si]; unfold ru
      by_cases hi2 : i = p
      · subst hi2; rw [if_pos ⟨rfl, rfl⟩, if_pos ⟨rfl, rfl, rfl⟩]
      · have hne : ¬ rgx C i = rgx C p := fun z => hi2 (h.d.2 i p hi hp z)
        rw [if_neg (by omega), if_neg (fun z => hne z.2.1)]; exact h6
  · obtain ⟨h1, h2⟩ := h.rp i hi
    have hx : rgx (si C 5 (rgx C p) 5 x) i = rgx C i := rfl
    rw [hx, gi_si, if_neg (by omega), gi_si]
    refine ⟨h1, ?_⟩
    by_cases hi2 : i = p
    · subst hi2; rw [if_pos ⟨rfl, rfl, rfl⟩]; exact hx0
    · have hne : ¬ rgx C i = rgx C p := fun z => hi2 (h.d.2 i p hi hp z)
      rw [if_neg (fun z => hne z.2.1)]; exact h2
theorem sim_act0 {C : mM} {r : rR} {B : Nat} (h : Rq T C r B) {p : Nat} (hp : p < nRg C) {n : Nat} (hn : n < gn C 7) : Rq T (act0 C (rgx C p) n) (ru (ru r 35 p 0) 36 p (nI (n + 1))) B := by
  have h1 := sim_wa h hp none (fun z hz => by cases hz)
  have h2 := sim_ac h1 (p := p) hp (some n) (fun z hz => by cases hz; exact hn)
  have e : num (sr C 5 (rgx C p) 3 none) (some n) = nI (n + 1) := w_num h.w hn
  rw [e] at h2
  exact h2
theorem hnd_at {A : mM} {b n : Nat} (hbn : b ≠ n) (hn : n < gn A 7) (hb : b < gn A 7) (v1 : Int32) : ∀ k i r B, i + k = 8 → B + 8 < 1000000 → Rq T (hnd A b n i) r (B + i) → m_activate_L73_ok (k + 1) r v1 (nI (n + 1)) (nI (b + 1)) (nI i) ∧ Rq T (hnd A b n 8) (m_activate_L73 (k + 1) r v1 (nI (n + 1)) (nI (b + 1)) (nI i)) (B + 8) := by
  intro k
  induction k with
  | zero =>
    intro i r B hik hB h
    have : i = 8 := by omega
    subst this
    unfold m_activate_L73_ok m_activate_L73
    rw [if_pos (by decide)]
    exact ⟨⟨fun _ => trivial, fun z => absurd (by decide) z⟩, h⟩
  | succ k ih =>
    intro i r B hik hB h
    have hN := w_nwl h.w
    have hg7 : gn (hnd A b n i) 7 = gn A 7 := (hnd_kp A b n i).1 7
    rw [hg7] at hN
    have ec : (nI i).toNatClampNeg = i := nI_clamp (by omega)
    unfold m_activate_L73_ok m_activate_L73
    rw [ec, nI_1]
    have c1 : ¬ (8 : Int32) ≤ nI i := (show ¬ nI 8 ≤ nI i from nI_ge (by omega) (by omega))
    have c2 : ¬ nI (b + 1) ≤ 0 := nI_nle (by omega) (by omega)
    rw [if_neg c1, if_neg c2]
    have hx := ixk_n (n := i) (N := 8) (by omega) (by omega)
    obtain ⟨q1, q2, q3⟩ := h.cl i (by omega)
    obtain ⟨u1, u2, u3, u4⟩ := h.cq i (by omega)
    have e8 : hnd A b n (i + 1) = if gr (hnd A b n i) 2 i 2 = some b then ctM (hnd A b n i) i (some n) else hnd A b n i := rfl
    by_cases ht : r 38 i = 0
    · rw [if_pos ht]
      have hnone := u2 (by rw [← q1]; exact ht)
      have hs : Rq T (hnd A b n (i + 1)) r (B + (i + 1)) := by rw [e8, if_neg (by rw [hnone]; simp)]; exact h.up (by omega)
      have h9 := ih (i + 1) r B (by omega) hB hs
      exact ⟨⟨fun z => absurd z c1, fun _ => ⟨fun z => absurd z c2, fun _ => ⟨hx, fun _ => h9.1, fun z => absurd ht z⟩⟩⟩, h9.2⟩
    · rw [if_neg ht]
      by_cases hby : r 41 i = nI (b + 1)
      · rw [if_pos hby]
        have hgr : gr (hnd A b n i) 2 i 2 = some b := num_inj h.w u4 (fun q hq => by cases hq; rw [hg7]; exact hb) (by rw [← q3, hby]; exact (num_s h.w (by rw [hg7]; exact hb)).symm)
        have hc := sim_control h (by omega) (i := i) (by omega) (n := n) (by rw [hg7]; exact hn) (by rw [hgr]; intro z; exact hbn (Option.some.inj z)) (by rw [← q1]; exact ht)
        have hs : Rq T (hnd A b n (i + 1)) (m_control r (nI i) (nI (n + 1))) (B + (i + 1)) := by rw [e8, if_pos hgr]; exact hc.2
        have h9 := ih (i + 1) _ B (by omega) hB hs
        exact ⟨⟨fun z => absurd z c1, fun _ => ⟨fun z => absurd z c2, fun _ => ⟨hx, fun z => absurd z ht, fun _ => ⟨fun _ => ⟨hc.1, h9.1⟩, fun z => absurd hby z⟩⟩⟩⟩, h9.2⟩
      · rw [if_neg hby]
        have hgr : ¬ gr (hnd A b n i) 2 i 2 = some b := fun z => hby (by rw [q3, z]; exact num_s h.w (by rw [hg7]; exact hb))
        have hs : Rq T (hnd A b n (i + 1)) r (B + (i + 1)) := by rw [e8, if_neg hgr]; exact h.up (by omega)
        have h9 := ih (i + 1) r B (by omega) hB hs
        exact ⟨⟨fun z => absurd z c1, fun _ => ⟨fun z => absurd z c2, fun _ => ⟨hx, fun z => absurd z ht, fun _ => ⟨fun z => absurd z hby, fun _ => h9.1⟩⟩⟩⟩, h9.2⟩
end SIM5
