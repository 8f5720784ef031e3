section SIM22
variable {T : Int32}
theorem num_b {C D : mM} (h : ∀ i, i < gn C 7 → gi D 7 i 0 = gi C 7 i 0) {q : Option Nat} (hq : ∀ z, q = some z → z < gn C 7) : num D q = num C q := by
  cases q with
  | none => rfl
  | some i => exact h i (hq i rfl)
def insR (r : rR) (n p k : Nat) : rR := ru (ru (ru (ru (ru (ru (ru (ru r 18 30 (nI (n + 1))) 23 (n + 1) (nI k)) 25 (n + 1) (r 19 k)) 26 (n + 1) (r 21 k)) 27 (n + 1) (r 22 k)) 28 (n + 1) 0) 31 (n + 1) 0) 34 p (nI (n + 1))
theorem sim_bi0 {C : mM} {r : rR} {B : Nat} (h : Rq T C r B) (h40 : gn C 7 < 40) {p : Nat} (hp : p < nRg C) {k : Nat} (hk : k < 4) : Rq T (si (bi0 C (rgx C p) k) 7 (gn C 7) 5 1) (ru (insR r (gn C 7) p k) 24 (gn C 7 + 1) 1) B := by
  have kpD : kp (bi0 C (rgx C p) k) (si (bi0 C (rgx C p) k) 7 (gn C 7) 5 1) := kp_si _ _ _ _ _ (by omega)
  have fw := kp_w kpD (bi0_w h.w h.o (rgx C p) k h40)
  have fo := kq_o (kp_q kpD) (bi0_o h.o (rgx C p) k)
  have hO := h.o.1
  obtain ⟨b0, b1, b2, b3, b5, b6, b7, b8⟩ := bi0_new C (rgx C p) k
  have g7 : gn (si (bi0 C (rgx C p) k) 7 (gn C 7) 5 1) 7 = gn C 7 + 1 := by show gn (bi0 C (rgx C p) k) 7 = _; rw [bi0_gn, if_pos (Or.inl rfl)]
  have hold : ∀ i j, i < gn C 7 → gi (si (bi0 C (rgx C p) k) 7 (gn C 7) 5 1) 7 i j = gi C 7 i j := fun i j hi => by
    rw [gi_si, if_neg (by omega), bi0_gi C (rgx C p) k (by omega) (by omega)]
  have h6 : ∀ i j, i < gn C 7 → gi (si (bi0 C (rgx C p) k) 7 (gn C 7) 5 1) 6 i j = gi C 6 i j := fun i j hi => by
    rw [gi_si, if_neg (by omega), bi0_gi C (rgx C p) k (by omega) (by omega)]
  have h15 : ∀ i j, i < gn C 7 → gi (si (bi0 C (rgx C p) k) 7 (gn C 7) 5 1) 15 i j = gi C 15 i j := fun i j hi => by
    rw [gi_si, if_neg (by omega), bi0_gi C (rgx C p) k (by omega) (by omega)]
  have h16 : ∀ i j, i < gn C 7 → gi (si (bi0 C (rgx C p) k) 7 (gn C 7) 5 1) 16 i j = gi C 16 i j := fun i j hi => by
    rw [gi_si, if_neg (by omega), bi0_gi C (rgx C p) k (by omega) (by omega)]
  have hnum : ∀ q, (∀ z, q = some z → z < gn C 7) → num (si (bi0 C (rgx C p) k) 7 (gn C 7) 5 1) q = num C q := fun q hq => num_b (fun i hi => hold i 0 hi) hq
  have hgr : ∀ i j, gr (si (bi0 C (rgx C p) k) 7 (gn C 7) 5 1) 5 i j = if i = rgx C p ∧ j = 2 then some (gn C 7) else gr C 5 i j := fun i j => by
    show gr (bi0 C (rgx C p) k) 5 i j = _
    by_cases hc : i = rgx C p ∧ j = 2
    · rw [if_pos hc, hc.1, hc.2]
      show gr (sr _ 5 (rgx C p) 2 (some (gn C 7))) 5 (rgx C p) 2 = _
      rw [gr_sr, if_pos ⟨rfl, rfl, rfl⟩]
    · rw [if_neg hc, bi0_gr C (rgx C p) k (by omega) (by omega) (fun z => hc z.2)]
  have en : num (si (bi0 C (rgx C p) k) 7 (gn C 7) 5 1) (some (gn C 7)) = nI (gn C 7 + 1) := by
    show gi (si (bi0 C (rgx C p) k) 7 (gn C 7) 5 1) 7 (gn C 7) 0 = _
    rw [gi_si, if_neg (by omega), b0, w_nw h.w, nI_1]
  obtain ⟨s1, s2, s3, s4, s5, s6⟩ := h.sc k hk
  have hR : ∀ a b, ¬ (a = 18 ∧ b = 30) → ¬ ((a = 23 ∨ a = 24 ∨ a = 25 ∨ a = 26 ∨ a = 27 ∨ a = 28 ∨ a = 31) ∧ b = gn C 7 + 1) → ¬ (a = 34 ∧ b = p) → ru (insR r (gn C 7) p k) 24 (gn C 7 + 1) 1 a b = r a b := by
    intro a b c1 c2 c3
    unfold insR
    rw [ru_n _ _ (by omega), ru_n _ _ (by omega), ru_n _ _ (by omega), ru_n _ _ (by omega), ru_n _ _ (by omega), ru_n _ _ (by omega), ru_n _ _ (by omega), ru_n _ _ (by omega), ru_n _ _ (by omega)]
  refine (Rq.mk h.th (fw) (fo) h.d h.sc h.ne ?_ (fun i hi => ?_) (fun i hi j hj => ?_) h.nr (fun i hi => ?_) (fun i hi => ?_) h.rp (fun i hi => ?_) (fun i hi => ?_) (fun i hi => ?_) h.nj h.jb h.tr)
  · rw [g7]; rfl
  · rw [g7] at hi
    by_cases hin : i = gn C 7
    · subst hin
      have e6 : gi (si (bi0 C (rgx C p) k) 7 (gn C 7) 5 1) 6 (gn C 7) 2 = 0 := by
        rw [gi_si, if_neg (by omega)]
        have := b8
        rw [hO.1] at this
        exact this.2.2
      have f5 : gi (si (bi0 C (rgx C p) k) 7 (gn C 7) 5 1) 7 (gn C 7) 5 = 1 := by rw [gi_si, if_pos ⟨rfl, rfl, rfl⟩]
      have f1 : gi (si (bi0 C (rgx C p) k) 7 (gn C 7) 5 1) 7 (gn C 7) 1 = r 19 k := by rw [gi_si, if_neg (by omega), b1, s1]
      have f2 : gi (si (bi0 C (rgx C p) k) 7 (gn C 7) 5 1) 7 (gn C 7) 2 = r 21 k := by rw [gi_si, if_neg (by omega), b2, s3]
      have f3 : gi (si (bi0 C (rgx C p) k) 7 (gn C 7) 5 1) 7 (gn C 7) 3 = r 22 k := by rw [gi_si, if_neg (by omega), b3, s4]
      have f6 : gi (si (bi0 C (rgx C p) k) 7 (gn C 7) 5 1) 7 (gn C 7) 6 = 0 := by rw [gi_si, if_neg (by omega), b6]
      rw [e6, f5, f1, f2, f3, f6]
      unfold insR ru
      simp
      rw [s4]; exact s6
    · have hil : i < gn C 7 := by omega
      obtain ⟨k1, k2, k3, k4, k5, k6, k7, k8⟩ := h.wk i hil
      rw [hold i 5 hil, hold i 1 hil, hold i 2 hil, hold i 3 hil, hold i 6 hil, h6 i 2 hil, hR _ _ (by omega) (by omega) (by omega), hR _ _ (by omega) (by omega) (by omega), hR _ _ (by omega) (by omega) (by omega), hR _ _ (by omega) (by omega) (by omega), hR _ _ (by omega) (by omega) (by omega), hR _ _ (by omega) (by omega) (by omega)]
      exact ⟨k1, k2, k3, k4, k5, k6, k7, k8⟩
  · rw [g7] at hi
    by_cases hin : i = gn C 7
    · subst hin
      have e6 : gi (si (bi0 C (rgx C p) k) 7 (gn C 7) 5 1) 6 (gn C 7) 2 = 0 := by
        rw [gi_si, if_neg (by omega)]
        have := b8
        rw [hO.1] at this
        exact this.2.2
      unfold csz at hj
      rw [e6] at hj
      exact absurd hj (by decide +revert)
    · have hil : i < gn C 7 := by omega
      unfold csz at hj
      rw [h6 i 2 hil] at hj
      rw [h15 i j hil, h16 i j hil, hR _ _ (by omega) (by omega) (by omega), hR _ _ (by omega) (by omega) (by omega)]
      exact h.ca i hil j hj
  · have hi : i < nRg C := hi
    have hx : rgx (si (bi0 C (rgx C p) k) 7 (gn C 7) 5 1) i = rgx C i := rfl
    obtain ⟨g0, g1, g2, g3, g4, g5⟩ := h.rg i hi
    obtain ⟨l2, l3, l4⟩ := h.rl i hi
    have g3' : gr (si (bi0 C (rgx C p) k) 7 (gn C 7) 5 1) 5 (rgx C i) 3 = gr C 5 (rgx C i) 3 := by rw [hgr, if_neg (by omega)]
    have g4' : gr (si (bi0 C (rgx C p) k) 7 (gn C 7) 5 1) 5 (rgx C i) 4 = gr C 5 (rgx C i) 4 := by rw [hgr, if_neg (by omega)]
    rw [hx, g3', g4', hgr, hnum _ l3, hnum _ l4, hR 32 i (by omega) (by omega) (by omega), hR 33 i (by omega) (by omega) (by omega), hR 35 i (by omega) (by omega) (by omega), hR 36 i (by omega) (by omega) (by omega), hR 37 i (by omega) (by omega) (by omega)]
    refine ⟨g0, g1, ?_, g3, g4, g5⟩
    by_cases hip : i = p
    · subst hip
      rw [if_pos ⟨rfl, rfl⟩, en]
      unfold insR
      rw [ru_n _ _ (by omega), ru_s]
    · rw [if_neg (fun z => hip (h.d.2 i p hi hp z.1)), hnum _ l2, hR 34 i (by omega) (by omega) (by omega)]; exact g2
  · have hi : i < nRg C := hi
    have hx : rgx (si (bi0 C (rgx C p) k) 7 (gn C 7) 5 1) i = rgx C i := rfl
    obtain ⟨l2, l3, l4⟩ := h.rl i hi
    have g3' : gr (si (bi0 C (rgx C p) k) 7 (gn C 7) 5 1) 5 (rgx C i) 3 = gr C 5 (rgx C i) 3 := by rw [hgr, if_neg (by omega)]
    have g4' : gr (si (bi0 C (rgx C p) k) 7 (gn C 7) 5 1) 5 (rgx C i) 4 = gr C 5 (rgx C i) 4 := by rw [hgr, if_neg (by omega)]
    rw [hx, g3', g4', hgr, g7]
    refine ⟨fun q hq => ?_, fun q hq => by have := l3 q hq; omega, fun q hq => by have := l4 q hq; omega⟩
    by_cases hc : rgx C i = rgx C p ∧ 2 = 2
    · rw [if_pos hc] at hq; cases hq; omega
    · rw [if_neg hc] at hq; have := l2 q hq; omega
  · obtain ⟨c1, c2, c3⟩ := h.cl i hi
    have e : gr (si (bi0 C (rgx C p) k) 7 (gn C 7) 5 1) 2 i 2 = gr C 2 i 2 := rfl
    rw [e, hnum _ (h.cq i hi).2.2.2]
    exact ⟨c1, c2, c3⟩
  · obtain ⟨q1, q2, q3, q4⟩ := h.cq i hi
    rw [g7]
    exact ⟨q1, q2, q3, fun q hq => by have := q4 q hq; omega⟩
  · obtain ⟨f1, f2⟩ := h.fz i hi
    have e : gr (si (bi0 C (rgx C p) k) 7 (gn C 7) 5 1) 12 0 i = gr C 12 0 i := rfl
    rw [e, hnum _ f2, g7]
    exact ⟨f1, fun q hq => by have := f2 q hq; omega⟩
theorem sim_install {C : mM} {r : rR} {B : Nat} (h : Rq T C r B) (hB : B < 1000000) (h40 : gn C 7 < 40) {p : Nat} (hp : p < nRg C) {k : Nat} (hk : k < 4) : m_install_ok r (nI p) (nI k) ∧ Rq T (biM C (rgx C p) k) (m_install r (nI p) (nI k)) (B + 1) := by
  have hN := w_nrl h.w
  have e1 : r 18 30 + 1 = nI (gn C 7 + 1) := by rw [h.nw, nI_1]
  have e2 : (nI (gn C 7 + 1)).toNatClampNeg = gn C 7 + 1 := nI_clamp (by omega)
  have e3 : (nI k).toNatClampNeg = k := nI_clamp (by omega)
  have e4 : (nI p).toNatClampNeg = p := nI_clamp (by omega)
  obtain ⟨b0, -⟩ := bi0_new C (rgx C p) k
  have hs := sim_write (sim_bi0 h h40 hp hk) hB (8 * nI (gn C 7 + 1) + 1)
  have hc : m_come_ok (insR r (gn C 7) p k) (nI (gn C 7 + 1)) 1 ∧ m_come (insR r (gn C 7) p k) (nI (gn C 7 + 1)) 1 = m_write (ru (insR r (gn C 7) p k) 24 (gn C 7 + 1) 1) (8 * nI (gn C 7 + 1) + 1) := by
    unfold m_come_ok m_come
    rw [e2]
    exact ⟨⟨ixk_n (by omega) (by omega), hs.1⟩, rfl⟩
  unfold m_install_ok m_install
  rw [e1, e2, e3, e4]
  refine ⟨⟨ixk_n (by omega) (by omega), ixk_n (by omega) (by omega), ixk_n (by omega) (by omega), hc.1⟩, ?_⟩
  have hc2 : m_come (ru (ru (ru (ru (ru (ru (ru (ru r 18 30 (nI (gn C 7 + 1))) 23 (gn C 7 + 1) (nI k)) 25 (gn C 7 + 1) (r 19 k)) 26 (gn C 7 + 1) (r 21 k)) 27 (gn C 7 + 1) (r 22 k)) 28 (gn C 7 + 1) 0) 31 (gn C 7 + 1) 0) 34 p (nI (gn C 7 + 1))) (nI (gn C 7 + 1)) 1 = _ := hc.2
  rw [hc2]
  show Rq T (trA (si (bi0 C (rgx C p) k) 7 (gn C 7) 5 1) (8 * gi (bi0 C (rgx C p) k) 7 (gn C 7) 0 + 1)) _ _
  rw [b0, w_nw h.w, nI_1]
  exact hs.2
end SIM22
