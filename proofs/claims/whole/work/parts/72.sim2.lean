section SIM2
variable {T : Int32}
theorem kp_num {M M' : mM} (h : kp M M') (q : Option Nat) : num M' q = num M q := by
  cases q with
  | none => rfl
  | some i => exact (h.2.2.2.2.1 i).1
theorem sim_st {C : mM} {r : rR} {B : Nat} (h : Rq T C r B) {w : Nat} (hw : w < gn C 7) (x : Int32) : Rq T (si C 7 w 5 x) (ru r 24 (w + 1) x) B := by
  have hk : kp C (si C 7 w 5 x) := kp_si _ _ _ _ _ (by omega)
  have e := kp_num hk
  refine (Rq.mk h.th (kp_w hk h.w) (kq_o (kp_q hk) h.o) (kp_D hk h.d) h.sc h.ne h.nw (fun i hi => ?_) h.ca h.nr (fun i hi => ?_) h.rl h.rp (fun i hi => ?_) h.cq (fun i hi => ?_) h.nj h.jb h.tr)
  · obtain ⟨h1, h2, h3, h4, h5, h6, h7, h8⟩ := h.wk i hi
    refine ⟨?_, ?_, ?_, ?_, h5, ?_, ?_, ?_⟩
    · rw [gi_si]; unfold ru
      by_cases hi2 : i = w
      · rw [if_pos ⟨rfl, by omega⟩, if_pos ⟨rfl, hi2, rfl⟩]
      · rw [if_neg (by omega), if_neg (by omega)]; exact h1
    all_goals (rw [gi_si, if_neg (by omega)]; assumption)
  · simp only [e]; exact h.rg i hi
  · simp only [e]; exact h.cl i hi
  · simp only [e]; exact h.fz i hi
theorem sim_come {C : mM} {r : rR} {B : Nat} (h : Rq T C r B) (hB : B < 1000000) {w : Nat} (hw : w < gn C 7) (x : Int32) : m_come_ok r (nI (w + 1)) x ∧ Rq T (brM C (some w) x) (m_come r (nI (w + 1)) x) (B + 1) := by
  have hN := w_nwl h.w
  have e : (nI (w + 1)).toNatClampNeg = w + 1 := nI_clamp (by omega)
  have e2 : gi C 7 w 0 = nI (w + 1) := w_num h.w hw
  have := sim_write (sim_st h hw x) hB (8 * nI (w + 1) + x)
  unfold m_come_ok m_come
  rw [e]
  refine ⟨⟨ixk_n (by omega) (by omega), this.1⟩, ?_⟩
  show Rq T (trA (si C 7 w 5 x) (8 * gi C 7 w 0 + x)) _ _
  rw [e2]
  exact this.2
theorem sim_ct {C : mM} {r : rR} {B : Nat} (h : Rq T C r B) {i : Nat} (hi : i < 8) (q : Option Nat) (hq : ∀ z, q = some z → z < gn C 7) (ht : gi C 2 i 0 = 0 → q = none) : Rq T (sr C 2 i 2 q) (ru r 41 i (num C q)) B := by
  have hk : kp C (sr C 2 i 2 q) := kp_sr _ _ _ _ _ (by omega)
  refine (Rq.mk h.th (kp_w hk h.w) (kq_o (kp_q hk) h.o) (kp_D hk h.d) h.sc h.ne h.nw h.wk h.ca h.nr h.rg h.rl h.rp (fun j hj => ?_) (fun j hj => ?_) h.fz h.nj h.jb h.tr)
  · obtain ⟨h1, h2, h3⟩ := h.cl j hj
    refine ⟨h1, h2, ?_⟩
    rw [gr_sr]; unfold ru
    by_cases hj2 : j = i
    · rw [if_pos ⟨rfl, hj2⟩, if_pos ⟨rfl, hj2, rfl⟩]; rfl
    · rw [if_neg (by omega), if_neg (by omega)]; exact h3
  · obtain ⟨h1, h2, h3, h4⟩ := h.cq j hj
    refine ⟨h1, ?_, h3, ?_⟩
    · rw [gr_sr]
      by_cases hj2 : j = i
      · subst hj2; rw [if_pos ⟨rfl, rfl, rfl⟩]; exact ht
      · rw [if_neg (by omega)]; exact h2
    · rw [gr_sr]
      by_cases hj2 : j = i
      · subst hj2; rw [if_pos ⟨rfl, rfl, rfl⟩]; exact hq
      · rw [if_neg (by omega)]; exact h4
theorem sim_control {C : mM} {r : rR} {B : Nat} (h : Rq T C r B) (hB : B < 1000000) {i : Nat} (hi : i < 8) {n : Nat} (hn : n < gn C 7) (hne : gr C 2 i 2 ≠ some n) (ht : ¬ gi C 2 i 0 = 0) : m_control_ok r (nI i) (nI (n + 1)) ∧ Rq T (ctM C i (some n)) (m_control r (nI i) (nI (n + 1))) (B + 1) := by
  have hN := w_nwl h.w
  have e : (nI i).toNatClampNeg = i := nI_clamp (by omega)
  have e2 : num C (some n) = nI (n + 1) := num_s h.w hn
  have hby : ¬ r 41 i = nI (n + 1) := by
    rw [(h.cl i hi).2.2, ← e2]
    intro z
    exact hne (num_inj h.w (h.cq i hi).2.2.2 (fun q hq => by cases hq; exact hn) z)
  have h2 := sim_write (sim_ct h hi (some n) (fun z hz => by cases hz; exact hn) (fun z => absurd z ht)) hB (-(64 * nI i + nI (n + 1)) - 1)
  rw [e2] at h2
  unfold m_control_ok m_control
  rw [e, if_neg hby]
  have hx := ixk_n (n := i) (N := 8) hi (by omega)
  refine ⟨⟨hx, fun z => absurd z hby, fun _ => h2.1⟩, ?_⟩
  show Rq T (trA (sr C 2 i 2 (some n)) (-(64 * nI i + num C (some n)) - 1)) _ _
  rw [e2]
  exact h2.2
end SIM2
