section SIM25
variable {T : Int32}
theorem sim_scr {C : mM} {r : rR} {B : Nat} (h : Rq T C r B) {p : Nat} (hp : p < nRg C) {k : Nat} (hk : k < 4) : Rq T (si C 5 (rgx C p) 1 (nI k)) (ru r 33 p (nI k)) B := by
  refine (Rq.mk h.th (si51_w h.w _ _) (si51_o h.o _ hk) h.d h.sc h.ne h.nw h.wk h.ca h.nr (fun i hi => ?_) h.rl (fun i hi => ?_) h.cl h.cq h.fz h.nj h.jb h.tr)
  · obtain ⟨h1, h2, h3, h4, h5, h6⟩ := h.rg i hi
    have hx : rgx (si C 5 (rgx C p) 1 (nI k)) i = rgx C i := rfl
    refine ⟨?_, ?_, h3, h4, h5, ?_⟩
    · rw [hx, gi_si, if_neg (by omega)]; exact h1
    · rw [hx, gi_si]; unfold ru
      by_cases hi2 : i = p
      · subst hi2; rw [if_pos ⟨rfl, rfl⟩, if_pos ⟨rfl, rfl, rfl⟩]
      · have hne : ¬ rgx C i = rgx C p := fun z => hi2 (h.d.2 i p hi hp z)
        rw [if_neg (by omega), if_neg (fun z => hne z.2.1)]; exact h2
    · rw [hx, gi_si, if_neg (by omega)]; exact h6
  · obtain ⟨h1, h2⟩ := h.rp i hi
    have hx : rgx (si C 5 (rgx C p) 1 (nI k)) i = rgx C i := rfl
    rw [hx, gi_si, if_neg (by omega), gi_si, if_neg (by omega)]
    exact ⟨h1, h2⟩
def arR (r : rR) (n k : Nat) (x : Int32) : rR := ru (ru (ru (ru (ru (ru (ru r 18 29 (nI (n + 1))) 32 n x) 34 n 0) 35 n 0) 36 n 0) 37 n 0) 33 n (nI k)
theorem rr1_5 (C : mM) (x s : Int32) (i j : Nat) : gi (rr1 (arM C x) (gn C 5) s) 5 i j = if i = gn C 5 then (if j = 1 then s else if j = 5 then 0 else gi (arM C x) 5 i j) else gi C 5 i j := by
  unfold rr1 rr0
  rw [gi_si, gi_si]
  by_cases hi : i = gn C 5
  · rw [if_pos hi]
    by_cases h1 : j = 1
    · rw [if_pos ⟨rfl, hi, h1⟩, if_pos h1]
    · rw [if_neg (fun z => h1 z.2.2), if_neg h1]
      by_cases h2 : j = 5
      · rw [if_pos ⟨rfl, hi, h2⟩, if_pos h2]
      · rw [if_neg (fun z => h2 z.2.2), if_neg h2]
  · rw [if_neg hi, if_neg (fun z => hi z.2.1), if_neg (fun z => hi z.2.1)]
    exact arM_gi C x (fun z => hi z.2) (by omega)
theorem rr1_r (C : mM) (x s : Int32) (i j : Nat) : gr (rr1 (arM C x) (gn C 5) s) 5 i j = if i = gn C 5 then gr (arM C x) 5 i j else gr C 5 i j := by
  show gr (arM C x) 5 i j = _
  by_cases hi : i = gn C 5
  · rw [if_pos hi]
  · rw [if_neg hi]; exact arM_gr C x (fun z => hi z.2) (by omega)
theorem sim_ar {C : mM} {r : rR} {B : Nat} (h : Rq T C r B) (h5 : nRg C < 5) {x : Int32} (hx : isP x = true) {k : Nat} (hk : k < 4) : Rq T (rr1 (arM C x) (gn C 5) (nI k)) (arR r (nRg C) k x) B := by
  have kp0 := rr0_kp (arM C x) (gn C 5)
  have fw : wK (rr1 (arM C x) (gn C 5) (nI k)) := si51_w (kp_w kp0 (arM_w h.w x h5)) _ _
  have fo : wO (rr1 (arM C x) (gn C 5) (nI k)) := si51_o (kq_o (kp_q kp0) (arM_o h.o x)) _ hk
  have fd : wD (rr1 (arM C x) (gn C 5) (nI k)) := (show wD (rr0 (arM C x) (gn C 5)) from kp_D kp0 (arM_D h.w h.d x h5))
  have en : nRg (rr1 (arM C x) (gn C 5) (nI k)) = nRg C + 1 := arM_n h.w x h5
  have ex : ∀ i, rgx (rr1 (arM C x) (gn C 5) (nI k)) i = if i = nRg C then gn C 5 else rgx C i := fun i => arM_x x i
  obtain ⟨a0, a1, a5, a2, a3, a4⟩ := arM_new C x
  have old : ∀ i, i < nRg C → ¬ rgx C i = gn C 5 := fun i hi z => by have := h.d.1 i hi; omega
  have hnum : ∀ q, num (rr1 (arM C x) (gn C 5) (nI k)) q = num C q := fun q => by
    cases q with
    | none => rfl
    | some i => rfl
  have hR : ∀ a b, ¬ (a = 18 ∧ b = 29) → ¬ ((32 ≤ a ∧ a ≤ 37) ∧ b = nRg C) → arR r (nRg C) k x a b = r a b := by
    intro a b c1 c2
    unfold arR
    rw [ru_n _ _ (by omega), ru_n _ _ (by omega), ru_n _ _ (by omega), ru_n _ _ (by omega), ru_n _ _ (by omega), ru_n _ _ (by omega), ru_n _ _ (by omega)]
  refine (Rq.mk h.th (fw) (fo) (fd) h.sc h.ne h.nw h.wk h.ca ?_ (fun i hi => ?_) (fun i hi => ?_) (fun i hi => ?_) h.cl h.cq h.fz h.nj h.jb h.tr)
  · rw [en]; rfl
  · rw [en] at hi
    rw [ex]
    by_cases hin : i = nRg C
    · rw [if_pos hin]
      subst hin
      rw [rr1_5, rr1_5, rr1_5, rr1_r, rr1_r, rr1_r]
      rw [if_pos rfl, if_pos rfl, if_pos rfl, if_pos rfl, if_pos rfl, if_pos rfl, a0, a2, a3, a4]
      unfold arR ru
      simp
      exact rfl
    · have hil : i < nRg C := by omega
      obtain ⟨g0, g1, g2, g3, g4, g5⟩ := h.rg i hil
      rw [if_neg hin, rr1_5, rr1_5, rr1_5, rr1_r, rr1_r, rr1_r, if_neg (old i hil), if_neg (old i hil), if_neg (old i hil), if_neg (old i hil), if_neg (old i hil), if_neg (old i hil), hnum, hnum, hnum, hR 32 i (by omega) (by omega), hR 33 i (by omega) (by omega), hR 34 i (by omega) (by omega), hR 35 i (by omega) (by omega), hR 36 i (by omega) (by omega), hR 37 i (by omega) (by omega)]
      exact ⟨g0, g1, g2, g3, g4, g5⟩
  · rw [en] at hi
    rw [ex]
    by_cases hin : i = nRg C
    · rw [if_pos hin, rr1_r, rr1_r, rr1_r, if_pos rfl, if_pos rfl, if_pos rfl, a2, a3, a4]
      exact ⟨fun _ z => (by cases z), fun _ z => (by cases z), fun _ z => (by cases z)⟩
    · have hil : i < nRg C := by omega
      rw [if_neg hin, rr1_r, rr1_r, rr1_r, if_neg (old i hil), if_neg (old i hil), if_neg (old i hil)]
      exact h.rl i hil
  · rw [en] at hi
    rw [ex]
    by_cases hin : i = nRg C
    · rw [if_pos hin, rr1_5, rr1_5, if_pos rfl, if_pos rfl, if_neg (by omega), if_neg (by omega), if_neg (by omega), if_pos rfl, a0]
      exact ⟨hx, Or.inl rfl⟩
    · have hil : i < nRg C := by omega
      rw [if_neg hin, rr1_5, rr1_5, if_neg (old i hil), if_neg (old i hil)]
      exact h.rp i hil
theorem ar_kk {C : mM} (hw : wK C) (hd : wD C) (h5 : nRg C < 5) {x : Int32} (hf : fdP C x = none) (s : Int32) : kk C (rr1 (arM C x) (gn C 5) s) := by
  have en : nRg (rr1 (arM C x) (gn C 5) s) = nRg C + 1 := arM_n hw x h5
  have ex : ∀ i, rgx (rr1 (arM C x) (gn C 5) s) i = if i = nRg C then gn C 5 else rgx C i := fun i => arM_x x i
  obtain ⟨a0, a1, a5, a2, a3, a4⟩ := arM_new C x
  have old : ∀ i, i < nRg C → ¬ rgx C i = gn C 5 := fun i hi z => by have := hd.1 i hi; omega
  have hnx : ∀ i, i < nRg C → ¬ gi C 5 (rgx C i) 0 = x := fun i hi z => by
    have := ff_none hf i (by omega) (by omega)
    simp [z] at this
  have s0 : ∀ i, i < nRg C + 1 → gi (rr1 (arM C x) (gn C 5) s) 5 (rgx (rr1 (arM C x) (gn C 5) s) i) 0 = if i = nRg C then x else gi C 5 (rgx C i) 0 := by
    intro i hi
    rw [ex]
    by_cases hin : i = nRg C
    · rw [if_pos hin, if_pos hin, rr1_5, if_pos rfl, if_neg (by omega), if_neg (by omega), a0]
    · rw [if_neg hin, if_neg hin, rr1_5, if_neg (old i (by omega))]
  refine ⟨fun hU q hq => ?_, fun hS i j hi hj => ?_, fun y ⟨i, h1, h2, h3⟩ => ⟨i, by rw [en]; omega, ?_, ?_⟩, rfl, fun _ _ => rfl⟩
  · rw [en] at hq
    rw [ex]
    by_cases hqn : q = nRg C
    · rw [if_pos hqn, rr1_r, rr1_r, rr1_r, if_pos rfl, if_pos rfl, if_pos rfl, a2, a3, a4]
      exact ⟨Or.inl rfl, Or.inl rfl, Or.inl rfl⟩
    · have hql : q < nRg C := by omega
      rw [if_neg hqn, rr1_r, rr1_r, rr1_r, if_neg (old q hql), if_neg (old q hql), if_neg (old q hql)]
      exact hU q hql
  · rw [en] at hi hj
    rw [s0 i hi, s0 j hj]
    intro z
    by_cases h1 : i = nRg C <;> by_cases h2 : j = nRg C
    · omega
    · rw [if_pos h1, if_neg h2] at z; exact absurd z.symm (hnx j (by omega))
    · rw [if_neg h1, if_pos h2] at z; exact absurd z (hnx i (by omega))
    · rw [if_neg h1, if_neg h2] at z; exact hS i j (by omega) (by omega) z
  · rw [s0 i (by omega), if_neg (by omega)]; exact h2
  · rw [ex, if_neg (by omega), rr1_r, if_neg (old i h1)]; exact h3
end SIM25
