/-- registrations by their places: live, apart -/
def wD (M : mM) : Prop := (∀ i, i < nRg M → rgx M i < gn M 5) ∧ ∀ i j, i < nRg M → j < nRg M → rgx M i = rgx M j → i = j
theorem kp_nRg {M M' : mM} (h : kp M M') : nRg M' = nRg M := by unfold nRg; rw [h.2.2.2.1.2.1]
theorem kp_rgx {M M' : mM} (h : kp M M') (i : Nat) : rgx M' i = rgx M i := by unfold rgx; rw [h.2.1 10 i (by omega)]
theorem kp_D {M M' : mM} (h : kp M M') (hd : wD M) : wD M' := by
  refine ⟨fun i hi => ?_, fun i j hi hj => ?_⟩
  · rw [kp_nRg h] at hi; rw [kp_rgx h, h.1]; exact hd.1 i hi
  · rw [kp_nRg h] at hi hj; rw [kp_rgx h, kp_rgx h]; exact hd.2 i j hi hj
theorem rmL_at {M : mM} (hw : wK M) (hd : wD M) {p : Nat} (hp : p < nRg M) : ∀ i, i ≤ nRg M → (rmL M (rgx M p) i).2 = (if i ≤ p then i else i - 1) ∧ ∀ j, j < (if i ≤ p then i else i - 1) → gr (rmL M (rgx M p) i).1 10 0 j = gr M 10 0 (if j < p then j else j + 1) := by
  intro i
  induction i with
  | zero => intro _; exact ⟨by rw [if_pos (Nat.zero_le _)]; rfl, fun j hj => by rw [if_pos (Nat.zero_le _)] at hj; omega⟩
  | succ i ih =>
    intro hi
    obtain ⟨h1, h2⟩ := ih (by omega)
    have e := (rmL_all M (rgx M p) i).2.1 i (Nat.le_refl _)
    rw [w_rg hw (by omega)] at e
    by_cases hip : i = p
    · subst hip
      have h3 : gr (rmL M (rgx M i) i).1 10 0 i = some (rgx M i) := e
      rw [rmL_t h3, h1, if_pos (Nat.le_refl _), if_neg (by omega)]
      refine ⟨by omega, fun j hj => ?_⟩
      exact h2 j (by rw [if_pos (Nat.le_refl _)]; omega)
    · have h3 : ¬ gr (rmL M (rgx M p) i).1 10 0 i = some (rgx M p) := by
        rw [e]; intro z; exact hip (hd.2 i p (by omega) hp (Option.some.inj z))
      rw [rmL_f h3]
      have h1' := h1
      by_cases hle : i + 1 ≤ p
      · rw [if_pos hle]
        rw [if_pos (by omega)] at h1' h2
        refine ⟨by show (rmL M (rgx M p) i).2 + 1 = _; omega, fun j hj => ?_⟩
        show gr (sr _ 10 0 _ _) 10 0 j = _
        rw [gr_sr, h1']
        by_cases hj2 : j = i
        · subst hj2; rw [if_pos ⟨rfl, rfl, rfl⟩, if_pos (by omega), e, w_rg hw (by omega)]
        · rw [if_neg (by omega)]; exact h2 j (by omega)
      · rw [if_neg hle]
        rw [if_neg (by omega)] at h1' h2
        refine ⟨by show (rmL M (rgx M p) i).2 + 1 = _; omega, fun j hj => ?_⟩
        show gr (sr _ 10 0 _ _) 10 0 j = _
        rw [gr_sr, h1']
        by_cases hj2 : j = i - 1
        · subst hj2
          have e9 : i - 1 + 1 = i := by omega
          rw [if_pos ⟨rfl, rfl, rfl⟩, if_neg (by omega), e9, e, w_rg hw (by omega)]
        · rw [if_neg (by omega)]; exact h2 j (by omega)
theorem rmM_n {M : mM} (hw : wK M) (hd : wD M) {p : Nat} (hp : p < nRg M) : nRg (rmM M (rgx M p)) = nRg M - 1 := by
  have h := (rmL_at hw hd hp (nRg M) (Nat.le_refl _)).1
  rw [if_neg (by omega)] at h
  have := w_nrl hw
  show (nI (rmL M (rgx M p) (nRg M)).2).toNatClampNeg = _
  rw [h]; exact nI_clamp (by omega)
theorem rmM_x {M : mM} (hw : wK M) (hd : wD M) {p : Nat} (hp : p < nRg M) {j : Nat} (hj : j < nRg M - 1) : rgx (rmM M (rgx M p)) j = rgx M (if j < p then j else j + 1) := by
  have h := (rmL_at hw hd hp (nRg M) (Nat.le_refl _)).2 j (by rw [if_neg (by omega)]; exact hj)
  show (gr (rmL M (rgx M p) (nRg M)).1 10 0 j).getD 0 = _
  rw [h]; rfl
theorem rmM_gi (M : mM) (g k a b : Nat) (h : k ≠ 0) : gi (rmM M g) k a b = gi M k a b := by
  show gi (si (rmL M g (nRg M)).1 0 0 6 (nI (rmL M g (nRg M)).2)) k a b = _
  rw [gi_si, if_neg (by omega)]; exact (rmL_all M g (nRg M)).2.2.2.1 k a b
theorem rmM_g0 (M : mM) (g b : Nat) (h : b ≠ 6) : gi (rmM M g) 0 0 b = gi M 0 0 b := by
  show gi (si (rmL M g (nRg M)).1 0 0 6 (nI (rmL M g (nRg M)).2)) 0 0 b = _
  rw [gi_si, if_neg (by omega)]; exact (rmL_all M g (nRg M)).2.2.2.1 0 0 b
theorem rmM_gr (M : mM) (g k a b : Nat) (h : k ≠ 10) : gr (rmM M g) k a b = gr M k a b := (rmL_all M g (nRg M)).2.2.1 k a b h
theorem rmM_D {M : mM} (hw : wK M) (hd : wD M) {p : Nat} (hp : p < nRg M) : wD (rmM M (rgx M p)) := by
  have hn := rmM_n hw hd hp
  refine ⟨fun i hi => ?_, fun i j hi hj => ?_⟩
  · rw [hn] at hi; rw [rmM_x hw hd hp hi, rmM_gn]; exact hd.1 _ (by split <;> omega)
  · rw [hn] at hi hj; rw [rmM_x hw hd hp hi, rmM_x hw hd hp hj]
    intro z
    have := hd.2 _ _ (by split <;> omega) (by split <;> omega) z
    by_cases h1 : i < p <;> by_cases h2 : j < p <;> simp [h1, h2] at this <;> omega
theorem arM_n {M : mM} (hw : wK M) (x : Int32) (h : nRg M < 5) : nRg (arM M x) = nRg M + 1 := by
  show (nI (nRg M + 1)).toNatClampNeg = _; exact nI_clamp (by omega)
theorem arM_x {M : mM} (x : Int32) (i : Nat) : rgx (arM M x) i = if i = nRg M then gn M 5 else rgx M i := by
  have e : gr (arM M x) 10 0 i = if i = nRg M then some (gn M 5) else gr M 10 0 i := by
    show gr (sr (rgN M x) 10 0 (nRg M) (some (gn M 5))) 10 0 i = _
    rw [gr_sr]
    by_cases h : i = nRg M
    · rw [if_pos ⟨rfl, rfl, h⟩, if_pos h]
    · rw [if_neg (fun z => h z.2.2), if_neg h]
      unfold rgN rgI
      simp only [gr_si, gr_sr, gr_sn]
      rw [if_neg (by omega), if_neg (by omega), if_neg (by omega), if_neg (by omega)]
  unfold rgx; rw [e]; split <;> rfl
theorem arM_5 (M : mM) (x : Int32) : gn (arM M x) 5 = gn M 5 + 1 := by show gn (sn M 5) 5 = _; rw [gn_sn, if_pos rfl]
theorem arM_D {M : mM} (hw : wK M) (hd : wD M) (x : Int32) (h : nRg M < 5) : wD (arM M x) := by
  have hn := arM_n hw x h
  refine ⟨fun i hi => ?_, fun i j hi hj => ?_⟩
  · rw [hn] at hi; rw [arM_x, arM_5]
    split
    · omega
    · have := hd.1 i (by omega); omega
  · rw [hn] at hi hj; rw [arM_x, arM_x]
    intro z
    by_cases h1 : i = nRg M <;> by_cases h2 : j = nRg M
    · omega
    · rw [if_pos h1, if_neg h2] at z; have := hd.1 j (by omega); omega
    · rw [if_neg h1, if_pos h2] at z; have := hd.1 i (by omega); omega
    · rw [if_neg h1, if_neg h2] at z; exact hd.2 i j (by omega) (by omega) z
