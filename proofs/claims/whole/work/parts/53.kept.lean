/-- the same but for the ints of caches -/
def kc (M M' : mM) : Prop := (∀ a, gn M' a = gn M a) ∧ (∀ k i j, gr M' k i j = gr M k i j) ∧ ∀ k i j, k ≠ 6 → k ≠ 15 → k ≠ 16 → gi M' k i j = gi M k i j
theorem kc_tr {M M1 M2 : mM} (h : kc M M1) (g : kc M1 M2) : kc M M2 := ⟨fun a => (g.1 a).trans (h.1 a), fun k i j => (g.2.1 k i j).trans (h.2.1 k i j), fun k i j a b d => (g.2.2 k i j a b d).trans (h.2.2 k i j a b d)⟩
theorem kc_si (M : mM) (k i j : Nat) (x : Int32) (h : k = 6 ∨ k = 15 ∨ k = 16) : kc M (si M k i j x) := ⟨fun _ => rfl, fun _ _ _ => rfl, fun a b d h1 h2 h3 => by rw [gi_si, if_neg (by omega)]⟩
theorem kc_sh (M : mM) (u p q : Nat) : kc M (shM M u p q) := ⟨fun _ => rfl, fun _ _ _ => rfl, fun a b d h1 h2 h3 => by rw [gi_sh, if_neg (by omega)]⟩
theorem kep_kc (M : mM) (u : Nat) (x y : Int32) (z : Nat) : kc M (kepM M u x y z) := by
  unfold kepM drpM
  split
  · exact kc_tr (kc_tr (kc_tr (kc_tr (kc_sh _ _ _ _) (kc_si _ _ _ _ _ (by omega))) (kc_si _ _ _ _ _ (by omega))) (kc_si _ _ _ _ _ (by omega))) (kc_si _ _ _ _ _ (by omega))
  · split
    · exact kc_tr (kc_tr (kc_tr (kc_tr (kc_sh _ _ _ _) (kc_si _ _ _ _ _ (by omega))) (kc_si _ _ _ _ _ (by omega))) (kc_si _ _ _ _ _ (by omega))) (kc_si _ _ _ _ _ (by omega))
    · exact kc_tr (kc_tr (kc_si _ _ _ _ _ (by omega)) (kc_si _ _ _ _ _ (by omega))) (kc_si _ _ _ _ _ (by omega))
theorem kep_6 (M : mM) (u : Nat) (x y : Int32) {z : Nat} (hz : z ≤ 4) : (∃ v, v ≤ 4 ∧ gi (kepM M u x y z) 6 u 2 = nI v) ∧ ∀ i, i ≠ u → gi (kepM M u x y z) 6 i 2 = gi M 6 i 2 := by
  unfold kepM drpM
  split
  · refine ⟨⟨z, hz, by rw [gi_si, if_pos ⟨rfl, rfl, rfl⟩]⟩, fun i hi => ?_⟩
    rw [gi_si, if_neg (by omega), gi_si, if_neg (by omega), gi_si, if_neg (by omega), gi_si, if_neg (by omega), gi_sh, if_neg (by omega)]
  · split
    · refine ⟨⟨4, Nat.le_refl _, by rw [gi_si, if_pos ⟨rfl, rfl, rfl⟩]⟩, fun i hi => ?_⟩
      rw [gi_si, if_neg (by omega), gi_si, if_neg (by omega), gi_si, if_neg (by omega), gi_si, if_neg (by omega), gi_sh, if_neg (by omega)]
    · refine ⟨⟨z + 1, by omega, by rw [gi_si, if_pos ⟨rfl, rfl, rfl⟩]⟩, fun i hi => ?_⟩
      rw [gi_si, if_neg (by omega), gi_si, if_neg (by omega), gi_si, if_neg (by omega)]
theorem kc_w {M M' : mM} (h : kc M M') (hw : wK M) : wK M' := by
  obtain ⟨hn, hr, hi⟩ := h
  have e6 : nRg M' = nRg M := by unfold nRg; rw [hi _ _ _ (by decide) (by decide) (by decide)]
  have er : ∀ i, rgx M' i = rgx M i := fun i => by unfold rgx; rw [hr]
  refine ⟨⟨by rw [hn]; exact w_k hw, ?_, ?_, ?_, ?_, ?_, ?_, ?_, by rw [hr]; exact w_3_0 hw⟩, fun i hi => by rw [hr]; exact w_sc hw hi, fun i hi => by rw [hr]; exact w_cl hw hi, ⟨?_, ?_, ?_⟩, ⟨?_, ?_, ?_⟩, ?_, ?_, ?_⟩
  · rw [hr]; exact w_0_0 hw
  · rw [hr]; exact w_0_3 hw
  · rw [hr]; exact w_0_5 hw
  · rw [hr]; exact w_0_7 hw
  · rw [hr]; exact w_0_8 hw
  · rw [hr]; exact w_0_9 hw
  · rw [hr]; exact w_0_11 hw
  · rw [hi _ _ _ (by decide) (by decide) (by decide), hn]; exact w_nw hw
  · rw [hn]; exact w_nwl hw
  · intro i h7
    rw [hn] at h7
    rw [hr, hr, hr, hr, hi _ _ _ (by decide) (by decide) (by decide)]
    exact ⟨w_wk hw h7, w_num hw h7, w_7_4 hw h7, w_6_0 hw h7, w_6_1 hw h7⟩
  · rw [e6, hi _ _ _ (by decide) (by decide) (by decide)]; exact w_nr hw
  · rw [e6]; exact w_nrl hw
  · intro i h7
    rw [e6] at h7
    rw [er, hr]; exact w_rg hw h7
  · rw [hi _ _ _ (by decide) (by decide) (by decide), hn]; exact w_nj hw
  · rw [hn]; exact w_njl hw
  · intro i h7
    rw [hn] at h7
    rw [hr, hi _ _ _ (by decide) (by decide) (by decide)]
    exact ⟨w_jb hw h7, w_jn hw h7⟩
theorem kep_I {M : mM} (hI : wI M) (u : Nat) (x y : Int32) {z : Nat} (hz : z ≤ 4) : wI (kepM M u x y z) := by
  have h := kep_kc M u x y z
  have h6 := kep_6 M u x y hz
  obtain ⟨hw, ht, ho⟩ := hI
  obtain ⟨hn, hr, hi⟩ := h
  refine ⟨kc_w ⟨hn, hr, hi⟩ hw, kt_w (M := M) (hi _ _ _ (by decide) (by decide) (by decide)) ht, ⟨by rw [hn, hn]; exact ho.1.1, by rw [hn, hn]; exact ho.1.2.1, by rw [hn, hn]; exact ho.1.2.2⟩, fun i h7 => ?_, fun i h7 => ?_, fun i h7 => ?_, ?_⟩
  · rw [hn] at h7; rw [hi _ _ _ (by decide) (by decide) (by decide)]; exact ho.2.1 i h7
  · rw [hn] at h7; rw [hi _ _ _ (by decide) (by decide) (by decide)]; exact ho.2.2.1 i h7
  · rw [hn] at h7
    by_cases h8 : i = u
    · subst h8; exact h6.1
    · rw [h6.2 i h8]; exact ho.2.2.2.1 i h7
  · rw [hi _ _ _ (by decide) (by decide) (by decide)]; exact ho.2.2.2.2
theorem sl_I {M : mM} (hI : wI M) (v : Int64) : wI (sl M 17 0 0 v) := hI
theorem kp_I {M M' : mM} (h : kp M M') (ht : wT M') (hI : wI M) : wI M' := ⟨kp_w h hI.1, ht, kq_o (kp_q h) hI.2.2⟩
theorem fSv_I {M : mM} (hI : wI M) (a k b f d : Int32) : wI (fSv M a k b f d).2.2 := by
  unfold fSv
  split
  · exact kp_I (kp_tr (kp_tr (kp_tr (kp_si _ _ _ _ _ (by omega)) (kp_si _ _ _ _ _ (by omega))) (kp_si _ _ _ _ _ (by omega))) (kp_si _ _ _ _ _ (by omega))) (kt_w (M := M) rfl hI.2.1) hI
  · exact hI
theorem fNw_I {M : mM} (hI : wI M) (u x : Int32) (hu : u = 0 ∨ u = 1) : wI (si (si M 0 0 1 u) 0 0 2 x) :=
  ⟨hI.1, hI.2.1, hI.2.2.1, hI.2.2.2.1, hI.2.2.2.2.1, hI.2.2.2.2.2.1, hu⟩
theorem fJb_I {M : mM} (hI : wI M) (kd x s : Int32) (h0 : (fJb M kd x s).1 = 0) : wI (fJb M kd x s).2.2 := by
  have h0 : jbXc M kd x s = 0 := h0
  show wI (jbM M kd x s).2
  have hb : ¬ (¬ (0 ≤ kd ∧ kd ≤ 2) ∨ isP x = false ∨ (kd = 0 ∧ ¬ (0 ≤ s ∧ s < 4))) := fun z => by
    unfold jbXc at h0; rw [if_pos z] at h0; exact absurd h0 (by decide)
  have ho : ∃ k, k < 4 ∧ own0 kd s = nI k := by
    unfold own0
    by_cases hk : kd = 0
    · rw [if_pos hk]
      have hs : 0 ≤ s ∧ s < 4 := Classical.byContradiction fun z => hb (Or.inr (Or.inr ⟨hk, z⟩))
      rcases pk_ix s (n := 4) (by decide) with h | h | ⟨j, hj, h⟩
      · exact absurd h (Int32.not_lt.mpr hs.1)
      · exact absurd h (Int32.not_le.mpr hs.2)
      · exact ⟨j, hj, h⟩
    · rw [if_neg hk]; exact ⟨0, by decide, rfl⟩
  obtain ⟨k, hk, e⟩ := ho
  unfold jbM
  cases hj : jsm M kd x (own0 kd s) with
  | some q => exact hI
  | none =>
    have h60 : gn M 4 < 60 := by
      unfold jbXc at h0
      rw [if_neg hb, if_neg (fun z => z hj)] at h0
      by_cases z : lenR M x < 4 ∧ gn M 4 < 60
      · exact z.2
      · rw [if_neg z] at h0; exact absurd h0 (by decide)
    show wI (jnM M kd x (own0 kd s))
    rw [e]
    exact ⟨jnM_w hI.1 kd x _ h60, jnM_wT hI.2.1 kd x _, jnM_o hI.1 hI.2.2 kd x hk⟩
theorem fSp_I {M : mM} (hI : wI M) (x : Int32) : wI (fSp M x).2.2 := by
  cases h : fstR M x with
  | none => simp only [fSp, h]; exact hI
  | some j =>
    simp only [fSp, h]
    obtain ⟨h1, h2, h3, -⟩ := spM_all hI.1 hI.2.1 hI.2.2 x (fstR_lv h)
    exact ⟨h1, h2, h3⟩
theorem fOp_I {M : mM} (hI : wI M) (x : Int32) : wI (fOp M x).2.2 :=
  kp_I (kp_tr (kp_tr (kp_si M 2 (lfc M) 0 1 (by omega)) (kp_si _ 2 (lfc M) 1 x (by omega))) (kp_sr _ 2 (lfc M) 2 (actFor M x) (by omega))) (kt_w (M := M) rfl hI.2.1) hI
theorem fCl_I {M : mM} (hI : wI M) (k : Int32) : wI (fCl M k).2.2 := ⟨clM_w hI.1 _, clM_wT hI.2.1 _, kq_o (clM_kq M _) hI.2.2⟩
theorem fCm_I {M : mM} (hI : wI M) (x : Int32) : wI (fCm M x).2.2 := by
  cases h : rgOf M x with
  | none => simp only [fCm, h]; exact hI
  | some g =>
    cases h2 : gr M 5 g 4 with
    | none => simp only [fCm, h, h2]; exact hI
    | some a =>
      simp only [fCm, h, h2]
      obtain ⟨h1, h2, h3⟩ := cmM_all hI.1 hI.2.1 g a
      exact ⟨h1, h2, kq_o h3 hI.2.2⟩
theorem fSk_I {M : mM} (hI : wI M) (x : Int32) : wI (fSk M x).2.2 := by
  cases h : rgOf M x with
  | none => simp only [fSk, h]; exact hI
  | some g =>
    cases h2 : skW M g with
    | none => simp only [fSk, h, h2]; exact hI
    | some w =>
      simp only [fSk, h, h2]
      exact kp_I (skM_kp M g w) (skM_wT hI.2.1 g w) hI
theorem ftF_I {M : mM} (hI : wI M) (k x : Int32) (hc9 : ∀ w, gr M 2 k.toNatClampNeg 2 = some w → csz M w ≤ 4) : wI (ftF M k x).2.2 := by
  unfold ftF ftK ftN
  split
  · exact hI
  · split
    · exact hI
    · split
      · split
        · exact hI
        · exact hI
      · rename_i w hw9
        split
        · split
          · exact hI
          · exact hI
        · split
          · exact hI
          · split
            · exact hI
            · split
              · exact hI
              · exact kep_I hI w x _ (hc9 w hw9)
theorem fRg_I {M : mM} (hI : wI M) (x w : Int32) : wI (fRg M x w).2.2 := by
  cases h : rgOf M x with
  | none => simp only [fRg, h]; exact hI
  | some g => simp only [fRg, h]; exact hI
