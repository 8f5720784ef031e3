/-- the reference's ints of a memory -/
def rq (M : mM) : rR := fun k j => if 18 ≤ k then gi M k 0 j else 0
theorem rs_rq (M : mM) : rs M (rq M) = M := by
  unfold rs
  have e : (fun k i j => if 18 ≤ k ∧ i = 0 then rq M k j else M.1 k i j) = M.1 := by
    funext k i j
    by_cases h : 18 ≤ k ∧ i = 0
    · rw [if_pos h, h.2]; exact if_pos h.1
    · rw [if_neg h]
  rw [e]
theorem rq_hi {M M' : mM} (h : hi M M') : rq M' = rq M := by
  funext k j
  unfold rq
  by_cases hk : 18 ≤ k
  · rw [if_pos hk, if_pos hk]; exact hi_gi h hk 0 j
  · rw [if_neg hk, if_neg hk]
theorem wR_hi {M M' : mM} (h : hi M M') (g : wR M) : wR M' := ⟨by rw [hi_gn h (by omega)]; exact g.1, fun j hj => by rw [hi_gr h (by omega)]; exact g.2 j hj⟩
/-- between two calls -/
def LI (M : mM) (B : Nat) : Prop := wI M ∧ (∃ T, Rq T M (rq M) B) ∧ Iv M ∧ wR M ∧ 0 < gn M 17
theorem LI_up {M : mM} {B B' : Nat} (h : LI M B) (hB : B ≤ B') : LI M B' := by
  obtain ⟨a, ⟨T, b⟩, c⟩ := h
  exact ⟨a, ⟨T, b.up hB⟩, c⟩
theorem aft_same {C : mM} {F : Nat × Int32 × mM} (h : F.2.2 = C) : aft C F = C := by unfold aft; split <;> first | exact h | rfl
theorem LI_next {M : mM} {B : Nat} {F : Nat × Int32 × mM} {v : Int32} {r : rR} (hL : LI M B) (hh : hi M F.2.2) (hI : F.1 = 0 → wI F.2.2) (hA : Ans M B F v r) (hV : Iv (aft M F)) (hg : 0 < gn (outM M F) 17) : LI (rs (outM M F) r) (B + 100) ∧ wR (outM M F) ∧ rq (outM M F) = rq M ∧ r 18 34 = nI F.1 := by
  have ho := outM_hi M F hh
  refine ⟨?_, wR_hi ho hL.2.2.2.1, rq_hi ho, hA.2.th⟩
  have hw := wR_hi ho hL.2.2.2.1
  by_cases h0 : F.1 = 0
  · have e1 : aft M F = F.2.2 := if_pos h0
    have e2 : outM M F = sl F.2.2 17 0 0 F.2.1.toInt64 := by unfold outM; rw [if_pos h0]
    have hR := hA.2
    rw [e1] at hR hV
    rw [e2] at hw hg ⊢
    exact ⟨hI h0, ⟨_, hR⟩, hV, hw, hg⟩
  · have e1 : aft M F = M := if_neg h0
    have e2 : outM M F = M := by unfold outM; rw [if_neg h0]
    have hR := hA.2
    rw [e1] at hR hV
    rw [e2] at hw hg ⊢
    exact ⟨hL.1, ⟨_, hR⟩, hV, hw, hg⟩
theorem LI_serve {M : mM} {B : Nat} {F : Nat × Int32 × mM} {v : Int32} {r : rR} (hL : LI M B) (hh : hi M F.2.2) (hI : wI F.2.2) (hA : Ans M B F v r) (hM : F.1 ≠ 0 → F.2.2 = M) (hV : Iv F.2.2) (hg : 0 < gn F.2.2 17) : LI (rs F.2.2 r) (B + 100) ∧ wR F.2.2 ∧ rq F.2.2 = rq M ∧ r 18 34 = nI F.1 := by
  refine ⟨?_, wR_hi hh hL.2.2.2.1, rq_hi hh, hA.2.th⟩
  have hw := wR_hi hh hL.2.2.2.1
  have e1 : aft M F = F.2.2 := by
    unfold aft
    split
    · rfl
    · rename_i z; exact (hM z).symm
  have hR := hA.2
  rw [e1] at hR
  exact ⟨hI, ⟨_, hR⟩, hV, hw, hg⟩
theorem out_gl {M : mM} {F : Nat × Int32 × mM} (h0 : F.1 = 0) (r : rR) : gl (rs (outM M F) r) 17 0 0 = F.2.1.toInt64 := by
  have e2 : outM M F = sl F.2.2 17 0 0 F.2.1.toInt64 := by unfold outM; rw [if_pos h0]
  rw [e2]; rfl
theorem fSv_b (M : mM) (a k b f d : Int32) : (fSv M a k b f d).1 < 100 := by unfold fSv; split <;> (dsimp only; omega)
theorem fSv_same (M : mM) (a k b f d : Int32) (h : (fSv M a k b f d).1 ≠ 0) : (fSv M a k b f d).2.2 = M := by
  unfold fSv at h ⊢
  split
  · rename_i z; rw [if_pos z] at h; exact absurd rfl h
  · rfl
theorem fSv_Iv {M : mM} (h : Iv M) (a k b f d : Int32) : Iv (fSv M a k b f d).2.2 := by
  unfold fSv
  split
  · exact h
  · exact h
theorem fJb_b (M : mM) (kd x s : Int32) : (fJb M kd x s).1 < 100 := by
  show jbXc M kd x s < 100
  unfold jbXc; split
  · decide
  · split
    · decide
    · split <;> decide
theorem fSp_b (M : mM) (x : Int32) : (fSp M x).1 < 100 := by
  show spXc M x < 100
  unfold spXc; split
  · decide
  · split <;> decide
theorem fOp_b (M : mM) (x : Int32) : (fOp M x).1 < 100 := by
  show opXc M x < 100
  unfold opXc; split
  · decide
  · split <;> decide
theorem fCl_b (M : mM) (x : Int32) : (fCl M x).1 < 100 := by
  unfold fCl; dsimp only; split <;> decide
theorem ndXc_b (M : mM) (x : Int32) (f : Nat → Option Nat) : ndXc M x f < 100 := by
  unfold ndXc; split
  · decide
  · split
    · decide
    · split <;> decide
theorem fCm_b (M : mM) (x : Int32) : (fCm M x).1 < 100 := ndXc_b _ _ _
theorem fSk_b (M : mM) (x : Int32) : (fSk M x).1 < 100 := ndXc_b _ _ _
theorem ftF_b (M : mM) (k x : Int32) : (ftF M k x).1 < 100 := by
  have h0 : (ftN M x).1 < 100 := by unfold ftN; split <;> (dsimp only; omega)
  unfold ftF
  split
  · dsimp only; omega
  · split
    · dsimp only; omega
    · unfold ftK
      split
      · exact h0
      · split
        · exact h0
        · split
          · dsimp only; omega
          · split
            · dsimp only; omega
            · split <;> (dsimp only; omega)
theorem fRg_b (M : mM) (x w : Int32) : (fRg M x w).1 < 100 := by
  show rgXc M x w < 100
  unfold rgXc; split
  · decide
  · split <;> decide
theorem fWk_b (M : mM) (w q : Int32) : (fWk M w q).1 < 100 := by
  show wkXc M w q < 100
  unfold wkXc; split
  · decide
  · split <;> decide
theorem fOc_b (M : mM) (x : Int32) : (fOc M x).1 < 100 := by
  unfold fOc; dsimp only; split <;> decide
theorem fTr_b (M : mM) (x : Int32) : (fTr M x).1 < 100 := by
  unfold fTr; dsimp only; split <;> decide
theorem fCt_b (M : mM) (x : Int32) : (fCt M x).1 < 100 := by
  unfold fCt; dsimp only; split <;> decide
theorem fRg_s (M : mM) (x w : Int32) : (fRg M x w).2.2 = M := by
  unfold fRg; cases rgOf M x <;> rfl
section PL
variable {M : mM} {B : Nat}
theorem pl_job (h : LI M B) (hB : B + 300 < 1000000) (a b d : Int32) (hg : 0 < gn (outM M (fJb M a b d)) 17) : m_job_ok (rq M) a b d ∧ ((fJb M a b d).1 = 0 → (m_job (rq M) a b d).1 = (fJb M a b d).2.1) ∧ LI (rs (outM M (fJb M a b d)) (m_job (rq M) a b d).2) (B + 100) ∧ wR (outM M (fJb M a b d)) ∧ rq (outM M (fJb M a b d)) = rq M ∧ (m_job (rq M) a b d).2 18 34 = nI (fJb M a b d).1 := by
  obtain ⟨T, hR⟩ := h.2.1
  obtain ⟨o, A, V⟩ := sim_job hR h.2.2.1 a b d
  exact ⟨o, A.1, LI_next h (fJb_hi _ _ _ _) (fun z => fJb_I h.1 a b d z) A V hg⟩
theorem pl_step (h : LI M B) (hB : B + 300 < 1000000) (a : Int32) (hg : 0 < gn (outM M (fSp M a)) 17) : m_step_ok (rq M) a ∧ ((fSp M a).1 = 0 → (m_step (rq M) a).1 = (fSp M a).2.1) ∧ LI (rs (outM M (fSp M a)) (m_step (rq M) a).2) (B + 100) ∧ wR (outM M (fSp M a)) ∧ rq (outM M (fSp M a)) = rq M ∧ (m_step (rq M) a).2 18 34 = nI (fSp M a).1 := by
  obtain ⟨T, hR⟩ := h.2.1
  obtain ⟨o, A, V⟩ := sim_step hR (by omega) h.2.2.1 a
  exact ⟨o, A.1, LI_next h (fSp_hi _ _) (fun _ => fSp_I h.1 a) A V hg⟩
theorem pl_open (h : LI M B) (hB : B + 300 < 1000000) (a : Int32) (hg : 0 < gn (outM M (fOp M a)) 17) : m_open_ok (rq M) a ∧ ((fOp M a).1 = 0 → (m_open (rq M) a).1 = (fOp M a).2.1) ∧ LI (rs (outM M (fOp M a)) (m_open (rq M) a).2) (B + 100) ∧ wR (outM M (fOp M a)) ∧ rq (outM M (fOp M a)) = rq M ∧ (m_open (rq M) a).2 18 34 = nI (fOp M a).1 := by
  obtain ⟨T, hR⟩ := h.2.1
  obtain ⟨o, A, V⟩ := sim_open hR h.2.2.1 a
  exact ⟨o, A.1, LI_next h (fOp_hi _ _) (fun _ => fOp_I h.1 a) A V hg⟩
theorem pl_close (h : LI M B) (hB : B + 300 < 1000000) (a : Int32) (hg : 0 < gn (outM M (fCl M a)) 17) : m_close_ok (rq M) a ∧ ((fCl M a).1 = 0 → (m_close (rq M) a).1 = (fCl M a).2.1) ∧ LI (rs (outM M (fCl M a)) (m_close (rq M) a).2) (B + 100) ∧ wR (outM M (fCl M a)) ∧ rq (outM M (fCl M a)) = rq M ∧ (m_close (rq M) a).2 18 34 = nI (fCl M a).1 := by
  obtain ⟨T, hR⟩ := h.2.1
  obtain ⟨o, A, V⟩ := sim_close hR (by omega) h.2.2.1 a
  exact ⟨o, A.1, LI_next h (fCl_hi _ _) (fun _ => fCl_I h.1 a) A V hg⟩
theorem pl_claim (h : LI M B) (hB : B + 300 < 1000000) (a : Int32) (hg : 0 < gn (outM M (fCm M a)) 17) : m_claim_ok (rq M) a ∧ ((fCm M a).1 = 0 → (m_claim (rq M) a).1 = (fCm M a).2.1) ∧ LI (rs (outM M (fCm M a)) (m_claim (rq M) a).2) (B + 100) ∧ wR (outM M (fCm M a)) ∧ rq (outM M (fCm M a)) = rq M ∧ (m_claim (rq M) a).2 18 34 = nI (fCm M a).1 := by
  obtain ⟨T, hR⟩ := h.2.1
  obtain ⟨o, A, V⟩ := sim_claim hR (by omega) h.2.2.1 a
  exact ⟨o, A.1, LI_next h (fCm_hi _ _) (fun _ => fCm_I h.1 a) A V hg⟩
theorem pl_skip (h : LI M B) (hB : B + 300 < 1000000) (a : Int32) (hg : 0 < gn (outM M (fSk M a)) 17) : m_skip_ok (rq M) a ∧ ((fSk M a).1 = 0 → (m_skip (rq M) a).1 = (fSk M a).2.1) ∧ LI (rs (outM M (fSk M a)) (m_skip (rq M) a).2) (B + 100) ∧ wR (outM M (fSk M a)) ∧ rq (outM M (fSk M a)) = rq M ∧ (m_skip (rq M) a).2 18 34 = nI (fSk M a).1 := by
  obtain ⟨T, hR⟩ := h.2.1
  obtain ⟨o, A, V⟩ := sim_skip hR (by omega) h.2.2.1 a
  exact ⟨o, A.1, LI_next h (fSk_hi _ _) (fun _ => fSk_I h.1 a) A V hg⟩
theorem ftF_w {T : Int32} {C : mM} {r : rR} {B : Nat} (h : Rq T C r B) (hI : wI C) (k x : Int32) (h0 : (ftF C k x).1 = 0) : wI (ftF C k x).2.2 := by
  by_cases hP : isP x = false
  · unfold ftF at h0; rw [if_pos hP] at h0; cases h0
  · by_cases hc : cOk C k
    · refine ftF_I hI k x (fun w hw => ?_)
      obtain ⟨j, hj, e⟩ := in_n (x := k) (n := 7) (by omega) ⟨hc.1, (lt_n (x := k) 7 (by omega)).mp hc.2.1⟩
      subst e
      rw [show (nI j).toNatClampNeg = j from nI_clamp (by omega)] at hw
      exact (csz_n h ((h.cq j (by omega)).2.2.2 w hw)).1
    · unfold ftF at h0; rw [if_neg hP, if_pos hc] at h0; cases h0
theorem pl_fetch (h : LI M B) (hB : B + 300 < 1000000) (a b : Int32) (hg : 0 < gn (outM M (ftF M a b)) 17) : m_fetch_ok (rq M) a b ∧ ((ftF M a b).1 = 0 → (m_fetch (rq M) a b).1 = (ftF M a b).2.1) ∧ LI (rs (outM M (ftF M a b)) (m_fetch (rq M) a b).2) (B + 100) ∧ wR (outM M (ftF M a b)) ∧ rq (outM M (ftF M a b)) = rq M ∧ (m_fetch (rq M) a b).2 18 34 = nI (ftF M a b).1 := by
  obtain ⟨T, hR⟩ := h.2.1
  obtain ⟨o, A, V⟩ := sim_fetch hR h.2.2.1 a b
  exact ⟨o, A.1, LI_next h (ftF_hi _ _ _) (fun z => ftF_w hR h.1 a b z) A V hg⟩
theorem pl_registration (h : LI M B) (hB : B + 300 < 1000000) (a b : Int32) (hg : 0 < gn (outM M (fRg M a b)) 17) : m_registration_ok (rq M) a b ∧ ((fRg M a b).1 = 0 → (m_registration (rq M) a b).1 = (fRg M a b).2.1) ∧ LI (rs (outM M (fRg M a b)) (m_registration (rq M) a b).2) (B + 100) ∧ wR (outM M (fRg M a b)) ∧ rq (outM M (fRg M a b)) = rq M ∧ (m_registration (rq M) a b).2 18 34 = nI (fRg M a b).1 := by
  obtain ⟨T, hR⟩ := h.2.1
  obtain ⟨o, A⟩ := sim_reg hR a b
  exact ⟨o, A.1, LI_next h (by rw [fRg_s]; exact hi_rf M) (fun _ => by rw [fRg_s]; exact h.1) A (by rw [aft_same (fRg_s M a b)]; exact h.2.2.1) hg⟩
theorem pl_worker (h : LI M B) (hB : B + 300 < 1000000) (a b : Int32) (hg : 0 < gn (outM M (fWk M a b)) 17) : m_worker_ok (rq M) a b ∧ ((fWk M a b).1 = 0 → (m_worker (rq M) a b).1 = (fWk M a b).2.1) ∧ LI (rs (outM M (fWk M a b)) (m_worker (rq M) a b).2) (B + 100) ∧ wR (outM M (fWk M a b)) ∧ rq (outM M (fWk M a b)) = rq M ∧ (m_worker (rq M) a b).2 18 34 = nI (fWk M a b).1 := by
  obtain ⟨T, hR⟩ := h.2.1
  obtain ⟨o, A⟩ := sim_worker hR a b
  exact ⟨o, A.1, LI_next h (hi_rf M) (fun _ => h.1) A (by rw [aft_same (show (fWk M a b).2.2 = M from rfl)]; exact h.2.2.1) hg⟩
theorem pl_outcome (h : LI M B) (hB : B + 300 < 1000000) (a : Int32) (hg : 0 < gn (outM M (fOc M a)) 17) : m_outcome_ok (rq M) a ∧ ((fOc M a).1 = 0 → (m_outcome (rq M) a).1 = (fOc M a).2.1) ∧ LI (rs (outM M (fOc M a)) (m_outcome (rq M) a).2) (B + 100) ∧ wR (outM M (fOc M a)) ∧ rq (outM M (fOc M a)) = rq M ∧ (m_outcome (rq M) a).2 18 34 = nI (fOc M a).1 := by
  obtain ⟨T, hR⟩ := h.2.1
  obtain ⟨o, A⟩ := sim_outcome hR a
  exact ⟨o, A.1, LI_next h (hi_rf M) (fun _ => h.1) A (by rw [aft_same (show (fOc M a).2.2 = M from rfl)]; exact h.2.2.1) hg⟩
theorem pl_trace (h : LI M B) (hB : B + 300 < 1000000) (a : Int32) (hg : 0 < gn (outM M (fTr M a)) 17) : m_trace_ok (rq M) a ∧ ((fTr M a).1 = 0 → (m_trace (rq M) a).1 = (fTr M a).2.1) ∧ LI (rs (outM M (fTr M a)) (m_trace (rq M) a).2) (B + 100) ∧ wR (outM M (fTr M a)) ∧ rq (outM M (fTr M a)) = rq M ∧ (m_trace (rq M) a).2 18 34 = nI (fTr M a).1 := by
  obtain ⟨T, hR⟩ := h.2.1
  obtain ⟨o, A⟩ := sim_trace hR (by omega) a
  exact ⟨o, A.1, LI_next h (hi_rf M) (fun _ => h.1) A (by rw [aft_same (show (fTr M a).2.2 = M from rfl)]; exact h.2.2.1) hg⟩
theorem pl_count (h : LI M B) (hB : B + 300 < 1000000) (a : Int32) (hg : 0 < gn (outM M (fCt M a)) 17) : m_count_ok (rq M) a ∧ ((fCt M a).1 = 0 → (m_count (rq M) a).1 = (fCt M a).2.1) ∧ LI (rs (outM M (fCt M a)) (m_count (rq M) a).2) (B + 100) ∧ wR (outM M (fCt M a)) ∧ rq (outM M (fCt M a)) = rq M ∧ (m_count (rq M) a).2 18 34 = nI (fCt M a).1 := by
  obtain ⟨T, hR⟩ := h.2.1
  obtain ⟨o, A⟩ := sim_count hR a
  exact ⟨o, A.1, LI_next h (hi_rf M) (fun _ => h.1) A (by rw [aft_same (show (fCt M a).2.2 = M from rfl)]; exact h.2.2.1) hg⟩
theorem pl_serve (h : LI M B) (a k b f d : Int32) (hg : 0 < gn (fSv M a k b f d).2.2 17) : m_serve_ok (rq M) a k b f d ∧ LI (rs (fSv M a k b f d).2.2 (m_serve (rq M) a k b f d)) (B + 100) ∧ wR (fSv M a k b f d).2.2 ∧ rq (fSv M a k b f d).2.2 = rq M ∧ m_serve (rq M) a k b f d 18 34 = nI (fSv M a k b f d).1 := by
  obtain ⟨T, hR⟩ := h.2.1
  obtain ⟨o, A⟩ := sim_serve hR a k b f d
  exact ⟨o, LI_serve h (fSv_hi _ _ _ _ _ _) (fSv_I h.1 a k b f d) A (fSv_same M a k b f d) (fSv_Iv h.2.2.1 a k b f d) hg⟩
theorem pl_network (h : LI M B) (u x : Int32) (hu : u = 0 ∨ u = 1) : (m_network (rq M) u x).1 = gi M 0 0 1 ∧ LI (rs (si (si M 0 0 1 u) 0 0 2 x) (m_network (rq M) u x).2) (B + 100) ∧ rq (si (si M 0 0 1 u) 0 0 2 x) = rq M := by
  obtain ⟨T, hR⟩ := h.2.1
  obtain ⟨e, A⟩ := sim_network hR u x hu
  exact ⟨e, ⟨fNw_I h.1 u x hu, ⟨_, A⟩, h.2.2.1, h.2.2.2.1, h.2.2.2.2⟩, rq_hi (hi_S (hi_S (hi_rf M)))⟩
end PL
