/-- nothing is there -/
def M00 : mM := (fun _ _ _ => 0, fun _ _ _ => none, fun _ _ _ => 0, fun _ => 0)
def M01 : mM := sn M00 0
theorem M01_0 : gn M01 0 = 1 := rfl
theorem M01_z : ∀ k, 1 ≤ k → gn M01 k = 0 := fun k h => by
  show (if k = 0 then 1 else 0) = 0
  rw [if_neg (by omega)]
theorem M01_i (k i j : Nat) : gi M01 k i j = 0 := by show (if _ then (0 : Int32) else 0) = 0; split <;> rfl
theorem M01_r (k i j : Nat) : gr M01 k i j = none := by show (if _ then none else none) = none; split <;> rfl
theorem kiA_hi (M : mM) : hi M (kiA M) := by
  unfold kiA
  refine hi_R (hi_tr ?_ (show hi _ (trI _ 0) from hi_S (hi_S (hi_R (hi_N (hi_rf _))))))
  exact hi_N (hi_S (hi_R (hi_N (hi_R (hi_N (hi_R (hi_N (hi_S (hi_R (hi_N (hi_S (hi_R (hi_N (hi_S (hi_S (hi_R (hi_N (hi_rf _))))))))))))))))))
theorem scL_hi (A : mM) (i : Nat) : hi A (scL A i) := by
  induction i with
  | zero => exact hi_rf _
  | succ i ih => exact hi_R (hi_S (hi_S (hi_S (hi_S (hi_N ih)))))
theorem ccL_hi (A : mM) (i : Nat) : hi A (ccL A i) := by
  induction i with
  | zero => exact hi_rf _
  | succ i ih => exact hi_R (hi_R (hi_S (hi_S (hi_N ih))))
theorem kiM_hi (M : mM) : hi M (kiM M) := hi_tr (kiA_hi M) (hi_tr (scL_hi _ 4) (ccL_hi _ 8))
def M02 : mM := kiM M01
theorem M02_gn {a : Nat} (h1 : a ≠ 1) (h2 : a ≠ 2) : gn M02 a = gn (kiA M01) a := by
  unfold M02 kiM
  rw [ccL_gn, if_neg h2, scL_gn, if_neg h1]
theorem M02_gi {k i j : Nat} (h1 : k ≠ 1) (h2 : k ≠ 2) : gi M02 k i j = gi (kiA M01) k i j := by
  unfold M02 kiM
  rw [ccL_gi _ _ h2, scL_gi _ _ h1]
theorem M02_gr {k i j : Nat} (h1 : k ≠ 1) (h2 : k ≠ 2) (h8 : k ≠ 8) (h11 : k ≠ 11) : gr M02 k i j = gr (kiA M01) k i j := by
  unfold M02 kiM
  rw [ccL_gr _ _ h2 h11, scL_gr _ _ h1 h8]
theorem kz16 : ∀ k, 1 ≤ k → k ≤ 16 → gn M01 k = 0 := fun k h _ => M01_z k h
theorem M02_w : wI M02 := by
  obtain ⟨a, b, c⟩ := kiM_w (M := M01) M01_0 kz16
  exact ⟨a, b, c⟩
theorem M02_17 : gn M02 17 = 0 := by rw [M02_gn (by decide) (by decide)]; rfl
theorem M02_18 : gn M02 18 = 0 := by rw [M02_gn (by decide) (by decide)]; rfl
theorem M02_hz : ∀ k, 19 ≤ k → k ≤ 47 → gn (sn M02 18) k = 0 := fun k h _ => by
  rw [gn_sn, if_neg (by omega), show gn M02 k = gn M01 k from hi_gn (kiM_hi M01) (by omega)]
  exact M01_z k (by omega)
theorem M02_h18 : 0 < gn (sn M02 18) 18 := by rw [gn_sn, if_pos rfl]; omega
def M03 : mM := mdI (sn M02 18)
def M04 : mM := sn M03 17
theorem M03_17 : gn M03 17 = 0 := (show gn M02 17 = 0 from M02_17)
theorem M03_R : wR M03 := by
  refine ⟨?_, fun j hj => ?_⟩
  · show 0 < gn (sn M02 18) 18; exact M02_h18
  · match j, hj with
    | 0, _ => rfl
    | 1, _ => rfl
    | 2, _ => rfl
    | 3, _ => rfl
    | 4, _ => rfl
    | 5, _ => rfl
    | 6, _ => rfl
    | 7, _ => rfl
    | 8, _ => rfl
    | 9, _ => rfl
    | 10, _ => rfl
    | 11, _ => rfl
    | 12, _ => rfl
    | 13, _ => rfl
    | 14, _ => rfl
    | 15, _ => rfl
    | 16, _ => rfl
    | 17, _ => rfl
    | 18, _ => rfl
    | 19, _ => rfl
    | 20, _ => rfl
    | 21, _ => rfl
    | 22, _ => rfl
    | 23, _ => rfl
    | 24, _ => rfl
    | 25, _ => rfl
    | 26, _ => rfl
    | 27, _ => rfl
    | 28, _ => rfl
    | j + 29, h => omega
/-- a memory all of whose ints of a kind are 0 stays so under new objects and references -/
def z0 (M : mM) : Prop := ∀ k i j, 18 ≤ k → gi M k i j = 0
theorem z0_sn {M : mM} (h : z0 M) (k : Nat) : z0 (sn M k) := fun a i j ha => by
  rw [gi_sn]; split
  · rfl
  · exact h a i j ha
theorem z0_sr {M : mM} (h : z0 M) (k i j : Nat) (x : Option Nat) : z0 (sr M k i j x) := h
theorem M02_z0 : z0 M02 := fun k i j hk => (hi_gi (kiM_hi M01) hk i j).trans (M01_i k i j)
theorem M04_z0 : z0 M04 := by
  unfold M04
  refine z0_sn ?_ 17
  unfold M03 mdI
  repeat (first | exact z0_sn M02_z0 18 | refine z0_sr ?_ _ _ _ _ | refine z0_sn ?_ _)
theorem M04_rq (k j : Nat) : rq M04 k j = 0 := by
  unfold rq
  split
  · rename_i h; exact M04_z0 k 0 j h
  · rfl
theorem M02_nRg : nRg M02 = 0 := by
  unfold nRg
  rw [M02_gi (by decide) (by decide), (kiA_i M01).2.2.2.1]; rfl
theorem M02_7 : gn M02 7 = 0 := by rw [M02_gn (by decide) (by decide)]; exact (kiA_n M01_0 kz16).2.2.2.2.2.2.1
theorem M02_4 : gn M02 4 = 0 := by rw [M02_gn (by decide) (by decide)]; exact (kiA_n M01_0 kz16).2.2.2.1
theorem M02_sc {j v : Nat} (h : j < 4) (hv : v < 4) : gi M02 1 j v = 0 := by
  unfold M02 kiM
  rw [ccL_gi _ _ (by decide)]
  exact scL_1 (kiA_n M01_0 kz16).2.1 4 h hv
theorem M02_cl {j : Nat} (h : j < 8) : gi M02 2 j 0 = 0 ∧ gi M02 2 j 1 = 0 ∧ gr M02 2 j 2 = none := by
  unfold M02 kiM
  exact ccL_2 (by rw [scL_gn, if_neg (by decide)]; exact (kiA_n M01_0 kz16).2.2.1) 8 h
theorem M02_12 (j : Nat) : gr M02 12 0 j = none := by
  rw [M02_gr (by decide) (by decide) (by decide) (by decide)]
  unfold kiA trI
  simp only [gr_si, gr_sr, gr_sn, M01_r]
  simp
theorem isP0 : isP 0 = true := by decide +kernel
theorem M02_Rq {r : rR} (hr : ∀ k j, r k j = 0) : Rq 0 M02 r 0 := by
  have hk := kiA_i M01
  have e1 : gi M02 0 0 1 = 1 := by rw [M02_gi (by decide) (by decide)]; exact hk.1
  have e2 : gi M02 0 0 2 = 0 := by rw [M02_gi (by decide) (by decide)]; exact hk.2.1
  have e31 : gi M02 3 0 1 = 0 := by rw [M02_gi (by decide) (by decide)]; exact hk.2.2.2.2.2.1
  have e32 : gi M02 3 0 2 = 0 := by rw [M02_gi (by decide) (by decide)]; exact hk.2.2.2.2.2.2
  refine Rq.mk (hr _ _) M02_w.1 M02_w.2.2 ⟨fun i hi => ?_, fun i j hi => ?_⟩ (fun k hk => ?_) ⟨?_, ?_⟩ ?_ (fun i hi => ?_) (fun i hi => ?_) ?_ (fun i hi => ?_) (fun i hi => ?_) (fun i hi => ?_) (fun i hi => ?_) (fun i hi => ?_) (fun i hi => ?_) ?_ (fun i hi => ?_) ⟨0, Nat.le_refl _, ?_, ?_, ?_, fun k hk => ?_⟩
  · rw [M02_nRg] at hi; omega
  · rw [M02_nRg] at hi; omega
  · rw [M02_sc hk (by omega), M02_sc hk (by omega), M02_sc hk (by omega), M02_sc hk (by omega), hr, hr, hr, hr]
    exact ⟨rfl, rfl, rfl, rfl, isP0, 0, by omega, rfl⟩
  · rw [hr, e2]
  · rw [hr, e1]; rfl
  · rw [hr, M02_7]; rfl
  · rw [M02_7] at hi; omega
  · rw [M02_7] at hi; omega
  · rw [hr, M02_nRg]; rfl
  · rw [M02_nRg] at hi; omega
  · rw [M02_nRg] at hi; omega
  · rw [M02_nRg] at hi; omega
  · obtain ⟨a, b, c⟩ := M02_cl hi
    rw [a, b, c, hr, hr, hr]; exact ⟨rfl, rfl, rfl⟩
  · obtain ⟨a, b, c⟩ := M02_cl hi
    rw [a, b, c]; exact ⟨Or.inl rfl, fun _ => rfl, isP0, fun q z => (by cases z)⟩
  · rw [M02_12, hr]; exact ⟨rfl, fun q z => (by cases z)⟩
  · rw [hr, M02_4]; rfl
  · rw [M02_4] at hi; omega
  · rw [hr]; rfl
  · rw [e32]; rfl
  · rw [e31]; rfl
  · omega
theorem M02_Iv : Iv M02 := by
  refine ⟨fun p hp => ?_, fun i j hi => ?_, fun j hj => ?_, fun x => ?_⟩
  · rw [M02_nRg] at hp; omega
  · rw [M02_nRg] at hi; omega
  · rw [M02_4] at hj; omega
  · unfold lenR; rw [M02_4]; exact Nat.zero_le _
set_option maxHeartbeats 4000000 in
set_option maxRecDepth 100000 in
theorem M04_LI : LI M04 0 := ⟨(show wI M02 from M02_w), ⟨0, (show Rq 0 M02 (rq M04) 0 from M02_Rq M04_rq)⟩, (show Iv M02 from M02_Iv), (show wR M03 from M03_R), by show 0 < gn (sn M03 17) 17; rw [gn_sn, if_pos rfl]; omega⟩
