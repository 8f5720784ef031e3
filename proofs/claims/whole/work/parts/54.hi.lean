/-- kinds from 18 on (the reference's) are left as they are -/
def hi (M M' : mM) : Prop := ∀ k, 18 ≤ k → M'.1 k = M.1 k ∧ M'.2.1 k = M.2.1 k ∧ M'.2.2.2 k = M.2.2.2 k
theorem hi_rf (M : mM) : hi M M := fun _ _ => ⟨rfl, rfl, rfl⟩
theorem hi_tr {M M1 M2 : mM} (h : hi M M1) (g : hi M1 M2) : hi M M2 := fun k z => ⟨(g k z).1.trans (h k z).1, (g k z).2.1.trans (h k z).2.1, (g k z).2.2.trans (h k z).2.2⟩
theorem hi_gi {M M' : mM} (h : hi M M') {k : Nat} (z : 18 ≤ k) (i j : Nat) : gi M' k i j = gi M k i j := congrFun (congrFun (h k z).1 i) j
theorem hi_gr {M M' : mM} (h : hi M M') {k : Nat} (z : 18 ≤ k) (i j : Nat) : gr M' k i j = gr M k i j := congrFun (congrFun (h k z).2.1 i) j
theorem hi_gn {M M' : mM} (h : hi M M') {k : Nat} (z : 18 ≤ k) : gn M' k = gn M k := (h k z).2.2
theorem hi_si (M : mM) (k i j : Nat) (x : Int32) (h : k < 18) : hi M (si M k i j x) := fun a z => ⟨by funext b c; exact if_neg (by omega), rfl, rfl⟩
theorem hi_sr (M : mM) (k i j : Nat) (x : Option Nat) (h : k < 18) : hi M (sr M k i j x) := fun a z => ⟨rfl, by funext b c; exact if_neg (by omega), rfl⟩
theorem hi_sl (M : mM) (k i j : Nat) (x : Int64) : hi M (sl M k i j x) := fun _ _ => ⟨rfl, rfl, rfl⟩
theorem hi_sn (M : mM) (k : Nat) (h : k < 18) : hi M (sn M k) := fun a z => ⟨by funext b c; exact if_neg (by omega), by funext b c; exact if_neg (by omega), if_neg (by omega)⟩
theorem hi_S {M A : mM} {k i j : Nat} {x : Int32} (g : hi M A) (h : k < 18 := by decide) : hi M (si A k i j x) := hi_tr g (hi_si _ _ _ _ _ h)
theorem hi_R {M A : mM} {k i j : Nat} {x : Option Nat} (g : hi M A) (h : k < 18 := by decide) : hi M (sr A k i j x) := hi_tr g (hi_sr _ _ _ _ _ h)
theorem hi_N {M A : mM} {k : Nat} (g : hi M A) (h : k < 18 := by decide) : hi M (sn A k) := hi_tr g (hi_sn _ _ h)
theorem trA_hi (M : mM) (x : Int32) : hi M (trA M x) := by
  unfold trA
  refine hi_S ?_
  unfold trK
  split
  · exact hi_S (hi_S (hi_rf _))
  · exact hi_rf _
theorem brM_hi (M : mM) (r : Option Nat) (x : Int32) : hi M (brM M r x) := by
  cases r with
  | none => exact hi_rf _
  | some w => exact hi_tr (hi_S (hi_rf _)) (trA_hi _ _)
theorem ctM_hi (M : mM) (i : Nat) (r : Option Nat) : hi M (ctM M i r) := hi_tr (hi_R (hi_rf _)) (trA_hi _ _)
theorem hnd_hi (M : mM) (b n i : Nat) : hi M (hnd M b n i) := by
  induction i with
  | zero => exact hi_rf _
  | succ i ih =>
    show hi M (if _ then _ else _)
    split
    · exact hi_tr ih (ctM_hi _ _ _)
    · exact ih
theorem act1_hi (M : mM) (g n : Nat) (b : Option Nat) : hi M (act1 M g n b) := hi_tr (hi_R (hi_R (brM_hi M b 4))) (brM_hi _ _ _)
theorem actM_hi (M : mM) (g n : Nat) (b : Option Nat) : hi M (actM M g n b) := by
  cases b with
  | none => exact act1_hi _ _ _ _
  | some b => exact hi_tr (act1_hi _ _ _ _) (hnd_hi _ _ _ _)
theorem taM_hi (M : mM) (g : Nat) : hi M (taM M g) := by
  unfold taM
  split
  · exact hi_rf _
  · split
    · exact actM_hi _ _ _ _
    · exact hi_rf _
theorem rmL_hi (M : mM) (g i : Nat) : hi M (rmL M g i).1 := by
  induction i with
  | zero => exact hi_rf _
  | succ i ih =>
    show hi M (if _ then _ else _ : mM × Nat).1
    split
    · exact ih
    · exact hi_R ih
theorem rmM_hi (M : mM) (g : Nat) : hi M (rmM M g) := hi_S (rmL_hi _ _ _)
theorem tcM_hi (M : mM) (g : Nat) : hi M (tcM M g) := by
  unfold tcM
  split
  · exact hi_tr (hi_tr (brM_hi _ _ _) (brM_hi _ _ _)) (rmM_hi _ _)
  · exact hi_rf _
theorem stM_hi (M : mM) (r : Option Nat) : hi M (stM M r) := by
  unfold stM
  split
  · exact hi_rf _
  · split
    · exact tcM_hi _ _
    · exact taM_hi _ _
theorem clM_hi (M : mM) (j : Nat) : hi M (clM M j) := hi_tr (hi_R (hi_S (hi_rf _))) (stM_hi _ _)
theorem skM_hi (M : mM) (g w : Nat) : hi M (skM M g w) := hi_tr (hi_S (hi_rf _)) (taM_hi _ _)
theorem unM_hi (M : mM) (x : Int32) : hi M (unM M x).2 := by
  unfold unM
  split
  · exact hi_rf _
  · split
    · exact hi_tr (hi_S (hi_rf _)) (tcM_hi _ _)
    · exact hi_rf _
theorem fiF_hi (A : mM) (g : Nat) : hi A (fiF A g) := by
  unfold fiF
  split
  · exact rmM_hi _ _
  · exact hi_rf _
theorem fiG_hi (M : mM) (g w : Nat) : hi M (fiG M g w).2 := by
  unfold fiG
  split
  · exact hi_tr (hi_tr (hi_R (hi_rf _)) (brM_hi _ _ _)) (fiF_hi (fiA M g w) g)
  · exact hi_tr (hi_tr (hi_R (hi_tr (hi_R (hi_rf _)) (brM_hi _ _ _))) (brM_hi _ _ _)) (taM_hi (fi2 (fi0 M g) g w) g)
theorem fiM_hi (M : mM) (x : Int32) : hi M (fiM M x).2 := by
  unfold fiM
  split
  · exact hi_rf _
  · split
    · exact hi_rf _
    · exact fiG_hi _ _ _
theorem caI_hi (M : mM) (g : Nat) : hi M (caI M g) := hi_S (hi_R (hi_N (hi_R (hi_N (hi_rf _)))))
theorem wkI_hi (M : mM) (g : Nat) (n : Int32) (k : Nat) : hi M (wkI M g n k) := hi_S (hi_S (hi_S (hi_S (hi_S (hi_S (hi_R (hi_tr (hi_N (hi_rf _)) (caI_hi _ _))))))))
theorem biM_hi (M : mM) (g k : Nat) : hi M (biM M g k) := hi_tr (hi_R (hi_S (hi_R (hi_tr (hi_N (hi_rf _)) (wkI_hi _ _ _ _))))) (brM_hi _ _ _)
theorem buM_hi (M : mM) (x : Int32) : hi M (buM M x).2 := by
  unfold buM
  split
  · exact hi_rf _
  · split
    · split
      · exact hi_rf _
      · split
        · split
          · exact hi_rf _
          · exact biM_hi _ _ _
        · exact hi_rf _
    · exact hi_rf _
theorem arM_hi (M : mM) (x : Int32) : hi M (arM M x) := hi_S (hi_R (hi_S (hi_S (hi_R (hi_R (hi_R (hi_S (hi_N (hi_rf _)))))))))
theorem rr2_hi (A : mM) (g : Nat) (s : Int32) : hi A (rr2 A g s).2 := by
  unfold rr2
  split
  · exact hi_S (hi_rf _)
  · exact hi_tr (hi_S (hi_S (hi_rf _))) (biM_hi _ _ _)
theorem rrM_hi (M : mM) (j : Nat) : hi M (rrM M j).2 := by
  unfold rrM
  split
  · split
    · exact hi_rf _
    · split
      · split
        · exact hi_tr (arM_hi _ _) (rr2_hi _ _ _)
        · exact hi_rf _
      · split
        · exact rr2_hi _ _ _
        · exact hi_rf _
  · exact hi_rf _
theorem bjM_hi (M : mM) (j : Nat) : hi M (bjM M j).2 := by
  unfold bjM
  split
  · exact rrM_hi _ _
  · split
    · exact buM_hi _ _
    · exact unM_hi _ _
theorem stR_hi (M : mM) (x : Int32) (j : Nat) : hi M (stR M x j).2 := by
  unfold stR
  split
  · exact bjM_hi _ _
  · exact fiM_hi _ _
theorem stE_hi (R : mM) (j : Nat) (y : Int32) : hi R (stE R j y) := by
  unfold stE
  split
  · exact hi_S (hi_rf _)
  · exact hi_tr (hi_S (hi_S (hi_rf _))) (trA_hi _ _)
theorem spM_hi (M : mM) (x : Int32) (j : Nat) : hi M (spM M x j) := hi_tr (stR_hi _ _ _) (stE_hi _ _ _)
theorem opM_hi (M : mM) (x : Int32) : hi M (opM M x) := hi_R (hi_S (hi_S (hi_rf _)))
theorem jbM_hi (M : mM) (kd x s : Int32) : hi M (jbM M kd x s).2 := by
  unfold jbM
  split
  · exact hi_rf _
  · exact hi_S (hi_R (hi_S (hi_S (hi_S (hi_S (hi_S (hi_S (hi_N (hi_rf _)))))))))
theorem clL_hi (M : mM) (g a i : Nat) : hi M (clL M g a i).1 := by
  induction i with
  | zero => exact hi_rf _
  | succ i ih =>
    show hi M (if _ then _ else _ : mM × Nat).1
    split
    · exact hi_tr (hi_R ih) (ctM_hi _ _ _)
    · exact ih
theorem cs2_hi (A : mM) (i : Nat) : hi A (cs2 A i) := by
  induction i with
  | zero => exact hi_rf _
  | succ i ih => exact hi_tr ih (stM_hi _ _)
theorem cmM_hi (M : mM) (g a : Nat) : hi M (cmM M g a) := by unfold cmM; generalize h : clL M g a 8 = z; have e := clL_hi M g a 8; rw [h] at e; exact hi_tr e (cs2_hi z.1 z.2)
theorem shM_hi (M : mM) (c p q : Nat) : hi M (shM M c p q) := fun a z => ⟨by funext b d; exact if_neg (by omega), rfl, rfl⟩
theorem drpM_hi (M : mM) (c p z : Nat) : hi M (drpM M c p z) := hi_S (shM_hi _ _ _ _)
theorem kepM_hi (M : mM) (c : Nat) (x y : Int32) (z : Nat) : hi M (kepM M c x y z) := by
  unfold kepM
  split
  · exact hi_S (hi_S (hi_S (drpM_hi _ _ _ _)))
  · split
    · exact hi_S (hi_S (hi_S (drpM_hi _ _ _ _)))
    · exact hi_S (hi_S (hi_S (hi_rf _)))
theorem ftK_hi (M : mM) (k : Nat) (x : Int32) : hi M (ftK M k x).2.2 := by
  have h0 : hi M (ftN M x).2.2 := by unfold ftN; split <;> exact hi_rf _
  unfold ftK
  split
  · exact h0
  · split
    · exact h0
    · split
      · exact hi_rf _
      · split
        · exact hi_rf _
        · split
          · exact hi_rf _
          · exact kepM_hi _ _ _ _ _
theorem ftF_hi (M : mM) (k x : Int32) : hi M (ftF M k x).2.2 := by
  unfold ftF
  split
  · exact hi_rf _
  · split
    · exact hi_rf _
    · exact ftK_hi _ _ _
theorem fSv_hi (M : mM) (a k b f d : Int32) : hi M (fSv M a k b f d).2.2 := by
  unfold fSv
  split
  · exact hi_S (hi_S (hi_S (hi_S (hi_rf _))))
  · exact hi_rf _
theorem fJb_hi (M : mM) (kd x s : Int32) : hi M (fJb M kd x s).2.2 := jbM_hi _ _ _ _
theorem fSp_hi (M : mM) (x : Int32) : hi M (fSp M x).2.2 := by
  unfold fSp
  cases h : fstR M x with
  | none => exact hi_rf _
  | some j => exact spM_hi _ _ _
theorem fOp_hi (M : mM) (x : Int32) : hi M (fOp M x).2.2 := opM_hi _ _
theorem fCl_hi (M : mM) (k : Int32) : hi M (fCl M k).2.2 := clM_hi _ _
theorem fCm_hi (M : mM) (x : Int32) : hi M (fCm M x).2.2 := by
  unfold fCm
  cases h : rgOf M x with
  | none => exact hi_rf _
  | some g =>
    show hi M (match gr M 5 g 4 with | none => ((0, M) : Int32 × mM) | some a => (nI (clL M g a 8).2, cmM M g a)).2
    cases gr M 5 g 4 with
    | none => exact hi_rf _
    | some a => dsimp only; exact cmM_hi M g a
theorem fSk_hi (M : mM) (x : Int32) : hi M (fSk M x).2.2 := by
  unfold fSk
  cases h : rgOf M x with
  | none => exact hi_rf _
  | some g =>
    show hi M (match skW M g with | none => ((0, M) : Int32 × mM) | some w => (gi M 7 w 0, skM M g w)).2
    cases skW M g with
    | none => exact hi_rf _
    | some a => exact skM_hi _ _ _
theorem outM_hi (M : mM) (F : Nat × Int32 × mM) (h : hi M F.2.2) : hi M (outM M F) := by
  unfold outM
  split
  · exact hi_tr h (hi_sl _ _ _ _ _)
  · exact hi_rf _
