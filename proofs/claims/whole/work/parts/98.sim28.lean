section SIM28
variable {T : Int32}
theorem stE_kv (R : mM) (j : Nat) (y : Int32) : kv R (stE R j y) := by
  unfold stE
  split
  · exact ⟨rfl, fun _ => rfl, fun _ _ => rfl, fun _ _ => rfl⟩
  · exact kv_tr (B := st2 R j y) ⟨rfl, fun _ => rfl, fun _ _ => rfl, fun _ _ => rfl⟩ (trA_kv _ _)
theorem stE_gn (R : mM) (j : Nat) (y : Int32) (a : Nat) : gn (stE R j y) a = gn R a := (stE_kp R j y).1 a
theorem stE_4 (R : mM) (j : Nat) (y : Int32) (i c : Nat) : gi (stE R j y) 4 i c = if i = j ∧ c = 4 then 1 else if i = j ∧ c = 5 ∧ ¬ y = 0 then y else gi R 4 i c := by
  unfold stE
  by_cases hy : y = 0
  · rw [if_pos hy]
    unfold st1
    rw [gi_si]
    by_cases h : i = j ∧ c = 4
    · rw [if_pos h, if_pos ⟨rfl, h⟩]
    · rw [if_neg h, if_neg (fun z => h z.2), if_neg (fun z => z.2.2 hy)]
  · rw [if_neg hy, trA_gi _ _ _ _ _ (by omega) (by omega)]
    unfold st2 st1
    rw [gi_si, gi_si]
    by_cases h : i = j ∧ c = 4
    · rw [if_pos h, if_neg (by omega), if_pos ⟨rfl, h⟩]
    · rw [if_neg h]
      by_cases h2 : i = j ∧ c = 5
      · rw [if_pos ⟨rfl, h2⟩, if_pos ⟨h2.1, h2.2, hy⟩]
      · rw [if_neg (fun z => h2 z.2), if_neg (fun z => h z.2), if_neg (fun z => h2 ⟨z.1, z.2.1⟩)]
theorem cn_mono {p q : Nat → Bool} : ∀ {n : Nat}, (∀ j, j < n → p j = true → q j = true) → cn p n ≤ cn q n := by
  intro n
  induction n with
  | zero => intro _; exact Nat.le_refl _
  | succ n ih =>
    intro h
    have := ih (fun j hj => h j (by omega))
    show cn p n + _ ≤ cn q n + _
    by_cases hp : p n = true
    · rw [if_pos hp, if_pos (h n (by omega) hp)]; omega
    · rw [if_neg hp]; omega
theorem step_Iv {C C' : mM} (hV : Iv C) {x : Int32} {j : Nat} (hj : fstR C x = some j) (hk : kx x C C') (y : Int32) (hy : y = 0 → hasIn C' x) : Iv (stE C' j y) := by
  have hjl := ff_lt hj
  have hjr := of_decide_eq_true hjl.2.2
  have hbf := ff_before hj
  have kvE := stE_kv C' j y
  have e4 : ∀ i c, gi C' 4 i c = gi C 4 i c := hk.2.2.2.2
  have eb : ∀ i, gi (stE C' j y) 4 i 4 = if i = j then 1 else gi C 4 i 4 := fun i => by
    rw [stE_4, e4]
    by_cases h : i = j
    · rw [if_pos ⟨h, rfl⟩, if_pos h]
    · rw [if_neg (fun z => h z.1), if_neg (fun z => h z.1), if_neg h]
  have eo : ∀ i, gi (stE C' j y) 4 i 5 = if i = j then y else gi C 4 i 5 := fun i => by
    rw [stE_4, e4, if_neg (by omega)]
    by_cases h : i = j
    · rw [if_pos h]
      by_cases hy : y = 0
      · rw [if_neg (fun z => z.2.2 hy), h, hjr.2, hy]
      · rw [if_pos ⟨h, rfl, hy⟩]
    · rw [if_neg (fun z => h z.1), if_neg h]
  have es : ∀ i, gi (stE C' j y) 4 i 2 = gi C 4 i 2 := fun i => by
    rw [stE_4, e4, if_neg (by omega), if_neg (by omega)]
  have eg : gn (stE C' j y) 4 = gn C 4 := (stE_gn C' j y 4).trans hk.2.2.2.1
  -- no other job of this scope is begun
  have other : ∀ i, i < gn C 4 → i ≠ j → gi C 4 i 5 = 0 → ¬ gi C 4 i 4 = 0 → ¬ gi C 4 i 2 = x := by
    intro i hi hij h5 h4 hx
    rcases Nat.lt_or_ge i j with z | z
    · have := hbf i (by omega) z
      simp [inRow, hx, h5] at this
    · exact (hV.2.2.1 i hi h5 h4).2 j (by omega) (by rw [hjr.1, hx]) hjr.2
  refine ⟨kv_U kvE (hk.1 hV.1), kv_S kvE (hk.2.1 hV.2.1), fun i hi h5 h4 => ?_, fun s => ?_⟩
  · rw [eg] at hi
    rw [eo] at h5
    rw [eb] at h4
    rw [es]
    by_cases hij : i = j
    · rw [if_pos hij] at h5
      subst hij
      refine ⟨kv_I kvE (by rw [hjr.1]; exact hy h5), fun q hq hs => ?_⟩
      rw [es, hjr.1] at hs
      rw [eo, if_neg (by omega)]
      intro z
      have := hbf q (by omega) hq
      simp [inRow, hs, z] at this
    · rw [if_neg hij] at h5 h4
      have hsx := other i hi hij h5 h4
      obtain ⟨a, b⟩ := hV.2.2.1 i hi h5 h4
      refine ⟨kv_I kvE (hk.2.2.1 _ hsx a), fun q hq hs => ?_⟩
      rw [es] at hs
      rw [eo]
      by_cases hqj : q = j
      · subst hqj; exact absurd (by rw [← hs, hjr.1]) hsx
      · rw [if_neg hqj]; exact b q hq hs
  · refine Nat.le_trans ?_ (hV.2.2.2 s)
    unfold lenR
    rw [eg]
    refine cn_mono (fun i hi z => ?_)
    have z := of_decide_eq_true z
    rw [es, eo] at z
    refine decide_eq_true ⟨z.1, ?_⟩
    by_cases hij : i = j
    · subst hij; exact hjr.2
    · have := z.2; rw [if_neg hij] at this; exact this
theorem sim_step {C : mM} {r : rR} {B : Nat} (h : Rq T C r B) (hB : B + 100 < 1000000) (hV : Iv C) (x : Int32) : m_step_ok r x ∧ Ans C B (fSp C x) (m_step r x).1 (m_step r x).2 ∧ Iv (aft C (fSp C x)) := by
  have hNj := w_njl h.w
  obtain ⟨oP, eP⟩ := sim_isPath x
  obtain ⟨oF, eF⟩ := sim_firstOf h x
  have no : ∀ k, k ≠ 0 → (fSp C x).1 = k → Ans C B (fSp C x) 0 (ru r 18 34 (nI k)) ∧ Iv (aft C (fSp C x)) := fun k hk hF => ⟨ans_no h hF hk 0, by rw [aft_no (by rw [hF]; exact hk)]; exact hV⟩
  unfold m_step_ok m_step
  by_cases c1 : m_isPath x = 0
  · rw [if_pos c1]
    exact ⟨⟨oP, fun _ => trivial, fun z => absurd c1 z⟩, no 1 (by omega) (by unfold fSp spXc; exact if_pos (eP.mp c1))⟩
  have hP := isP_of eP c1
  have hnP : ¬ isP x = false := by rw [hP]; simp
  rw [if_neg c1]
  cases hf : fstR C x with
  | none =>
    rw [hf] at eF
    have eF : m_firstOf r x = -1 := eF
    have c3 : ¬ 0 ≤ m_firstOf r x := by rw [eF]; decide
    rw [if_neg c3]
    exact ⟨⟨oP, fun z => absurd z c1, fun _ => ⟨oF, fun z => absurd z c3, fun _ => trivial⟩⟩, no 2 (by omega) (by unfold fSp spXc; dsimp only; rw [if_neg hnP, if_pos hf])⟩
  | some j =>
    rw [hf] at eF
    have eF : m_firstOf r x = nI j := eF
    have hjl := ff_lt hf
    have hj : j < gn C 4 := by omega
    have hjr := of_decide_eq_true hjl.2.2
    have ej : (nI j).toNatClampNeg = j := nI_clamp (by omega)
    have c3 : 0 ≤ nI j := nI_pos' (by omega)
    have hxj := ixk_n (n := j) (N := 60) (by omega) (by omega)
    obtain ⟨b1, b2, b3, b4, b5, b6, b7⟩ := h.jb j hj
    have h0 := sim_th h 0
    have hF : fSp C x = (0, nI j, spM C x j) := by
      unfold fSp spXc
      rw [if_neg hnP, hf]
      rfl
    -- what a part's answer gives
    have done : ∀ (r' : rR) (R : Int32 × mM), stR C x j = R → Rq 0 R.2 r' (B + 20) → kx x C R.2 → (R.1 = 0 → hasIn R.2 x) → Ans C B (fSp C x) (nI j) (ru (endR r' j R.1) 39 j 1) ∧ Iv (aft C (fSp C x)) := by
      intro r' R hR hq hk hin
      rw [hF]
      have e : spM C x j = stE R.2 j R.1 := by unfold spM; rw [hR]
      refine ⟨ans_yes rfl rfl ?_, ?_⟩
      · show Rq 0 (spM C x j) _ _
        rw [e]
        exact (sim_end hq (by omega) (by rw [hk.2.2.2.1]; exact hj) R.1).up (by omega)
      · rw [aft_yes rfl]
        show Iv (spM C x j)
        rw [e]; exact step_Iv hV hf hk R.1 hin
    rw [eF, ej, if_pos c3, b5, b1]
    by_cases d1 : gi C 4 j 4 = 0
    · rw [if_pos d1]
      have eR : stR C x j = bjM C j := by unfold stR; rw [if_pos d1]
      by_cases d2 : gi C 4 j 1 = 0
      · rw [if_pos d2]
        have eB : bjM C j = rrM C j := by unfold bjM; rw [if_pos d2]
        obtain ⟨o1, r', e1, h1, k1, i1⟩ := sim_register h0 (by omega) hj
        rw [hjr.1] at i1
        refine ⟨⟨oP, fun z => absurd z c1, fun _ => ⟨oF, fun _ => ⟨hxj, fun _ => ⟨fun _ => o1, fun z => absurd d2 z⟩, fun z => absurd d1 z⟩, fun z => absurd c3 z⟩⟩, ?_⟩
        rw [e1]
        exact done r' (rrM C j) (eR.trans eB) (h1.up (by omega)) (kk_kx k1) i1
      · rw [if_neg d2]
        by_cases d3 : gi C 4 j 1 = 1
        · rw [if_pos d3]
          have eB : bjM C j = buM C (gi C 4 j 2) := by unfold bjM; rw [if_neg d2, if_pos d3]
          obtain ⟨o1, r', e1, h1, k1, i1⟩ := sim_update h0 (by omega) hj
          rw [hjr.1] at i1 eB e1 h1 k1
          refine ⟨⟨oP, fun z => absurd z c1, fun _ => ⟨oF, fun _ => ⟨hxj, fun _ => ⟨fun z => absurd z d2, fun _ => ⟨fun _ => o1, fun z => absurd d3 z⟩⟩, fun z => absurd d1 z⟩, fun z => absurd c3 z⟩⟩, ?_⟩
          rw [e1]
          exact done r' (buM C x) (eR.trans eB) (h1.up (by omega)) (kk_kx k1) i1
        · rw [if_neg d3]
          have eB : bjM C j = unM C (gi C 4 j 2) := by unfold bjM; rw [if_neg d2, if_neg d3]
          obtain ⟨o1, r', e1, h1, k1, i1⟩ := sim_unreg h0 (by omega) hj
          rw [hjr.1] at i1 eB e1 h1 k1
          refine ⟨⟨oP, fun z => absurd z c1, fun _ => ⟨oF, fun _ => ⟨hxj, fun _ => ⟨fun z => absurd z d2, fun _ => ⟨fun z => absurd z d3, fun _ => o1⟩⟩, fun z => absurd d1 z⟩, fun z => absurd c3 z⟩⟩, ?_⟩
          rw [e1]
          exact done r' (unM C x) (eR.trans eB) (h1.up (by omega)) (kk_kx k1) (fun z => absurd z i1)
    · rw [if_neg d1]
      have eR : stR C x j = fiM C x := by unfold stR; rw [if_neg d1]
      -- its registration is there, with an installing worker
      obtain ⟨⟨i, hi, hs, hin⟩, -⟩ := hV.2.2.1 j hj hjr.2 d1
      rw [hjr.1] at hs
      have hfd : fdP C (gi C 4 j 2) = some i := by
        rw [hjr.1]
        refine ff_is (by omega) (by omega) (by simpa using hs) (fun q _ hq => ?_)
        simp
        intro z
        have := hV.2.1 q i (by omega) hi (by rw [z, hs])
        omega
      cases hw : gr C 5 (rgx C i) 2 with
      | none => exact absurd hw hin
      | some w =>
        obtain ⟨o1, r', e1, h1, k1, i1⟩ := sim_installed h0 (by omega) hV.1 hj hfd hw
        rw [hjr.1] at i1 e1 h1 k1
        refine ⟨⟨oP, fun z => absurd z c1, fun _ => ⟨oF, fun _ => ⟨hxj, fun z => absurd z d1, fun _ => o1⟩, fun z => absurd c3 z⟩⟩, ?_⟩
        rw [e1]
        exact done r' (fiM C x) eR h1 k1 (fun z => absurd z i1)
end SIM28
