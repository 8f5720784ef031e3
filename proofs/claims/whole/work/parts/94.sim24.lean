section SIM24
variable {T : Int32}
theorem kk_s5 (C : mM) (g j : Nat) (x : Int32) (hj : j ≠ 0) : kk C (si C 5 g j x) := by
  have e : ∀ i, gi (si C 5 g j x) 5 i 0 = gi C 5 i 0 := fun i => by rw [gi_si, if_neg (by omega)]
  refine ⟨fun z => z, fun hS i q hi hq => ?_, fun s ⟨i, h1, h2, h3⟩ => ⟨i, h1, ?_, h3⟩, rfl, fun _ _ => rfl⟩
  · rw [e, e]; exact hS i q hi hq
  · rw [e]; exact h2
theorem bi_kk {C : mM} {r : rR} {B : Nat} (h : Rq T C r B) {p : Nat} (hp : p < nRg C) (k : Nat) : kk C (biM C (rgx C p) k) ∧ hasIn (biM C (rgx C p) k) (gi C 5 (rgx C p) 0) := by
  have hgr : ∀ i j, gr (bi0 C (rgx C p) k) 5 i j = if i = rgx C p ∧ j = 2 then some (gn C 7) else gr C 5 i j := fun i j => by
    by_cases hc : i = rgx C p ∧ j = 2
    · rw [if_pos hc, hc.1, hc.2]
      show gr (sr _ 5 (rgx C p) 2 (some (gn C 7))) 5 (rgx C p) 2 = _
      rw [gr_sr, if_pos ⟨rfl, rfl, rfl⟩]
    · rw [if_neg hc, bi0_gr C (rgx C p) k (by omega) (by omega) (fun z => hc z.2)]
  have k0 : kk C (bi0 C (rgx C p) k) := by
    refine ⟨fun hU q hq => ?_, fun hS => hS, fun s ⟨i, h1, h2, h3⟩ => ⟨i, h1, h2, ?_⟩, rfl, fun _ _ => rfl⟩
    · have hq : q < nRg C := hq
      have hx : rgx (bi0 C (rgx C p) k) q = rgx C q := rfl
      have g3 : gr (bi0 C (rgx C p) k) 5 (rgx C q) 3 = gr C 5 (rgx C q) 3 := by rw [hgr, if_neg (by omega)]
      have g4 : gr (bi0 C (rgx C p) k) 5 (rgx C q) 4 = gr C 5 (rgx C q) 4 := by rw [hgr, if_neg (by omega)]
      rw [hx, g3, g4, hgr]
      obtain ⟨u1, u2, u3⟩ := hU q hq
      obtain ⟨l2, l3, l4⟩ := h.rl q hq
      refine ⟨u1, ?_, ?_⟩
      · by_cases hc : rgx C q = rgx C p ∧ 2 = 2
        · rw [if_pos hc]; exact Or.inr (fun z => by have := l4 _ z.symm; omega)
        · rw [if_neg hc]; exact u2
      · by_cases hc : rgx C q = rgx C p ∧ 2 = 2
        · rw [if_pos hc]; exact Or.inr (fun z => by have := l3 _ z.symm; omega)
        · rw [if_neg hc]; exact u3
    · show gr (bi0 C (rgx C p) k) 5 (rgx C i) 2 ≠ none
      rw [hgr]
      split
      · simp
      · exact h3
  have kb := kk_of (brM_kv (bi0 C (rgx C p) k) (some (gn C 7)) 1) (brM_kj (bi0 C (rgx C p) k) (some (gn C 7)) 1)
  refine ⟨kk_tr k0 kb, kb.2.2.1 _ ⟨p, hp, rfl, ?_⟩⟩
  show gr (bi0 C (rgx C p) k) 5 (rgx C p) 2 ≠ none
  rw [hgr, if_pos ⟨rfl, rfl⟩]; simp
theorem endR_n {r : rR} {j : Nat} {y : Int32} (hy : ¬ y = 0) : endR r j y = m_finish r (nI j) y := if_neg hy
theorem oI_none {q : Option Nat} (h : q = none) : oI q < 0 ∧ ¬ 0 ≤ oI q := by rw [h]; exact ⟨by decide, by decide⟩
theorem oI_some {q : Option Nat} {p : Nat} (h : q = some p) (hp : p < 100) : ¬ oI q < 0 ∧ 0 ≤ oI q ∧ oI q = nI p ∧ (oI q).toNatClampNeg = p := by
  rw [h]; exact ⟨nI_pos (by omega), nI_pos' (by omega), rfl, nI_clamp (by omega)⟩
theorem sim_unreg {C : mM} {r : rR} {B : Nat} (h : Rq T C r B) (hB : B + 10 < 1000000) {j : Nat} (hj : j < gn C 4) : m_unregister_ok r (nI j) ∧ ∃ r', m_unregister r (nI j) = endR r' j (unM C (gi C 4 j 2)).1 ∧ Rq T (unM C (gi C 4 j 2)).2 r' (B + 10) ∧ kk C (unM C (gi C 4 j 2)).2 ∧ ¬ (unM C (gi C 4 j 2)).1 = 0 := by
  have hN := w_nrl h.w
  have hNj := w_njl h.w
  have ej : (nI j).toNatClampNeg = j := nI_clamp (by omega)
  have hxj := ixk_n (n := j) (N := 60) (by omega) (by omega)
  obtain ⟨oF, eF⟩ := sim_find h (gi C 4 j 2)
  have n2 : ¬ (-2 : Int32) = 0 := by decide
  have n1 : ¬ (1 : Int32) = 0 := by decide
  unfold m_unregister_ok m_unregister unM
  rw [ej, (h.jb j hj).2.1, eF, rgOf_fd]
  cases hf : fdP C (gi C 4 j 2) with
  | none =>
    obtain ⟨c1, c2⟩ := oI_none (rfl : (none : Option Nat) = none)
    rw [if_pos c1]
    exact ⟨⟨hxj, oF, fun _ => fin_ok h (by omega) hj _, fun z => absurd c1 z⟩, r, (endR_n n2).symm, h.up (by omega), kk_rf C, n2⟩
  | some p =>
    obtain ⟨hp, hps⟩ := fdP_lt hf
    obtain ⟨c1, c2, c3, c4⟩ := oI_some (rfl : some p = some p) (by omega : p < 100)
    rw [if_neg c1, c4, c3, (h.rg p hp).2.2.2.2.2]
    have hxp := ixk_n (n := p) (N := 6) (by omega) (by omega)
    show _ ∧ ∃ r', _ = endR r' j (if gi C 5 (rgx C p) 5 = 0 then ((1 : Int32), tcM (si C 5 (rgx C p) 5 1) (rgx C p)) else (-2, C)).1 ∧ Rq T (if gi C 5 (rgx C p) 5 = 0 then ((1 : Int32), tcM (si C 5 (rgx C p) 5 1) (rgx C p)) else (-2, C)).2 r' (B + 10) ∧ kk C (if gi C 5 (rgx C p) 5 = 0 then ((1 : Int32), tcM (si C 5 (rgx C p) 5 1) (rgx C p)) else (-2, C)).2 ∧ ¬ (if gi C 5 (rgx C p) 5 = 0 then ((1 : Int32), tcM (si C 5 (rgx C p) 5 1) (rgx C p)) else (-2, C)).1 = 0
    by_cases d : gi C 5 (rgx C p) 5 = 0
    · rw [if_pos d, if_pos d]
      have h1 := sim_lv h hp 1 (Or.inr rfl)
      obtain ⟨o2, v2, h2⟩ := sim_clear h1 (by omega) (p := p) hp
      refine ⟨⟨hxj, oF, fun z => absurd z (by rw [← c3]; exact c1), fun _ => ⟨hxp, fun _ => ⟨o2, fin_ok h2 (by omega) (by rw [(tcM_kk h1.w h1.d (p := p) hp).2.2.2.1]; exact hj) _⟩, fun z => absurd d z⟩⟩, (m_clearAway (ru r 37 p 1) (nI p)).2, (endR_n n1).symm, h2.up (by omega), kk_tr (kk_s5 C _ 5 1 (by omega)) (tcM_kk h1.w h1.d (p := p) hp), n1⟩
    · rw [if_neg d, if_neg d]
      exact ⟨⟨hxj, oF, fun z => absurd z (by rw [← c3]; exact c1), fun _ => ⟨hxp, fun z => absurd z d, fun _ => fin_ok h (by omega) hj _⟩⟩, r, (endR_n n2).symm, h.up (by omega), kk_rf C, n2⟩
theorem sim_update {C : mM} {r : rR} {B : Nat} (h : Rq T C r B) (hB : B + 10 < 1000000) {j : Nat} (hj : j < gn C 4) : m_update_ok r (nI j) ∧ ∃ r', m_update r (nI j) = endR r' j (buM C (gi C 4 j 2)).1 ∧ Rq T (buM C (gi C 4 j 2)).2 r' (B + 10) ∧ kk C (buM C (gi C 4 j 2)).2 ∧ ((buM C (gi C 4 j 2)).1 = 0 → hasIn (buM C (gi C 4 j 2)).2 (gi C 4 j 2)) := by
  have hN := w_nrl h.w
  have hN7 := w_nwl h.w
  have hNj := w_njl h.w
  have ej : (nI j).toNatClampNeg = j := nI_clamp (by omega)
  have hxj := ixk_n (n := j) (N := 60) (by omega) (by omega)
  obtain ⟨oF, eF⟩ := sim_find h (gi C 4 j 2)
  have n2 : ¬ (-2 : Int32) = 0 := by decide
  have n4 : ¬ (-4 : Int32) = 0 := by decide
  have n5 : ¬ (-5 : Int32) = 0 := by decide
  have n22 : ¬ (2 : Int32) = 0 := by decide
  have hdn : r 18 35 = 0 ↔ ¬ gi C 0 0 1 = 0 := by
    rw [h.ne.2]
    by_cases z : gi C 0 0 1 = 0
    · rw [if_pos z]; exact ⟨fun y => absurd y (by decide), fun y => absurd z y⟩
    · rw [if_neg z]; exact ⟨fun _ => z, fun _ => rfl⟩
  have e40 : nI (gn C 7) = 40 ↔ gn C 7 = 40 := nI_eq (b := 40) (by omega) (by omega)
  have kkC := kk_rf C
  have fo : ∀ y, m_finish_ok r (nI j) y := fun y => fin_ok h (by omega) hj y
  have stay : ∀ y : Int32, ¬ y = 0 → ∃ r', m_finish r (nI j) y = endR r' j ((y, C) : Int32 × mM).1 ∧ Rq T ((y, C) : Int32 × mM).2 r' (B + 10) ∧ kk C ((y, C) : Int32 × mM).2 ∧ (((y, C) : Int32 × mM).1 = 0 → hasIn ((y, C) : Int32 × mM).2 (gi C 4 j 2)) := fun y hy => ⟨r, (endR_n hy).symm, h.up (by omega), kkC, fun z => absurd z hy⟩
  unfold m_update_ok m_update buM
  rw [ej, (h.jb j hj).2.1, eF, rgOf_fd]
  cases hf : fdP C (gi C 4 j 2) with
  | none =>
    obtain ⟨c1, c2⟩ := oI_none (rfl : (none : Option Nat) = none)
    rw [if_pos c1]
    exact ⟨⟨hxj, oF, fun _ => fo _, fun z => absurd c1 z⟩, stay (-2) n2⟩
  | some p =>
    obtain ⟨hp, hps⟩ := fdP_lt hf
    obtain ⟨c1, c2, c3, c4⟩ := oI_some (rfl : some p = some p) (by omega : p < 100)
    have c1' : ¬ nI p < 0 := by rw [← c3]; exact c1
    obtain ⟨k, hk, hsk⟩ := h.o.2.1 (rgx C p) (h.d.1 p hp)
    have hxp := ixk_n (n := p) (N := 6) (by omega) (by omega)
    rw [if_neg c1, c4, c3, (h.rg p hp).2.2.2.2.2, (h.rg p hp).2.1, hsk, h.nw]
    obtain ⟨oS, eS⟩ := sim_isSame h hp hk
    rw [hsk] at eS
    dsimp only [Option.map]
    by_cases d1 : gi C 5 (rgx C p) 5 = 0
    · rw [if_pos d1, if_pos d1]
      by_cases d2 : gi C 0 0 1 = 0
      · have d2' : ¬ r 18 35 = 0 := fun z => hdn.mp z d2
        rw [if_neg d2', if_pos d2]
        exact ⟨⟨hxj, oF, fun z => absurd z c1', fun _ => ⟨hxp, fun _ => ⟨fun z => absurd z d2', fun _ => fo _⟩, fun z => absurd d1 z⟩⟩, stay (-4) n4⟩
      · have d2' : r 18 35 = 0 := hdn.mpr d2
        rw [if_pos d2', if_neg d2]
        by_cases d3 : gn C 7 = 40
        · rw [if_pos (e40.mpr d3), if_neg (show ¬ gn C 7 < 40 by omega)]
          exact ⟨⟨hxj, oF, fun z => absurd z c1', fun _ => ⟨hxp, fun _ => ⟨fun _ => ⟨fun _ => fo _, fun z => absurd (e40.mpr d3) z⟩, fun z => absurd d2' z⟩, fun z => absurd d1 z⟩⟩, stay (-5) n5⟩
        · have d3' : ¬ nI (gn C 7) = 40 := fun z => d3 (e40.mp z)
          rw [if_neg d3', if_pos (show gn C 7 < 40 by omega)]
          by_cases d4 : upD C (rgx C p) = true
          · have d4' : ¬ m_isSame r (nI p) (nI k) = 0 := fun z => eS.mp z ⟨rfl, d4⟩
            rw [if_neg d4', if_pos d4]
            exact ⟨⟨hxj, oF, fun z => absurd z c1', fun _ => ⟨hxp, fun _ => ⟨fun _ => ⟨fun z => absurd z d3', fun _ => ⟨oS, fun z => absurd z d4', fun _ => fo _⟩⟩, fun z => absurd d2' z⟩, fun z => absurd d1 z⟩⟩, stay 2 n22⟩
          · have d4' : m_isSame r (nI p) (nI k) = 0 := eS.mpr (fun z => d4 z.2)
            rw [if_pos d4', if_neg d4]
            obtain ⟨oI', hI⟩ := sim_install h (by omega) (by omega) hp hk
            have ek : (nI k).toNatClampNeg = k := nI_clamp (by omega)
            obtain ⟨kb, hin⟩ := bi_kk h hp k
            rw [hps] at hin
            rw [hsk, ek]
            exact ⟨⟨hxj, oF, fun z => absurd z c1', fun _ => ⟨hxp, fun _ => ⟨fun _ => ⟨fun z => absurd z d3', fun _ => ⟨oS, fun _ => oI', fun z => absurd d4' z⟩⟩, fun z => absurd d2' z⟩, fun z => absurd d1 z⟩⟩, _, (if_pos rfl).symm, hI.up (by omega), kb, fun _ => hin⟩
    · rw [if_neg d1, if_neg d1]
      exact ⟨⟨hxj, oF, fun z => absurd z c1', fun _ => ⟨hxp, fun z => absurd z d1, fun _ => fo _⟩⟩, stay (-2) n2⟩
end SIM24
