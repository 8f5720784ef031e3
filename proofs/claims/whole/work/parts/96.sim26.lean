section SIM26
variable {T : Int32}
theorem upD_rr0 (C : mM) (g : Nat) : upD (rr0 C g) g = upD C g := by
  have e1 : nwst (rr0 C g) g = nwst C g := rfl
  have e2 : gi (rr0 C g) 5 g 1 = gi C 5 g 1 := rr0_g C g
  unfold upD
  rw [e1, e2]
  cases nwst C g <;> rfl
theorem sim_rr {C : mM} {r : rR} {B : Nat} (h : Rq T C r B) (hB : B + 10 < 1000000) (h40 : gn C 7 < 40) {p : Nat} (hp : p < nRg C) {k : Nat} (hk : k < 4) {j : Nat} (hj : j < gn C 4) : m_isSame_ok r (nI p) (nI k) ∧
    (m_isSame r (nI p) (nI k) = 0 → m_install_ok (ru (ru r 37 p 0) 33 p (nI k)) (nI p) (nI k) ∧ m_install (ru (ru r 37 p 0) 33 p (nI k)) (nI p) (nI k) = endR (m_install (ru (ru r 37 p 0) 33 p (nI k)) (nI p) (nI k)) j (rr2 C (rgx C p) (nI k)).1 ∧ Rq T (rr2 C (rgx C p) (nI k)).2 (m_install (ru (ru r 37 p 0) 33 p (nI k)) (nI p) (nI k)) (B + 10)) ∧
    (¬ m_isSame r (nI p) (nI k) = 0 → m_finish_ok (ru r 37 p 0) (nI j) 2 ∧ m_finish (ru r 37 p 0) (nI j) 2 = endR (ru r 37 p 0) j (rr2 C (rgx C p) (nI k)).1 ∧ Rq T (rr2 C (rgx C p) (nI k)).2 (ru r 37 p 0) (B + 10)) ∧
    kk C (rr2 C (rgx C p) (nI k)).2 ∧ ((rr2 C (rgx C p) (nI k)).1 = 0 → hasIn (rr2 C (rgx C p) (nI k)).2 (gi C 5 (rgx C p) 0)) := by
  have ek : (nI k).toNatClampNeg = k := nI_clamp (by omega)
  obtain ⟨oS, eS⟩ := sim_isSame h hp hk
  have h1 : Rq T (rr0 C (rgx C p)) (ru r 37 p 0) B := sim_lv h hp 0 (Or.inl rfl)
  have h2 : Rq T (rr1 C (rgx C p) (nI k)) (ru (ru r 37 p 0) 33 p (nI k)) B := sim_scr h1 (p := p) hp hk
  obtain ⟨oI', hI⟩ := sim_install h2 (by omega) (by exact h40) (p := p) hp hk
  have k0 : kk C (rr0 C (rgx C p)) := kk_s5 C _ 5 0 (by omega)
  have k1 : kk C (rr1 C (rgx C p) (nI k)) := kk_tr k0 (kk_s5 _ _ 1 _ (by omega))
  obtain ⟨kb, hin⟩ := bi_kk h2 (p := p) hp k
  have es0 : gi (rr1 C (rgx C p) (nI k)) 5 (rgx (rr1 C (rgx C p) (nI k)) p) 0 = gi C 5 (rgx C p) 0 := by
    show gi (si (si C 5 (rgx C p) 5 0) 5 (rgx C p) 1 (nI k)) 5 (rgx C p) 0 = _
    rw [gi_si, if_neg (by omega), gi_si, if_neg (by omega)]
  rw [es0] at hin
  refine ⟨oS, fun z => ?_, fun z => ?_, ?_⟩
  · have hc := eS.mp z
    have e : rr2 C (rgx C p) (nI k) = (0, biM (rr1 C (rgx C p) (nI k)) (rgx C p) k) := by
      unfold rr2; rw [upD_rr0, if_neg hc, ek]
    rw [e]
    exact ⟨oI', (if_pos rfl).symm, hI.up (by omega)⟩
  · have hc := Classical.not_not.mp (fun y => z (eS.mpr y))
    have e : rr2 C (rgx C p) (nI k) = (2, rr0 C (rgx C p)) := by
      unfold rr2; rw [upD_rr0, if_pos hc]
    rw [e]
    exact ⟨fin_ok h1 (by omega) hj 2, (endR_n (by decide)).symm, h1.up (by omega)⟩
  · by_cases hc : gi C 5 (rgx C p) 1 = nI k ∧ upD C (rgx C p) = true
    · have e : rr2 C (rgx C p) (nI k) = (2, rr0 C (rgx C p)) := by
        unfold rr2; rw [upD_rr0, if_pos hc]
      rw [e]
      exact ⟨k0, fun z => absurd (show (2 : Int32) = 0 from z) (by decide)⟩
    · have e : rr2 C (rgx C p) (nI k) = (0, biM (rr1 C (rgx C p) (nI k)) (rgx C p) k) := by
        unfold rr2; rw [upD_rr0, if_neg hc, ek]
      rw [e]
      exact ⟨kk_tr k1 kb, fun _ => hin⟩
theorem sim_register {C : mM} {r : rR} {B : Nat} (h : Rq T C r B) (hB : B + 10 < 1000000) {j : Nat} (hj : j < gn C 4) : m_register_ok r (nI j) ∧ ∃ r', m_register r (nI j) = endR r' j (rrM C j).1 ∧ Rq T (rrM C j).2 r' (B + 10) ∧ kk C (rrM C j).2 ∧ ((rrM C j).1 = 0 → hasIn (rrM C j).2 (gi C 4 j 2)) := by
  have hN := w_nrl h.w
  have hN7 := w_nwl h.w
  have hNj := w_njl h.w
  have ej : (nI j).toNatClampNeg = j := nI_clamp (by omega)
  have hxj := ixk_n (n := j) (N := 60) (by omega) (by omega)
  obtain ⟨b1, b2, b3, b4, b5, b6, b7⟩ := h.jb j hj
  obtain ⟨k, hk, hsk⟩ := h.o.2.2.1 j hj
  have ek : (nI k).toNatClampNeg = k := nI_clamp (by omega)
  have hxk := ixk_n (n := k) (N := 4) (by omega) (by omega)
  obtain ⟨oF, eF⟩ := sim_find h (gi C 4 j 2)
  obtain ⟨s1, s2, s3, s4, s5, s6⟩ := h.sc k hk
  obtain ⟨oB, eB⟩ := sim_begins s5 b6
  have n1 : ¬ (-1 : Int32) = 0 := by decide
  have n4 : ¬ (-4 : Int32) = 0 := by decide
  have n5 : ¬ (-5 : Int32) = 0 := by decide
  have hdn : r 18 35 = 0 ↔ ¬ gi C 0 0 1 = 0 := by
    rw [h.ne.2]
    by_cases z : gi C 0 0 1 = 0
    · rw [if_pos z]; exact ⟨fun y => absurd y (by decide), fun y => absurd z y⟩
    · rw [if_neg z]; exact ⟨fun _ => z, fun _ => rfl⟩
  have e40 : nI (gn C 7) = 40 ↔ gn C 7 = 40 := nI_eq (b := 40) (by omega) (by omega)
  have e5 : nI (nRg C) = 5 ↔ nRg C = 5 := nI_eq (b := 5) (by omega) (by omega)
  have fo : ∀ y, m_finish_ok r (nI j) y := fun y => fin_ok h (by omega) hj y
  have stay : ∀ y : Int32, ¬ y = 0 → ∃ r', m_finish r (nI j) y = endR r' j ((y, C) : Int32 × mM).1 ∧ Rq T ((y, C) : Int32 × mM).2 r' (B + 10) ∧ kk C ((y, C) : Int32 × mM).2 ∧ (((y, C) : Int32 × mM).1 = 0 → hasIn ((y, C) : Int32 × mM).2 (gi C 4 j 2)) := fun y hy => ⟨r, (endR_n hy).symm, h.up (by omega), kk_rf C, fun z => absurd z hy⟩
  unfold m_register_ok m_register rrM
  rw [ej, b2, b3, hsk, ek, s2, eF, h.nw, h.nr, rgOf_fd]
  by_cases c1 : bgs (gi C 1 k 1) (gi C 4 j 2) = true
  · have c1' : ¬ m_begins (gi C 1 k 1) (gi C 4 j 2) = 0 := fun z => by have := eB.mp z; rw [c1] at this; cases this
    rw [if_neg c1', if_pos c1]
    by_cases c2 : gi C 0 0 1 = 0
    · have c2' : ¬ r 18 35 = 0 := fun z => hdn.mp z c2
      rw [if_neg c2', if_pos c2]
      exact ⟨⟨hxj, oF, hxk, oB, fun z => absurd z c1', fun _ => ⟨fun z => absurd z c2', fun _ => fo _⟩⟩, stay (-4) n4⟩
    · have c2' : r 18 35 = 0 := hdn.mpr c2
      rw [if_pos c2', if_neg c2]
      cases hf : fdP C (gi C 4 j 2) with
      | none =>
        obtain ⟨d1, d2⟩ := oI_none (rfl : (none : Option Nat) = none)
        rw [if_neg d2]
        dsimp only [Option.map]
        by_cases c5 : nRg C = 5
        · rw [if_pos (e5.mpr c5), if_neg (show ¬ (nRg C < 5 ∧ gn C 7 < 40) by omega)]
          exact ⟨⟨hxj, oF, hxk, oB, fun z => absurd z c1', fun _ => ⟨fun _ => ⟨fun z => absurd z d2, fun _ => ⟨fun _ => fo _, fun z => absurd (e5.mpr c5) z⟩⟩, fun z => absurd c2' z⟩⟩, stay (-5) n5⟩
        · have c5' : ¬ nI (nRg C) = 5 := fun z => c5 (e5.mp z)
          rw [if_neg c5']
          by_cases c4 : gn C 7 = 40
          · rw [if_pos (e40.mpr c4), if_neg (show ¬ (nRg C < 5 ∧ gn C 7 < 40) by omega)]
            exact ⟨⟨hxj, oF, hxk, oB, fun z => absurd z c1', fun _ => ⟨fun _ => ⟨fun z => absurd z d2, fun _ => ⟨fun z => absurd z c5', fun _ => ⟨fun _ => fo _, fun z => absurd (e40.mpr c4) z⟩⟩⟩, fun z => absurd c2' z⟩⟩, stay (-5) n5⟩
          · have c4' : ¬ nI (gn C 7) = 40 := fun z => c4 (e40.mp z)
            have en : (nI (nRg C)).toNatClampNeg = nRg C := nI_clamp (by omega)
            rw [if_neg c4', if_pos d1, if_pos (show nRg C < 5 ∧ gn C 7 < 40 by omega), nI_1, en]
            have hA := sim_ar h (by omega) b6 hk
            have enA : nRg (rr1 (arM C (gi C 4 j 2)) (gn C 5) (nI k)) = nRg C + 1 := arM_n h.w (gi C 4 j 2) (by omega)
            have exA : rgx (rr1 (arM C (gi C 4 j 2)) (gn C 5) (nI k)) (nRg C) = gn C 5 := by
              have := arM_x (M := C) (gi C 4 j 2) (nRg C)
              rw [if_pos rfl] at this
              exact this
            obtain ⟨oI', hI⟩ := sim_install hA (by omega) (show gn C 7 < 40 by omega) (p := nRg C) (by rw [enA]; omega) hk
            rw [exA] at hI
            obtain ⟨a0, a1, a5, a2, a3, a4⟩ := arM_new C (gi C 4 j 2)
            have eu : upD (rr0 (arM C (gi C 4 j 2)) (gn C 5)) (gn C 5) = false := by
              rw [upD_rr0]; unfold upD nwst; rw [a2, a3, a4]
            have e2 : rr2 (arM C (gi C 4 j 2)) (gn C 5) (nI k) = (0, biM (rr1 (arM C (gi C 4 j 2)) (gn C 5) (nI k)) (gn C 5) k) := by
              unfold rr2; rw [eu, if_neg (fun z => by cases z.2), ek]
            rw [e2]
            have kA := ar_kk h.w h.d (by omega) hf (nI k)
            obtain ⟨kb, hin⟩ := bi_kk hA (p := nRg C) (by rw [enA]; omega) k
            rw [exA] at kb hin
            have es0 : gi (rr1 (arM C (gi C 4 j 2)) (gn C 5) (nI k)) 5 (gn C 5) 0 = gi C 4 j 2 := by
              rw [rr1_5, if_pos rfl, if_neg (by omega), if_neg (by omega), a0]
            rw [es0] at hin
            refine ⟨⟨hxj, oF, hxk, oB, fun z => absurd z c1', fun _ => ⟨fun _ => ⟨fun z => absurd z d2, fun _ => ⟨fun z => absurd z c5', fun _ => ⟨fun z => absurd z c4', fun _ => ⟨fun _ => ⟨ixk_n (by omega) (by omega), oI'⟩, fun z => absurd d1 z⟩⟩⟩⟩, fun z => absurd c2' z⟩⟩, _, (if_pos rfl).symm, hI.up (by omega), kk_tr kA kb, fun _ => hin⟩
      | some p =>
        obtain ⟨hp, hps⟩ := fdP_lt hf
        obtain ⟨d1, d2, d3, d4⟩ := oI_some (rfl : some p = some p) (by omega : p < 100)
        rw [if_pos d2]
        dsimp only [Option.map]
        by_cases c4 : gn C 7 = 40
        · rw [if_pos (e40.mpr c4), if_neg (show ¬ gn C 7 < 40 by omega)]
          exact ⟨⟨hxj, oF, hxk, oB, fun z => absurd z c1', fun _ => ⟨fun _ => ⟨fun _ => ⟨fun _ => fo _, fun z => absurd (e40.mpr c4) z⟩, fun z => absurd d2 z⟩, fun z => absurd c2' z⟩⟩, stay (-5) n5⟩
        · have c4' : ¬ nI (gn C 7) = 40 := fun z => c4 (e40.mp z)
          rw [if_neg c4', if_neg d1, if_pos (show gn C 7 < 40 by omega), d4, d3]
          have hxp := ixk_n (n := p) (N := 6) (by omega) (by omega)
          obtain ⟨oS, w0, w1, kkr, hin⟩ := sim_rr h hB (by omega) hp hk hj
          rw [hps] at hin
          have d1' : ¬ nI p < 0 := d1
          have d2' : 0 ≤ nI p := d2
          refine ⟨⟨hxj, oF, hxk, oB, fun z => absurd z c1', fun _ => ⟨fun _ => ⟨fun _ => ⟨fun z => absurd z c4', fun _ => ⟨fun z => absurd z d1', fun _ => ⟨oS, fun z => ⟨hxp, (w0 z).1⟩, fun z => ⟨hxp, (w1 z).1⟩⟩⟩⟩, fun z => absurd d2' z⟩, fun z => absurd c2' z⟩⟩, ?_⟩
          by_cases c6 : m_isSame r (nI p) (nI k) = 0
          · rw [if_pos c6]
            exact ⟨_, (w0 c6).2.1, (w0 c6).2.2, kkr, hin⟩
          · rw [if_neg c6]
            exact ⟨_, (w1 c6).2.1, (w1 c6).2.2, kkr, hin⟩
  · have c1' : m_begins (gi C 1 k 1) (gi C 4 j 2) = 0 := eB.mpr (by cases hb : bgs (gi C 1 k 1) (gi C 4 j 2) with
      | false => rfl
      | true => exact absurd hb c1)
    rw [if_pos c1', if_neg c1]
    exact ⟨⟨hxj, oF, hxk, oB, fun _ => fo _, fun z => absurd c1' z⟩, stay (-1) n1⟩
end SIM26
