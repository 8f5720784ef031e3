section SIM27
variable {T : Int32}
/-- .. but for one scope -/
def kx (x : Int32) (M M' : mM) : Prop := (wU M → wU M') ∧ (wS M → wS M') ∧ (∀ s, s ≠ x → hasIn M s → hasIn M' s) ∧ kj M M'
theorem kx_kk {x : Int32} {A B C : mM} (h : kx x A B) (g : kk B C) : kx x A C := ⟨fun z => g.1 (h.1 z), fun z => g.2.1 (h.2.1 z), fun s hs z => g.2.2.1 s (h.2.2.1 s hs z), kj_tr h.2.2.2 g.2.2.2⟩
theorem kk_kx {x : Int32} {A B : mM} (h : kk A B) : kx x A B := ⟨h.1, h.2.1, fun s _ z => h.2.2.1 s z, h.2.2.2⟩
theorem fi0_kx {C : mM} (hd : wD C) {p : Nat} (hp : p < nRg C) : kx (gi C 5 (rgx C p) 0) C (fi0 C (rgx C p)) := by
  have e : ∀ i j, gr (fi0 C (rgx C p)) 5 i j = if i = rgx C p ∧ j = 2 then none else gr C 5 i j := fun i j => by
    unfold fi0; rw [gr_sr]
    by_cases h : i = rgx C p ∧ j = 2
    · rw [if_pos h, if_pos ⟨rfl, h⟩]
    · rw [if_neg h, if_neg (fun z => h z.2)]
  refine ⟨fun hU q hq => ?_, fun hS => hS, fun s hs ⟨i, h1, h2, h3⟩ => ⟨i, h1, h2, ?_⟩, rfl, fun _ _ => rfl⟩
  · have hx : rgx (fi0 C (rgx C p)) q = rgx C q := rfl
    obtain ⟨u1, u2, u3⟩ := hU q hq
    rw [hx, e, e, e, if_neg (by omega : ¬ (rgx C q = rgx C p ∧ 3 = 2)), if_neg (by omega : ¬ (rgx C q = rgx C p ∧ 4 = 2))]
    refine ⟨u1, ?_, ?_⟩
    · split
      · exact Or.inl rfl
      · exact u2
    · split
      · exact Or.inl rfl
      · exact u3
  · have hx : rgx (fi0 C (rgx C p)) i = rgx C i := rfl
    have hne : ¬ (rgx C i = rgx C p ∧ 2 = 2) := fun z => hs (by rw [← h2]; show gi C 5 (rgx C i) 0 = _; rw [z.1])
    rw [hx, e, if_neg hne]; exact h3
theorem fi1_gr (C : mM) (g w i j : Nat) : gr (fi1 (fi0 C g) g w) 5 i j = if i = g ∧ j = 3 then some w else if i = g ∧ j = 2 then none else gr C 5 i j := by
  unfold fi1
  rw [gr_sr, (brM_kv _ _ _).2.2.2]
  unfold fi0
  rw [gr_sr]
  by_cases h : i = g ∧ j = 3
  · rw [if_pos h, if_pos ⟨rfl, h⟩]
  · rw [if_neg h, if_neg (fun z => h z.2)]
    by_cases h2 : i = g ∧ j = 2
    · rw [if_pos h2, if_pos ⟨rfl, h2⟩]
    · rw [if_neg h2, if_neg (fun z => h2 z.2)]
theorem fi1_kx {C : mM} (hd : wD C) {p w : Nat} (hp : p < nRg C) (hw : gr C 5 (rgx C p) 2 = some w) : kx (gi C 5 (rgx C p) 0) C (fi1 (fi0 C (rgx C p)) (rgx C p) w) := by
  have kb := brM_kv (fi0 C (rgx C p)) (gr (fi0 C (rgx C p)) 5 (rgx C p) 3) 4
  have en : nRg (fi1 (fi0 C (rgx C p)) (rgx C p) w) = nRg C := kb.1
  have ex : ∀ i, rgx (fi1 (fi0 C (rgx C p)) (rgx C p) w) i = rgx C i := fun i => kb.2.1 i
  have eg : ∀ i j, gi (fi1 (fi0 C (rgx C p)) (rgx C p) w) 5 i j = gi C 5 i j := fun i j => kb.2.2.1 i j
  refine ⟨fun hU q hq => ?_, fun hS i j hi hj => ?_, fun s hs ⟨i, h1, h2, h3⟩ => ⟨i, by rw [en]; exact h1, by rw [ex, eg]; exact h2, ?_⟩, kj_tr (B := fi0 C (rgx C p)) ⟨rfl, fun _ _ => rfl⟩ (kj_tr (brM_kj _ _ _) ⟨rfl, fun _ _ => rfl⟩)⟩
  · rw [en] at hq
    obtain ⟨u1, u2, u3⟩ := hU q hq
    rw [ex, fi1_gr, fi1_gr, fi1_gr]
    by_cases hqp : rgx C q = rgx C p
    · have : q = p := hd.2 q p hq hp hqp
      subst this
      simp
      rw [hw] at u2
      rcases u2 with z | z
      · cases z
      · intro y; exact z y
    · simp [hqp]; exact ⟨u1, u2, u3⟩
  · rw [en] at hi hj
    rw [ex, ex, eg, eg]; exact hS i j hi hj
  · have hne : ¬ rgx C i = rgx C p := fun z => hs (by rw [← h2, z])
    rw [ex, fi1_gr, if_neg (fun z => hne z.1), if_neg (fun z => hne z.1)]; exact h3
theorem sim_installed {C : mM} {r : rR} {B : Nat} (h : Rq T C r B) (hB : B + 20 < 1000000) (hU : wU C) {j : Nat} (hj : j < gn C 4) {p w : Nat} (hf : fdP C (gi C 4 j 2) = some p) (hw2 : gr C 5 (rgx C p) 2 = some w) : m_installed_ok r (nI j) ∧ ∃ r', m_installed r (nI j) = endR r' j (fiM C (gi C 4 j 2)).1 ∧ Rq T (fiM C (gi C 4 j 2)).2 r' (B + 20) ∧ kx (gi C 4 j 2) C (fiM C (gi C 4 j 2)).2 ∧ ¬ (fiM C (gi C 4 j 2)).1 = 0 := by
  have hN := w_nrl h.w
  have hN7 := w_nwl h.w
  have hNj := w_njl h.w
  have ej : (nI j).toNatClampNeg = j := nI_clamp (by omega)
  have hxj := ixk_n (n := j) (N := 60) (by omega) (by omega)
  obtain ⟨hp, hps⟩ := fdP_lt hf
  obtain ⟨oF, eF⟩ := sim_find h (gi C 4 j 2)
  obtain ⟨d1, d2, d3, d4⟩ := oI_some (rfl : some p = some p) (by omega : p < 100)
  have hxp := ixk_n (n := p) (N := 6) (by omega) (by omega)
  obtain ⟨g0, g1, g2, g3, g4, g5⟩ := h.rg p hp
  obtain ⟨l2, l3, l4⟩ := h.rl p hp
  have hwl := l2 w hw2
  have ew : (nI (w + 1)).toNatClampNeg = w + 1 := nI_clamp (by omega)
  rw [hw2, num_s h.w hwl] at g2
  have ep : (nI p).toNatClampNeg = p := nI_clamp (by omega)
  have eM : fiM C (gi C 4 j 2) = fiG C (rgx C p) w := by
    unfold fiM; rw [rgOf_fd, hf]; dsimp only [Option.map]; rw [hw2]
  have h1 : Rq T (fi0 C (rgx C p)) (ru r 34 p 0) B := sim_in h hp none (fun z hz => by cases hz)
  have n3 : ¬ (-3 : Int32) = 0 := by decide
  have n1 : ¬ (1 : Int32) = 0 := by decide
  unfold m_installed_ok m_installed
  rw [ej, (h.jb j hj).2.1, eF, hf, d4, d3, g2, ew, (h.wk w hwl).2.2.1, eM]
  unfold fiG
  have hxw := ixk_n (n := w + 1) (N := 41) (by omega) (by omega)
  by_cases c1 : gi C 7 w 2 = 1
  · rw [if_pos c1, if_pos c1]
    obtain ⟨o2, h2⟩ := sim_come h1 (by omega) (w := w) hwl 4
    have kA := brM_kv (fi0 C (rgx C p)) (some w) 4
    have kpA := brM_kp (fi0 C (rgx C p)) (some w) 4
    have e35 : m_come (ru r 34 p 0) (nI (w + 1)) 4 35 p = r 35 p := by rw [come_n _ _ _ _ (by decide) (by decide) (by decide), ru_n _ _ (by omega)]
    have e36 : m_come (ru r 34 p 0) (nI (w + 1)) 4 36 p = r 36 p := by rw [come_n _ _ _ _ (by decide) (by decide) (by decide), ru_n _ _ (by omega)]
    rw [e35, e36, g3, g4]
    have z3 := num_0 h.w l3
    have z4 := num_0 h.w l4
    have hpA : p < nRg (fiA C (rgx C p) w) := by show p < nRg (brM (fi0 C (rgx C p)) (some w) 4); rw [kA.1]; exact hp
    have exA : rgx (fiA C (rgx C p) w) p = rgx C p := kA.2.1 p
    have grA : ∀ q, gr (fiA C (rgx C p) w) 5 (rgx C p) q = if q = 2 then none else gr C 5 (rgx C p) q := fun q => by
      show gr (brM (fi0 C (rgx C p)) (some w) 4) 5 (rgx C p) q = _
      rw [kA.2.2.2]; unfold fi0; rw [gr_sr]
      by_cases hq : q = 2
      · rw [if_pos hq, if_pos ⟨rfl, rfl, hq⟩]
      · rw [if_neg hq, if_neg (fun z => hq z.2.2)]
    have eN : nwst (fiA C (rgx C p) w) (rgx C p) = match gr C 5 (rgx C p) 3 with
        | some i => some i
        | none => gr C 5 (rgx C p) 4 := by
      unfold nwst; rw [grA, grA, grA, if_pos rfl, if_neg (by omega), if_neg (by omega)]
      cases gr C 5 (rgx C p) 3 <;> rfl
    have kx0 := fi0_kx h.d hp
    have kxA : kx (gi C 4 j 2) C (fiA C (rgx C p) w) := by rw [← hps]; exact kx_kk kx0 (kk_of kA (brM_kj _ _ _))
    have hjA : j < gn (fiA C (rgx C p) w) 4 := by rw [kxA.2.2.2.1]; exact hj
    have stay : nwst (fiA C (rgx C p) w) (rgx C p) ≠ none → ∃ r', m_finish (m_come (ru r 34 p 0) (nI (w + 1)) 4) (nI j) (-3) = endR r' j (((-3 : Int32), fiF (fiA C (rgx C p) w) (rgx C p))).1 ∧ Rq T (((-3 : Int32), fiF (fiA C (rgx C p) w) (rgx C p))).2 r' (B + 20) ∧ kx (gi C 4 j 2) C (((-3 : Int32), fiF (fiA C (rgx C p) w) (rgx C p))).2 ∧ ¬ (((-3 : Int32), fiF (fiA C (rgx C p) w) (rgx C p))).1 = 0 := by
      intro hz
      have e : fiF (fiA C (rgx C p) w) (rgx C p) = fiA C (rgx C p) w := if_neg hz
      rw [e]
      exact ⟨_, (endR_n n3).symm, h2.up (by omega), kxA, n3⟩
    have fo := fun y => fin_ok h2 (by omega) hjA y
    by_cases c3 : num C (gr C 5 (rgx C p) 3) = 0
    · rw [if_pos c3]
      have w3 := z3.mp c3
      by_cases c4 : num C (gr C 5 (rgx C p) 4) = 0
      · rw [if_pos c4]
        have w4 := z4.mp c4
        have hz : nwst (fiA C (rgx C p) w) (rgx C p) = none := by rw [eN, w3]; exact w4
        have e : fiF (fiA C (rgx C p) w) (rgx C p) = rmM (fiA C (rgx C p) w) (rgx C p) := if_pos hz
        obtain ⟨o3, h3⟩ := sim_go h2 (p := p) hpA
        have exA' : rgx (brM (fi0 C (rgx C p)) (some w) 4) p = rgx C p := exA
        rw [exA'] at h3
        have kr := rmM_kk h2.w h2.d (p := p) hpA (by rw [exA']; exact (grA 2).trans (if_pos rfl))
        rw [exA'] at kr
        refine ⟨⟨hxj, oF, hxp, hxw, fun _ => ⟨o2, fun _ => ⟨fun _ => ⟨o3, fin_ok h3 (by omega) (by rw [kr.2.2.2.1]; exact hjA) _⟩, fun z => absurd c4 z⟩, fun z => absurd c3 z⟩, fun z => absurd c1 z⟩, ?_⟩
        rw [e]
        exact ⟨_, (endR_n n3).symm, h3.up (by omega), kx_kk kxA kr, n3⟩
      · rw [if_neg c4]
        exact ⟨⟨hxj, oF, hxp, hxw, fun _ => ⟨o2, fun _ => ⟨fun z => absurd z c4, fun _ => fo _⟩, fun z => absurd c3 z⟩, fun z => absurd c1 z⟩, stay (by rw [eN, w3]; exact fun z => c4 (z4.mpr z))⟩
    · rw [if_neg c3]
      refine ⟨⟨hxj, oF, hxp, hxw, fun _ => ⟨o2, fun z => absurd z c3, fun _ => fo _⟩, fun z => absurd c1 z⟩, stay ?_⟩
      rw [eN]
      cases hz : gr C 5 (rgx C p) 3 with
      | none => exact absurd (z3.mpr hz) c3
      | some a => simp
  · rw [if_neg c1, if_neg c1, g3]
    -- the one that waited becomes redundant
    have g53 : gr (fi0 C (rgx C p)) 5 (rgx C p) 3 = gr C 5 (rgx C p) 3 := by unfold fi0; rw [gr_sr, if_neg (by omega)]
    have kB := brM_kv (fi0 C (rgx C p)) (gr C 5 (rgx C p) 3) 4
    have kpB := brM_kp (fi0 C (rgx C p)) (gr C 5 (rgx C p) 3) 4
    have hB1 : (¬ num C (gr C 5 (rgx C p) 3) ≤ 0 → m_come_ok (ru r 34 p 0) (num C (gr C 5 (rgx C p) 3)) 4) ∧ Rq T (brM (fi0 C (rgx C p)) (gr C 5 (rgx C p) 3) 4) (if num C (gr C 5 (rgx C p) 3) ≤ 0 then ru r 34 p 0 else m_come (ru r 34 p 0) (num C (gr C 5 (rgx C p) 3)) 4) (B + 1) := by
      cases hz : gr C 5 (rgx C p) 3 with
      | none => rw [if_pos ((num_le h.w (by simp)).mpr rfl)]; exact ⟨fun z => absurd ((num_le h.w (by simp)).mpr rfl) z, h1.up (by omega)⟩
      | some a =>
        have ha := l3 a hz
        have hn : ¬ num C (some a) ≤ 0 := fun z => by cases (num_le h.w (by intro z hz; cases hz; exact ha)).mp z
        rw [if_neg hn, num_s h.w ha]
        have := sim_come h1 (by omega) (w := a) ha 4
        exact ⟨fun _ => this.1, this.2⟩
    have hpB : p < nRg (brM (fi0 C (rgx C p)) (gr C 5 (rgx C p) 3) 4) := by rw [kB.1]; exact hp
    have h3 := sim_wa hB1.2 (p := p) hpB (some w) (fun z hz => by cases hz; rw [kpB.1]; exact hwl)
    rw [num_s hB1.2.w (by rw [kpB.1]; exact hwl), kB.2.1] at h3
    have e1f : fi1 (fi0 C (rgx C p)) (rgx C p) w = sr (brM (fi0 C (rgx C p)) (gr C 5 (rgx C p) 3) 4) 5 (rgx C p) 3 (some w) := by unfold fi1; rw [g53]
    rw [show rgx (fi0 C (rgx C p)) p = rgx C p from rfl, ← e1f] at h3
    have kx1 := fi1_kx h.d hp hw2
    have kp1 : kp C (fi1 (fi0 C (rgx C p)) (rgx C p) w) := kp_tr (fi0_kp C (rgx C p)) (fi1_kp (fi0 C (rgx C p)) (rgx C p) w)
    obtain ⟨o4, h4⟩ := sim_come h3 (by omega) (w := w) (by rw [kp1.1]; exact hwl) 2
    have kp2 : kp C (fi2 (fi0 C (rgx C p)) (rgx C p) w) := kp_tr (fi0_kp C (rgx C p)) (fi2_kp (fi0 C (rgx C p)) (rgx C p) w)
    have k2 : kk (fi1 (fi0 C (rgx C p)) (rgx C p) w) (fi2 (fi0 C (rgx C p)) (rgx C p) w) := kk_of (brM_kv _ _ _) (brM_kj _ _ _)
    have kx2 := kx_kk kx1 k2
    have hp2 : p < nRg (fi2 (fi0 C (rgx C p)) (rgx C p) w) := by rw [kp_nRg kp2]; exact hp
    obtain ⟨o5, h5⟩ := sim_activate h4 (by omega) (p := p) hp2 ((kx2.1 hU) p hp2).1
    have ex2 : rgx (brM (fi1 (fi0 C (rgx C p)) (rgx C p) w) (some w) 2) p = rgx C p := kp_rgx kp2 p
    rw [ex2] at h5
    have kT := taM_kk h4.d (p := p) hp2
    rw [ex2] at kT
    have kxT := kx_kk kx2 kT
    rw [hps] at kxT
    have fo := fin_ok h5 (by omega) (by rw [show gn (taM (brM (fi1 (fi0 C (rgx C p)) (rgx C p) w) (some w) 2) (rgx C p)) 4 = gn C 4 from kxT.2.2.2.1]; exact hj) 1
    by_cases c2 : num C (gr C 5 (rgx C p) 3) ≤ 0
    · rw [if_pos c2] at h3 h4 h5 o4 o5 fo ⊢
      exact ⟨⟨hxj, oF, hxp, hxw, fun z => absurd z c1, fun _ => ⟨fun _ => ⟨o4, o5, fo⟩, fun z => absurd c2 z⟩⟩, _, (endR_n n1).symm, h5.up (by omega), kxT, n1⟩
    · rw [if_neg c2] at h3 h4 h5 o4 o5 fo ⊢
      exact ⟨⟨hxj, oF, hxp, hxw, fun z => absurd z c1, fun _ => ⟨fun z => absurd z c2, fun _ => ⟨hB1.1 c2, o4, o5, fo⟩⟩⟩, _, (endR_n n1).symm, h5.up (by omega), kxT, n1⟩
end SIM27
