section SIM15
variable {T : Int32}
theorem sim_sk {C : mM} {r : rR} {B : Nat} (h : Rq T C r B) {w : Nat} (hw : w < gn C 7) : Rq T (si C 7 w 6 1) (ru r 31 (w + 1) 1) B := by
  have hk : kp C (si C 7 w 6 1) := kp_si _ _ _ _ _ (by omega)
  have e := kp_num hk
  refine (Rq.mk h.th (kp_w hk h.w) (kq_o (kp_q hk) h.o) (kp_D hk h.d) h.sc h.ne h.nw (fun i hi => ?_) h.ca h.nr (fun i hi => ?_) h.rl h.rp (fun i hi => ?_) h.cq (fun i hi => ?_) h.nj h.jb h.tr)
  · obtain ⟨h1, h2, h3, h4, h5, h6, h7, h8⟩ := h.wk i hi
    simp only [gi_si]
    unfold ru
    by_cases hi2 : i = w
    · subst hi2; simp; exact ⟨h1, h2, h3, h4, h5, h7⟩
    · simp [hi2]; exact ⟨h1, h2, h3, h4, h5, h6, h7, h8⟩
  · simp only [e]; exact h.rg i hi
  · simp only [e]; exact h.cl i hi
  · simp only [e]; exact h.fz i hi
theorem sim_skip {C : mM} {r : rR} {B : Nat} (h : Rq T C r B) (hB : B + 100 < 1000000) (hV : Iv C) (x : Int32) : m_skip_ok r x ∧ Ans C B (fSk C x) (m_skip r x).1 (m_skip r x).2 ∧ Iv (aft C (fSk C x)) := by
  have hN := w_nrl h.w
  have hN7 := w_nwl h.w
  obtain ⟨oP, eP⟩ := sim_isPath x
  obtain ⟨oF, eF⟩ := sim_find h x
  unfold m_skip_ok m_skip
  have no : ∀ k, k ≠ 0 → (fSk C x).1 = k → Ans C B (fSk C x) 0 (ru r 18 34 (nI k)) ∧ Iv (aft C (fSk C x)) := fun k hk hF => ⟨ans_no h hF hk 0, by rw [aft_no (by rw [hF]; exact hk)]; exact hV⟩
  by_cases c1 : m_isPath x = 0
  · rw [if_pos c1]
    exact ⟨⟨oP, fun _ => trivial, fun z => absurd c1 z⟩, no 1 (by omega) (by unfold fSk ndXc; exact if_pos (eP.mp c1))⟩
  have hP := isP_of eP c1
  have hnP : ¬ isP x = false := by rw [hP]; simp
  rw [if_neg c1]
  cases hf : fdP C x with
  | none =>
    have eR : rgOf C x = none := by rw [rgOf_fd, hf]; rfl
    rw [hf] at eF
    have eF : m_find r x = -1 := eF
    have c3 : ¬ 0 ≤ m_find r x := by rw [eF]; decide
    rw [if_neg c3]
    exact ⟨⟨oP, fun z => absurd z c1, fun _ => ⟨oF, fun z => absurd z c3, fun _ => trivial⟩⟩, no 2 (by omega) (by unfold fSk ndXc; dsimp only; rw [if_neg hnP, eR])⟩
  | some p =>
    have eR : rgOf C x = some (rgx C p) := by rw [rgOf_fd, hf]; rfl
    rw [hf] at eF
    have eF : m_find r x = nI p := eF
    obtain ⟨hp, hps⟩ := fdP_lt hf
    have ep : (nI p).toNatClampNeg = p := nI_clamp (by omega)
    have c3 : 0 ≤ nI p := nI_pos' (by omega)
    have hx := ixk_n (n := p) (N := 6) (by omega) (by omega)
    obtain ⟨g0, g1, g2, g3, g4, g5⟩ := h.rg p hp
    obtain ⟨l2, l3, l4⟩ := h.rl p hp
    rw [eF, ep, if_pos c3, g2, g3]
    have go : ∀ w, w < gn C 7 → skW C (rgx C p) = some w → m_activate_ok (ru (ru r 18 34 0) 31 (w + 1) 1) (nI p) ∧ Ans C B (fSk C x) (nI (w + 1)) (m_activate (ru (ru r 18 34 0) 31 (w + 1) 1) (nI p)) ∧ Iv (aft C (fSk C x)) := by
      intro w hw hs
      have hF : fSk C x = (0, gi C 7 w 0, skM C (rgx C p) w) := by
        unfold fSk ndXc
        rw [if_neg hnP, eR]
        dsimp only
        rw [hs]
        rfl
      have h1 := sim_sk (sim_th h 0) hw
      obtain ⟨o2, h2⟩ := sim_activate h1 (by omega) hp (hV.1 p hp).1
      have kk1 : kk C (si C 7 w 6 1) := kk_of ⟨rfl, fun _ => rfl, fun _ _ => rfl, fun _ _ => rfl⟩ ⟨rfl, fun _ _ => rfl⟩
      refine ⟨o2, ?_, ?_⟩
      · rw [hF]; exact ans_yes rfl (w_num h.w hw).symm (h2.up (by omega))
      · rw [hF]; exact aft_kk (fun _ => kk_tr kk1 (taM_kk h1.d hp)) hV
    cases hw3 : gr C 5 (rgx C p) 3 with
    | some n =>
      have hn := l3 n hw3
      have en : (nI (n + 1)).toNatClampNeg = n + 1 := nI_clamp (by omega)
      have d1 : ¬ nI (n + 1) ≤ 0 := nI_nle (by omega) (by omega)
      have d2 : ¬ nI (n + 1) = 0 := nI_ne0 (by omega) (by omega)
      obtain ⟨o2, A2⟩ := go n hn (by unfold skW; rw [hw3])
      rw [num_s h.w hn, if_neg d1, if_neg d2, en]
      exact ⟨⟨oP, fun z => absurd z c1, fun _ => ⟨oF, fun _ => ⟨hx, fun z => absurd z d1, fun _ => ⟨fun z => absurd z d2, fun _ => ⟨ixk_n (by omega) (by omega), o2⟩⟩⟩, fun z => absurd c3 z⟩⟩, A2⟩
    | none =>
      have d1 : num C none ≤ 0 := by show (0 : Int32) ≤ 0; decide
      rw [if_pos d1]
      cases hw2 : gr C 5 (rgx C p) 2 with
      | none =>
        have d2 : num C none = 0 := rfl
        rw [if_pos d2]
        refine ⟨⟨oP, fun z => absurd z c1, fun _ => ⟨oF, fun _ => ⟨hx, fun _ => ⟨fun _ => trivial, fun z => absurd d2 z⟩, fun z => absurd d1 z⟩, fun z => absurd c3 z⟩⟩, no 3 (by omega) ?_⟩
        unfold fSk ndXc; dsimp only; rw [if_neg hnP, eR]; dsimp only
        have : skW C (rgx C p) = none := by unfold skW; rw [hw3]; exact hw2
        rw [this]; rfl
      | some n =>
        have hn := l2 n hw2
        have en : (nI (n + 1)).toNatClampNeg = n + 1 := nI_clamp (by omega)
        have d2 : ¬ nI (n + 1) = 0 := nI_ne0 (by omega) (by omega)
        obtain ⟨o2, A2⟩ := go n hn (by unfold skW; rw [hw3]; exact hw2)
        rw [num_s h.w hn, if_neg d2, en]
        exact ⟨⟨oP, fun z => absurd z c1, fun _ => ⟨oF, fun _ => ⟨hx, fun _ => ⟨fun z => absurd z d2, fun _ => ⟨ixk_n (by omega) (by omega), o2⟩⟩, fun z => absurd d1 z⟩, fun z => absurd c3 z⟩⟩, A2⟩
theorem sim_fz {C : mM} {r : rR} {B : Nat} (h : Rq T C r B) {n : Nat} (q : Option Nat) (hq : ∀ z, q = some z → z < gn C 7) : Rq T (sr C 12 0 n q) (ru r 47 n (num C q)) B := by
  have hk : kp C (sr C 12 0 n q) := kp_sr _ _ _ _ _ (by omega)
  refine (Rq.mk h.th (kp_w hk h.w) (kq_o (kp_q hk) h.o) (kp_D hk h.d) h.sc h.ne h.nw h.wk h.ca h.nr h.rg h.rl h.rp h.cl h.cq (fun i hi => ?_) h.nj h.jb h.tr)
  obtain ⟨h1, h2⟩ := h.fz i hi
  have hn : ∀ z, num (sr C 12 0 n q) z = num C z := fun z => rfl
  rw [hn, gr_sr]
  unfold ru
  by_cases hi2 : i = n
  · subst hi2; simp; exact hq
  · simp [hi2]; exact ⟨h1, h2⟩
theorem cl_step (C : mM) (g a i : Nat) : clL C g a (i + 1) = if cmQ (clL C g a i).1 g a i = true then (cm1 (clL C g a i).1 a i (clL C g a i).2, (clL C g a i).2 + 1) else clL C g a i := rfl
theorem clL_kv (C : mM) (g a i : Nat) : kv C (clL C g a i).1 ∧ kj C (clL C g a i).1 ∧ (clL C g a i).2 ≤ i := by
  induction i with
  | zero => exact ⟨kv_rf _, kj_rf _, Nat.le_refl _⟩
  | succ i ih =>
    rw [cl_step]
    split
    · refine ⟨kv_tr ih.1 (kv_tr (B := sr (clL C g a i).1 12 0 (clL C g a i).2 (gr (clL C g a i).1 2 i 2)) ⟨rfl, fun _ => rfl, fun _ _ => rfl, fun _ _ => rfl⟩ (ctM_kv _ _ _)), kj_tr ih.2.1 (kj_tr (B := sr (clL C g a i).1 12 0 (clL C g a i).2 (gr (clL C g a i).1 2 i 2)) ⟨rfl, fun _ _ => rfl⟩ (ctM_kj _ _ _)), ?_⟩
      show (clL C g a i).2 + 1 ≤ i + 1
      have := ih.2.2; omega
    · exact ⟨ih.1, ih.2.1, by have := ih.2.2; omega⟩
theorem claim2 {A : mM} {n : Nat} (hn : n ≤ 8) (v1 v2 : Int32) : ∀ k i r B, i + k = n → B + 100 < 1000000 → Rq 0 (cs2 A i) r (B + 10 * i) → wU (cs2 A i) → m_claim_L142_ok (k + 1) r v1 v2 (nI n) (nI i) ∧ (m_claim_L142 (k + 1) r v1 v2 (nI n) (nI i)).1 = nI n ∧ Rq 0 (cs2 A n) (m_claim_L142 (k + 1) r v1 v2 (nI n) (nI i)).2 (B + 80) ∧ kk (cs2 A i) (cs2 A n) := by
  intro k
  induction k with
  | zero =>
    intro i r B hik hB h hU
    have : i = n := by omega
    subst this
    have c0 : nI i ≤ nI i := Int32.le_refl _
    unfold m_claim_L142_ok m_claim_L142
    rw [if_pos c0]
    exact ⟨⟨fun _ => trivial, fun z => absurd c0 z⟩, rfl, h.up (by omega), kk_rf _⟩
  | succ k ih =>
    intro i r B hik hB h hU
    have ec : (nI i).toNatClampNeg = i := nI_clamp (by omega)
    have c0 : ¬ nI n ≤ nI i := nI_ge (by omega) (by omega)
    obtain ⟨f1, f2⟩ := h.fz i (by omega)
    obtain ⟨o2, h2⟩ := sim_settle h (by omega) hU (gr (cs2 A i) 12 0 i) f2
    have kk2 := stM_kk h.w h.d (gr (cs2 A i) 12 0 i)
    rw [← f1] at o2 h2
    have h9 := ih (i + 1) (m_settle r (r 47 i)) B (by omega) hB (by have e : 10 * (i + 1) = 10 * i + 10 := by omega
                                                                    rw [e]; exact h2) (kk2.1 hU)
    unfold m_claim_L142_ok m_claim_L142
    rw [if_neg c0, ec, nI_1]
    exact ⟨⟨fun z => absurd z c0, fun _ => ⟨ixk_n (by omega) (by omega), o2, h9.1⟩⟩, h9.2.1, h9.2.2.1, kk_tr kk2 h9.2.2.2⟩
theorem oI_eq {q : Option Nat} {p : Nat} (h : ∀ z, q = some z → z < 100) (hp : p < 100) : oI q = nI p ↔ q = some p := by
  cases q with
  | none => exact ⟨fun z => absurd (show (-1 : Int32) < 0 by decide) (by rw [show (-1 : Int32) = nI p from z]; exact nI_pos (by omega)), fun z => by cases z⟩
  | some a =>
    have ha := h a rfl
    show nI a = nI p ↔ _
    rw [nI_eq (by omega) (by omega)]
    exact ⟨fun z => by rw [z], fun z => Option.some.inj z⟩
theorem claim1 {C : mM} (hdC : wD C) {p a : Nat} (hp : p < nRg C) (ha : gr C 5 (rgx C p) 4 = some a) (hal : a < gn C 7) (v1 : Int32) : ∀ k i r B, i + k = 8 → B + 200 < 1000000 → Rq 0 (clL C (rgx C p) a i).1 r (B + i) → wU C → wS C →
    m_claim_L54_ok (k + 1) r v1 (nI p) (nI (clL C (rgx C p) a i).2) (nI i) ∧ (m_claim_L54 (k + 1) r v1 (nI p) (nI (clL C (rgx C p) a i).2) (nI i)).1 = nI (clL C (rgx C p) a 8).2 ∧ Rq 0 (cmM C (rgx C p) a) (m_claim_L54 (k + 1) r v1 (nI p) (nI (clL C (rgx C p) a i).2) (nI i)).2 (B + 88) ∧ kk C (cmM C (rgx C p) a) := by
  intro k
  induction k with
  | zero =>
    intro i r B hik hB h hU hS
    have : i = 8 := by omega
    subst this
    obtain ⟨kv1, kj1, n1⟩ := clL_kv C (rgx C p) a 8
    unfold cmM
    generalize hZ : clL C (rgx C p) a 8 = Z at *
    have h2 := claim2 (A := Z.1) (n := Z.2) n1 v1 (nI p) Z.2 0 r (B + 8) (by omega) (by omega) h (kv_U kv1 hU)
    have c0 : (8 : Int32) ≤ nI 8 := by decide
    unfold m_claim_L54_ok m_claim_L54
    rw [if_pos c0]
    have hfuel : ∀ f, Z.2 < f → m_claim_L142_ok f r v1 (nI p) (nI Z.2) (nI 0) → m_claim_L142_ok f r v1 (nI p) (nI Z.2) 0 := fun _ _ z => z
    -- fuel 9 against n + 1
    have grow : ∀ (m f : Nat) (r : rR) (i : Nat), m ≤ f → m_claim_L142_ok m r v1 (nI p) (nI Z.2) (nI i) → m_claim_L142_ok f r v1 (nI p) (nI Z.2) (nI i) ∧ m_claim_L142 f r v1 (nI p) (nI Z.2) (nI i) = m_claim_L142 m r v1 (nI p) (nI Z.2) (nI i) := by
      intro m
      induction m with
      | zero => intro f r i _ z; exact z.elim
      | succ m ihm =>
        intro f r i hf z
        obtain ⟨f, rfl⟩ : ∃ q, f = q + 1 := ⟨f - 1, by omega⟩
        unfold m_claim_L142_ok at z ⊢
        unfold m_claim_L142
        by_cases d : nI Z.2 ≤ nI i
        · rw [if_pos d, if_pos d]; exact ⟨⟨fun _ => trivial, fun y => absurd d y⟩, rfl⟩
        · rw [if_neg d, if_neg d]
          obtain ⟨z1, z2, z3⟩ := z.2 d
          rw [nI_1] at z3 ⊢
          have := ihm f _ (i + 1) (by omega) z3
          exact ⟨⟨fun y => absurd y d, fun _ => ⟨z1, z2, this.1⟩⟩, this.2⟩
    obtain ⟨g1, g2⟩ := grow (Z.2 + 1) 9 r 0 (by omega) h2.1
    have g2 : m_claim_L142 9 r v1 (nI p) (nI Z.2) 0 = _ := g2
    rw [g2]
    exact ⟨⟨fun _ => g1, fun z => absurd c0 z⟩, h2.2.1, h2.2.2.1.up (by omega), kk_tr (kk_of kv1 kj1) h2.2.2.2⟩
  | succ k ih =>
    intro i r B hik hB h hU hS
    obtain ⟨kv1, kj1, n1⟩ := clL_kv C (rgx C p) a i
    have es := cl_step C (rgx C p) a i
    have kpi := (clL_all C (rgx C p) a i).1
    have h9 := ih (i + 1)
    generalize clL C (rgx C p) a i = Z at *
    have hN := w_nrl h.w
    rw [kv1.1] at hN
    have hN7 := w_nwl h.w
    have e7 : gn Z.1 7 = gn C 7 := kpi.1 7
    have ec : (nI i).toNatClampNeg = i := nI_clamp (by omega)
    have ep : (nI p).toNatClampNeg = p := nI_clamp (by omega)
    have c0 : ¬ (8 : Int32) ≤ nI i := (show ¬ nI 8 ≤ nI i from nI_ge (by omega) (by omega))
    have hx := ixk_n (n := i) (N := 8) (by omega) (by omega)
    have hxp := ixk_n (n := p) (N := 6) (by omega) (by omega)
    obtain ⟨s1, s2, s3⟩ := h.cl i (by omega)
    obtain ⟨u1, u2, u3, u4⟩ := h.cq i (by omega)
    have hgp := (h.rg p (by rw [kv1.1]; exact hp)).2.2.2.2.1
    rw [kv1.2.1, kv1.2.2.2, ha, num_s h.w (by rw [e7]; exact hal)] at hgp
    unfold m_claim_L54_ok m_claim_L54
    rw [if_neg c0, ec, nI_1, ep, hgp]
    have noQ : ¬ cmQ Z.1 (rgx C p) a i = true → clL C (rgx C p) a (i + 1) = Z := fun z => by rw [es, if_neg z]
    by_cases c1 : r 38 i = 0
    · rw [if_pos c1]
      have e9 := noQ (fun z => (of_decide_eq_true z).1 (by rw [← s1]; exact c1))
      rw [e9] at h9
      have h8 := h9 r B (by omega) hB (h.up (by omega)) hU hS
      exact ⟨⟨fun z => absurd z c0, fun _ => ⟨hx, fun _ => h8.1, fun z => absurd c1 z⟩⟩, h8.2⟩
    · rw [if_neg c1]
      obtain ⟨oF, eF⟩ := sim_forPath h u3
      rw [← s2] at oF eF
      have hq100 : ∀ z, fpP Z.1 (r 40 i) = some z → z < 100 := fun z hz => by have := (rfP_lt hz).1; rw [kv1.1] at this; omega
      have hfp : m_forPath r (r 40 i) = nI p ↔ rgFor Z.1 (gi Z.1 2 i 1) = some (rgx C p) := by
        rw [eF, oI_eq hq100 (by omega), rgFor_P, ← s2]
        constructor
        · intro z; rw [z]; show some (rgx Z.1 p) = _; rw [kv1.2.1]
        · intro z
          cases hz : fpP Z.1 (r 40 i) with
          | none => rw [hz] at z; cases z
          | some y =>
            rw [hz] at z
            have z : some (rgx Z.1 y) = some (rgx C p) := z
            rw [kv1.2.1] at z
            have hy := (rfP_lt hz).1
            rw [kv1.1] at hy
            rw [hdC.2 y p hy hp (Option.some.inj z)]
      by_cases c2 : m_forPath r (r 40 i) = nI p
      · rw [if_pos c2]
        have hby : r 41 i = nI (a + 1) ↔ gr Z.1 2 i 2 = some a := by
          rw [s3, ← num_s h.w (show a < gn Z.1 7 by rw [e7]; exact hal)]
          exact ⟨fun z => num_inj h.w u4 (fun q hq => by cases hq; rw [e7]; exact hal) z, fun z => by rw [z]⟩
        by_cases c3 : r 41 i = nI (a + 1)
        · rw [if_pos c3]
          have e9 := noQ (fun z => (of_decide_eq_true z).2.1 (hby.mp c3))
          rw [e9] at h9
          have h8 := h9 r B (by omega) hB (h.up (by omega)) hU hS
          exact ⟨⟨fun z => absurd z c0, fun _ => ⟨hx, fun z => absurd z c1, fun _ => ⟨oF, fun _ => ⟨hxp, fun _ => h8.1, fun z => absurd c3 z⟩, fun z => absurd c2 z⟩⟩⟩, h8.2⟩
        · rw [if_neg c3]
          have en : (nI Z.2).toNatClampNeg = Z.2 := nI_clamp (by omega)
          have e9 : clL C (rgx C p) a (i + 1) = (cm1 Z.1 a i Z.2, Z.2 + 1) := by
            have hQ : cmQ Z.1 (rgx C p) a i = true := decide_eq_true ⟨by rw [← s1]; exact c1, fun z => c3 (hby.mpr z), hfp.mp c2⟩
            rw [es, if_pos hQ]
          have h1 := sim_fz h (n := Z.2) (gr Z.1 2 i 2) u4
          rw [← s3] at h1
          obtain ⟨o2, h2⟩ := sim_control h1 (by omega) (i := i) (by omega) (n := a) (by show a < gn Z.1 7; rw [e7]; exact hal) (fun z => c3 (hby.mpr z)) (by show ¬ gi Z.1 2 i 0 = 0; rw [← s1]; exact c1)
          rw [e9] at h9
          have h8 := h9 _ B (by omega) hB (show Rq 0 (cm1 Z.1 a i Z.2) _ (B + (i + 1)) from h2) hU hS
          rw [en, nI_1]
          exact ⟨⟨fun z => absurd z c0, fun _ => ⟨hx, fun z => absurd z c1, fun _ => ⟨oF, fun _ => ⟨hxp, fun z => absurd z c3, fun _ => ⟨ixk_n (by omega) (by omega), o2, h8.1⟩⟩, fun z => absurd c2 z⟩⟩⟩, h8.2⟩
      · rw [if_neg c2]
        have e9 := noQ (fun z => c2 (hfp.mpr (of_decide_eq_true z).2.2))
        rw [e9] at h9
        have h8 := h9 r B (by omega) hB (h.up (by omega)) hU hS
        exact ⟨⟨fun z => absurd z c0, fun _ => ⟨hx, fun z => absurd z c1, fun _ => ⟨oF, fun z => absurd z c2, fun _ => h8.1⟩⟩⟩, h8.2⟩
theorem sim_claim {C : mM} {r : rR} {B : Nat} (h : Rq T C r B) (hB : B + 200 < 1000000) (hV : Iv C) (x : Int32) : m_claim_ok r x ∧ Ans C B (fCm C x) (m_claim r x).1 (m_claim r x).2 ∧ Iv (aft C (fCm C x)) := by
  have hN := w_nrl h.w
  have hN7 := w_nwl h.w
  obtain ⟨oP, eP⟩ := sim_isPath x
  obtain ⟨oF, eF⟩ := sim_find h x
  unfold m_claim_ok m_claim
  have no : ∀ k, k ≠ 0 → (fCm C x).1 = k → Ans C B (fCm C x) 0 (ru r 18 34 (nI k)) ∧ Iv (aft C (fCm C x)) := fun k hk hF => ⟨ans_no h hF hk 0, by rw [aft_no (by rw [hF]; exact hk)]; exact hV⟩
  by_cases c1 : m_isPath x = 0
  · rw [if_pos c1]
    exact ⟨⟨oP, fun _ => trivial, fun z => absurd c1 z⟩, no 1 (by omega) (by unfold fCm ndXc; exact if_pos (eP.mp c1))⟩
  have hP := isP_of eP c1
  have hnP : ¬ isP x = false := by rw [hP]; simp
  rw [if_neg c1]
  cases hf : fdP C x with
  | none =>
    have eR : rgOf C x = none := by rw [rgOf_fd, hf]; rfl
    rw [hf] at eF
    have eF : m_find r x = -1 := eF
    have c3 : ¬ 0 ≤ m_find r x := by rw [eF]; decide
    rw [if_neg c3]
    exact ⟨⟨oP, fun z => absurd z c1, fun _ => ⟨oF, fun z => absurd z c3, fun _ => trivial⟩⟩, no 2 (by omega) (by unfold fCm ndXc; dsimp only; rw [if_neg hnP, eR])⟩
  | some p =>
    have eR : rgOf C x = some (rgx C p) := by rw [rgOf_fd, hf]; rfl
    rw [hf] at eF
    have eF : m_find r x = nI p := eF
    obtain ⟨hp, hps⟩ := fdP_lt hf
    have ep : (nI p).toNatClampNeg = p := nI_clamp (by omega)
    have c3 : 0 ≤ nI p := nI_pos' (by omega)
    have hx := ixk_n (n := p) (N := 6) (by omega) (by omega)
    obtain ⟨g0, g1, g2, g3, g4, g5⟩ := h.rg p hp
    obtain ⟨l2, l3, l4⟩ := h.rl p hp
    rw [eF, ep, if_pos c3, g4]
    cases ha : gr C 5 (rgx C p) 4 with
    | none =>
      have d2 : num C none = 0 := rfl
      rw [if_pos d2]
      refine ⟨⟨oP, fun z => absurd z c1, fun _ => ⟨oF, fun _ => ⟨hx, fun _ => trivial, fun z => absurd d2 z⟩, fun z => absurd c3 z⟩⟩, no 3 (by omega) ?_⟩
      unfold fCm ndXc; dsimp only; rw [if_neg hnP, eR]; exact if_pos ha
    | some a =>
      have hal := l4 a ha
      have d2 : ¬ num C (some a) = 0 := by rw [num_s h.w hal]; exact nI_ne0 (by omega) (by omega)
      rw [if_neg d2]
      have h1 := claim1 h.d hp ha hal x 8 0 (ru r 18 34 0) B (by omega) hB (sim_th h 0) hV.1 hV.2.1
      have hF1 : (fCm C x).1 = 0 := by unfold fCm ndXc; dsimp only; rw [if_neg hnP, eR]; exact if_neg (by rw [ha]; simp)
      have hF2 : (fCm C x).2 = (nI (clL C (rgx C p) a 8).2, cmM C (rgx C p) a) := by unfold fCm; dsimp only; rw [eR]; dsimp only; rw [ha]
      have hF : fCm C x = (0, nI (clL C (rgx C p) a 8).2, cmM C (rgx C p) a) := Prod.ext hF1 hF2
      clear hF1 hF2
      have e0 : m_claim_L54 9 (ru r 18 34 0) x (nI p) 0 0 = m_claim_L54 (8 + 1) (ru r 18 34 0) x (nI p) (nI (clL C (rgx C p) a 0).2) (nI 0) := rfl
      generalize nI (clL C (rgx C p) a 8).2 = z9 at h1 hF
      generalize cmM C (rgx C p) a = Y9 at h1 hF
      refine ⟨⟨oP, fun z => absurd z c1, fun _ => ⟨oF, fun _ => ⟨hx, fun z => absurd z d2, fun _ => h1.1⟩, fun z => absurd c3 z⟩⟩, ?_, ?_⟩
      · rw [hF, e0]; exact ans_yes rfl h1.2.1 (h1.2.2.1.up (by omega))
      · rw [hF]; exact aft_kk (fun _ => h1.2.2.2) hV
end SIM15
