section SIM13
variable {T : Int32}
/-- the scopes of registrations are apart -/
def wS (C : mM) : Prop := ∀ i j, i < nRg C → j < nRg C → gi C 5 (rgx C i) 0 = gi C 5 (rgx C j) 0 → i = j
/-- there is a registration of this scope, with an installing worker -/
def hasIn (C : mM) (s : Int32) : Prop := ∃ i, i < nRg C ∧ gi C 5 (rgx C i) 0 = s ∧ gr C 5 (rgx C i) 2 ≠ none
/-- a job that is begun and didn't end is the first of its row, and its registration has an installing worker -/
def wJ (C : mM) : Prop := ∀ j, j < gn C 4 → gi C 4 j 5 = 0 → ¬ gi C 4 j 4 = 0 → hasIn C (gi C 4 j 2) ∧ ∀ i, i < j → gi C 4 i 2 = gi C 4 j 2 → ¬ gi C 4 i 5 = 0
/-- registrations are left as they are; jobs are -/
def kv (M M' : mM) : Prop := nRg M' = nRg M ∧ (∀ i, rgx M' i = rgx M i) ∧ (∀ i j, gi M' 5 i j = gi M 5 i j) ∧ ∀ i j, gr M' 5 i j = gr M 5 i j
def kj (M M' : mM) : Prop := gn M' 4 = gn M 4 ∧ ∀ i j, gi M' 4 i j = gi M 4 i j
theorem kv_rf (M : mM) : kv M M := ⟨rfl, fun _ => rfl, fun _ _ => rfl, fun _ _ => rfl⟩
theorem kv_tr {A B C : mM} (h : kv A B) (g : kv B C) : kv A C := ⟨g.1.trans h.1, fun i => (g.2.1 i).trans (h.2.1 i), fun i j => (g.2.2.1 i j).trans (h.2.2.1 i j), fun i j => (g.2.2.2 i j).trans (h.2.2.2 i j)⟩
theorem kj_rf (M : mM) : kj M M := ⟨rfl, fun _ _ => rfl⟩
theorem kj_tr {A B C : mM} (h : kj A B) (g : kj B C) : kj A C := ⟨g.1.trans h.1, fun i j => (g.2 i j).trans (h.2 i j)⟩
theorem kv_U {M M' : mM} (h : kv M M') (g : wU M) : wU M' := by
  intro p hp
  rw [h.1] at hp
  rw [h.2.1, h.2.2.2, h.2.2.2, h.2.2.2]; exact g p hp
theorem kv_S {M M' : mM} (h : kv M M') (g : wS M) : wS M' := by
  intro i j hi hj
  rw [h.1] at hi hj
  rw [h.2.1, h.2.1, h.2.2.1, h.2.2.1]; exact g i j hi hj
theorem kv_I {M M' : mM} (h : kv M M') {s : Int32} (g : hasIn M s) : hasIn M' s := by
  obtain ⟨i, h1, h2, h3⟩ := g
  exact ⟨i, by rw [h.1]; exact h1, by rw [h.2.1, h.2.2.1]; exact h2, by rw [h.2.1, h.2.2.2]; exact h3⟩
theorem kj_J {M M' : mM} (h : kj M M') (hI : ∀ s, hasIn M s → hasIn M' s) (g : wJ M) : wJ M' := by
  intro j hj h1 h2
  rw [h.1] at hj
  rw [h.2] at h1 h2
  obtain ⟨a, b⟩ := g j hj h1 h2
  refine ⟨by rw [h.2]; exact hI _ a, fun i hi => ?_⟩
  rw [h.2, h.2, h.2]; exact b i hi
/-- no row of jobs has more than four -/
def wL (C : mM) : Prop := ∀ x, lenR C x ≤ 4
theorem kj_L {M M' : mM} (h : kj M M') (g : wL M) : wL M' := by
  intro x
  have e : lenR M' x = lenR M x := by
    unfold lenR
    rw [h.1]
    refine cn_cg (fun j _ => ?_)
    unfold inRow
    rw [h.2, h.2]
  rw [e]; exact g x
theorem trA_kv (M : mM) (x : Int32) : kv M (trA M x) := by
  refine ⟨?_, fun i => ?_, fun i j => trA_gi _ _ _ _ _ (by omega) (by omega), fun i j => trA_gr _ _ _ _ _⟩
  · unfold nRg; rw [trA_gi _ _ _ _ _ (by omega) (by omega)]
  · unfold rgx; rw [trA_gr]
theorem trA_kj (M : mM) (x : Int32) : kj M (trA M x) := ⟨trA_gn _ _ _, fun i j => trA_gi _ _ _ _ _ (by omega) (by omega)⟩
theorem brM_kv (M : mM) (r : Option Nat) (x : Int32) : kv M (brM M r x) := by
  cases r with
  | none => exact kv_rf _
  | some w => exact kv_tr (B := si M 7 w 5 x) ⟨rfl, fun _ => rfl, fun _ _ => rfl, fun _ _ => rfl⟩ (trA_kv _ _)
theorem brM_kj (M : mM) (r : Option Nat) (x : Int32) : kj M (brM M r x) := by
  cases r with
  | none => exact kj_rf _
  | some w => exact kj_tr (B := si M 7 w 5 x) ⟨rfl, fun _ _ => rfl⟩ (trA_kj _ _)
theorem ctM_kv (M : mM) (i : Nat) (r : Option Nat) : kv M (ctM M i r) := kv_tr (B := sr M 2 i 2 r) ⟨rfl, fun _ => rfl, fun _ _ => rfl, fun _ _ => rfl⟩ (trA_kv _ _)
theorem ctM_kj (M : mM) (i : Nat) (r : Option Nat) : kj M (ctM M i r) := kj_tr (B := sr M 2 i 2 r) ⟨rfl, fun _ _ => rfl⟩ (trA_kj _ _)
theorem hnd_kv (M : mM) (b n i : Nat) : kv M (hnd M b n i) ∧ kj M (hnd M b n i) := by
  induction i with
  | zero => exact ⟨kv_rf _, kj_rf _⟩
  | succ i ih =>
    show kv M (if _ then _ else _) ∧ kj M (if _ then _ else _)
    split
    · exact ⟨kv_tr ih.1 (ctM_kv _ _ _), kj_tr ih.2 (ctM_kj _ _ _)⟩
    · exact ih
/-- what is kept by an operation: registrations apart, scopes apart, installing workers -/
def kk (M M' : mM) : Prop := (wU M → wU M') ∧ (wS M → wS M') ∧ (∀ s, hasIn M s → hasIn M' s) ∧ kj M M'
theorem kk_of {M M' : mM} (h : kv M M') (g : kj M M') : kk M M' := ⟨kv_U h, kv_S h, fun _ => kv_I h, g⟩
theorem kk_tr {A B C : mM} (h : kk A B) (g : kk B C) : kk A C := ⟨fun z => g.1 (h.1 z), fun z => g.2.1 (h.2.1 z), fun s z => g.2.2.1 s (h.2.2.1 s z), kj_tr h.2.2.2 g.2.2.2⟩
theorem kk_rf (M : mM) : kk M M := kk_of (kv_rf M) (kj_rf M)
theorem kk_J {M M' : mM} (h : kk M M') (g : wJ M) : wJ M' := kj_J h.2.2.2 h.2.2.1 g
theorem act0_kk {C : mM} (hd : wD C) {p n : Nat} (hp : p < nRg C) (hn : gr C 5 (rgx C p) 3 = some n) : kk C (act0 C (rgx C p) n) := by
  have e : ∀ i j, i < nRg C → gr (act0 C (rgx C p) n) 5 (rgx C i) j = if i = p ∧ j = 4 then some n else if i = p ∧ j = 3 then none else gr C 5 (rgx C i) j := by
    intro i j hi
    unfold act0
    rw [gr_sr, gr_sr]
    by_cases h : i = p
    · subst h; simp
    · have hne : ¬ rgx C i = rgx C p := fun z => h (hd.2 i p hi hp z)
      simp [h, hne]
  refine ⟨fun hU q hq => ?_, fun hS => hS, fun s ⟨i, h1, h2, h3⟩ => ⟨i, h1, h2, ?_⟩, rfl, fun _ _ => rfl⟩
  · have hq : q < nRg C := hq
    show (gr (act0 C (rgx C p) n) 5 (rgx C q) 3 = none ∨ gr (act0 C (rgx C p) n) 5 (rgx C q) 3 ≠ gr (act0 C (rgx C p) n) 5 (rgx C q) 4) ∧ (gr (act0 C (rgx C p) n) 5 (rgx C q) 2 = none ∨ gr (act0 C (rgx C p) n) 5 (rgx C q) 2 ≠ gr (act0 C (rgx C p) n) 5 (rgx C q) 4) ∧ (gr (act0 C (rgx C p) n) 5 (rgx C q) 2 = none ∨ gr (act0 C (rgx C p) n) 5 (rgx C q) 2 ≠ gr (act0 C (rgx C p) n) 5 (rgx C q) 3)
    rw [e q 3 hq, e q 4 hq, e q 2 hq]
    obtain ⟨u1, u2, u3⟩ := hU q hq
    by_cases h : q = p
    · subst h
      simp
      rw [hn] at u3
      refine ⟨?_, ?_⟩
      · rcases u3 with z | z
        · exact Or.inl z
        · exact Or.inr z
      · cases gr C 5 (rgx C q) 2 with
        | none => exact Or.inl rfl
        | some a => exact Or.inr (by simp)
    · simp [h]; exact ⟨u1, u2, u3⟩
  · show gr (act0 C (rgx C p) n) 5 (rgx C i) 2 ≠ none
    rw [e i 2 h1, if_neg (by omega), if_neg (by omega)]; exact h3
theorem act1_kk {C : mM} (hd : wD C) {p n : Nat} (b : Option Nat) (hp : p < nRg C) (hn : gr C 5 (rgx C p) 3 = some n) : kk C (act1 C (rgx C p) n b) := by
  have k1 := brM_kv C b 4
  have h1 := kk_of k1 (brM_kj C b 4)
  have h2 := act0_kk (C := brM C b 4) (p := p) (n := n) (kp_D (brM_kp C b 4) hd) (by rw [k1.1]; exact hp) (by rw [k1.2.1, k1.2.2.2]; exact hn)
  rw [k1.2.1] at h2
  exact kk_tr h1 (kk_tr h2 (kk_of (brM_kv _ _ _) (brM_kj _ _ _)))
theorem actM_kk {C : mM} (hd : wD C) {p n : Nat} (b : Option Nat) (hp : p < nRg C) (hn : gr C 5 (rgx C p) 3 = some n) : kk C (actM C (rgx C p) n b) := by
  cases b with
  | none => exact act1_kk hd none hp hn
  | some b =>
    have h9 := hnd_kv (act1 C (rgx C p) n (some b)) b n 8
    have h8 := act1_kk hd (some b) hp hn
    unfold actM
    dsimp only
    generalize hnd (act1 C (rgx C p) n (some b)) b n 8 = Z at h9 ⊢
    exact kk_tr h8 (kk_of h9.1 h9.2)
theorem taM_kk {C : mM} (hd : wD C) {p : Nat} (hp : p < nRg C) : kk C (taM C (rgx C p)) := by
  unfold taM
  cases hn : gr C 5 (rgx C p) 3 with
  | none => exact kk_rf C
  | some n =>
    dsimp only
    split
    · exact actM_kk hd _ hp hn
    · exact kk_rf C
theorem rmM_kk {C : mM} (hw : wK C) (hd : wD C) {p : Nat} (hp : p < nRg C) (hin : gr C 5 (rgx C p) 2 = none) : kk C (rmM C (rgx C p)) := by
  have hn := rmM_n hw hd hp
  have hx : ∀ j, j < nRg C - 1 → rgx (rmM C (rgx C p)) j = rgx C (if j < p then j else j + 1) := fun j hj => rmM_x hw hd hp hj
  have fi : ∀ j, j < nRg C - 1 → (if j < p then j else j + 1) < nRg C := fun j hj => by split <;> omega
  refine ⟨fun hU q hq => ?_, fun hS i j hi hj => ?_, fun s ⟨i, h1, h2, h3⟩ => ?_, rmM_gn _ _ _, fun i j => rmM_gi _ _ _ _ _ (by omega)⟩
  · rw [hn] at hq
    rw [hx q hq, rmM_gr _ _ _ _ _ (by omega), rmM_gr _ _ _ _ _ (by omega), rmM_gr _ _ _ _ _ (by omega)]; exact hU _ (fi q hq)
  · rw [hn] at hi hj
    rw [hx i hi, hx j hj, rmM_gi _ _ _ _ _ (by omega), rmM_gi _ _ _ _ _ (by omega)]
    intro z
    have := hS _ _ (fi i hi) (fi j hj) z
    by_cases h1 : i < p <;> by_cases h2 : j < p <;> simp [h1, h2] at this <;> omega
  · have hip : i ≠ p := fun z => h3 (by rw [z]; exact hin)
    refine ⟨if i < p then i else i - 1, ?_, ?_, ?_⟩
    · rw [hn]; split <;> omega
    all_goals
      have hlt : (if i < p then i else i - 1) < nRg C - 1 := by split <;> omega
      have e : (if (if i < p then i else i - 1) < p then (if i < p then i else i - 1) else (if i < p then i else i - 1) + 1) = i := by
        by_cases h : i < p
        · simp [h]
        · simp [h]; rw [if_neg (by omega)]; omega
    · rw [hx _ hlt, e, rmM_gi _ _ _ _ _ (by omega)]; exact h2
    · rw [hx _ hlt, e, rmM_gr _ _ _ _ _ (by omega)]; exact h3
theorem tcM_kk {C : mM} (hw : wK C) (hd : wD C) {p : Nat} (hp : p < nRg C) : kk C (tcM C (rgx C p)) := by
  unfold tcM
  by_cases hc : clr C (rgx C p) = true
  · rw [if_pos hc]
    have hin := (of_decide_eq_true hc).2.1
    have k1 := brM_kv C (gr C 5 (rgx C p) 3) 4
    have k2 := brM_kv (tc1 C (rgx C p)) (gr (tc1 C (rgx C p)) 5 (rgx C p) 4) 4
    have kv2 : kv C (brM (tc1 C (rgx C p)) (gr (tc1 C (rgx C p)) 5 (rgx C p) 4) 4) := kv_tr (show kv C (tc1 C (rgx C p)) from k1) k2
    have kp2 : kp C (brM (tc1 C (rgx C p)) (gr (tc1 C (rgx C p)) 5 (rgx C p) 4) 4) := kp_tr (show kp C (tc1 C (rgx C p)) from brM_kp _ _ _) (brM_kp _ _ _)
    have kj2 : kj C (brM (tc1 C (rgx C p)) (gr (tc1 C (rgx C p)) 5 (rgx C p) 4) 4) := kj_tr (show kj C (tc1 C (rgx C p)) from brM_kj _ _ _) (brM_kj _ _ _)
    have h3 := rmM_kk (kp_w kp2 hw) (kp_D kp2 hd) (p := p) (by rw [kv2.1]; exact hp) (by rw [kv2.2.1, kv2.2.2.2]; exact hin)
    rw [kv2.2.1] at h3
    exact kk_tr (kk_of kv2 kj2) h3
  · rw [if_neg hc]; exact kk_rf C
theorem stM_kk {C : mM} (hw : wK C) (hd : wD C) (q : Option Nat) : kk C (stM C q) := by
  rw [stM_ac]
  cases hp : acP C q with
  | none => exact kk_rf C
  | some p =>
    have hpl := (acP_lt hp).1
    dsimp only
    split
    · exact tcM_kk hw hd hpl
    · exact taM_kk hd hpl
end SIM13
