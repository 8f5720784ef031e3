section SIM3
variable {T : Int32}
def oI (q : Option Nat) : Int32 := match q with
  | none => -1
  | some j => nI j
theorem find_at {r : rR} {x : Int32} {N : Nat} (hN : r 18 29 = nI N) (hN5 : N ≤ 5) : ∀ n i, i ≤ N → N < i + n → m_find_L2_ok n r x (nI i) ∧ m_find_L2 n r x (nI i) = oI (ff (fun j => decide (r 32 j = x)) (N - i) i) := by
  intro n
  induction n with
  | zero => intro i h1 h2; omega
  | succ n ih =>
    intro i h1 h2
    have ec : (nI i).toNatClampNeg = i := nI_clamp (by omega)
    have hle : r 18 29 ≤ nI i ↔ N ≤ i := by rw [hN]; exact nI_leI (by omega) (by omega)
    unfold m_find_L2_ok m_find_L2
    rw [ec]
    by_cases hi : N ≤ i
    · have e0 : N - i = 0 := by omega
      rw [if_pos (hle.mpr hi), e0]; exact ⟨⟨fun _ => trivial, fun z => absurd (hle.mpr hi) z⟩, rfl⟩
    · have e1 : N - i = (N - (i + 1)) + 1 := by omega
      rw [if_neg (fun z => hi (hle.mp z))]
      have hx := ixk_n (n := i) (N := 6) (by omega) (by omega)
      by_cases hp : r 32 i = x
      · rw [if_pos hp, e1, ff_t (by simpa using hp)]; exact ⟨⟨fun z => absurd (hle.mp z) hi, fun _ => ⟨hx, fun _ => trivial, fun z => absurd hp z⟩⟩, rfl⟩
      · have := ih (i + 1) (by omega) (by omega)
        rw [if_neg hp, e1, ff_f (by simpa using hp), nI_1]; exact ⟨⟨fun z => absurd (hle.mp z) hi, fun _ => ⟨hx, fun z => absurd z hp, fun _ => this.1⟩⟩, this.2⟩
theorem withActive_at {r : rR} {x : Int32} {N : Nat} (hN : r 18 29 = nI N) (hN5 : N ≤ 5) : ∀ n i, i ≤ N → N < i + n → m_withActive_L2_ok n r x (nI i) ∧ m_withActive_L2 n r x (nI i) = oI (ff (fun j => decide (r 36 j = x)) (N - i) i) := by
  intro n
  induction n with
  | zero => intro i h1 h2; omega
  | succ n ih =>
    intro i h1 h2
    have ec : (nI i).toNatClampNeg = i := nI_clamp (by omega)
    have hle : r 18 29 ≤ nI i ↔ N ≤ i := by rw [hN]; exact nI_leI (by omega) (by omega)
    unfold m_withActive_L2_ok m_withActive_L2
    rw [ec]
    by_cases hi : N ≤ i
    · have e0 : N - i = 0 := by omega
      rw [if_pos (hle.mpr hi), e0]; exact ⟨⟨fun _ => trivial, fun z => absurd (hle.mpr hi) z⟩, rfl⟩
    · have e1 : N - i = (N - (i + 1)) + 1 := by omega
      rw [if_neg (fun z => hi (hle.mp z))]
      have hx := ixk_n (n := i) (N := 6) (by omega) (by omega)
      by_cases hp : r 36 i = x
      · rw [if_pos hp, e1, ff_t (by simpa using hp)]; exact ⟨⟨fun z => absurd (hle.mp z) hi, fun _ => ⟨hx, fun _ => trivial, fun z => absurd hp z⟩⟩, rfl⟩
      · have := ih (i + 1) (by omega) (by omega)
        rw [if_neg hp, e1, ff_f (by simpa using hp), nI_1]; exact ⟨⟨fun z => absurd (hle.mp z) hi, fun _ => ⟨hx, fun z => absurd z hp, fun _ => this.1⟩⟩, this.2⟩
theorem firstOf_at {r : rR} {x : Int32} {N : Nat} (hN : r 18 31 = nI N) (hN5 : N ≤ 60) : ∀ n i, i ≤ N → N < i + n → m_firstOf_L2_ok n r x (nI i) ∧ m_firstOf_L2 n r x (nI i) = oI (ff (fun j => decide (r 43 j = x ∧ r 45 j = 0)) (N - i) i) := by
  intro n
  induction n with
  | zero => intro i h1 h2; omega
  | succ n ih =>
    intro i h1 h2
    have ec : (nI i).toNatClampNeg = i := nI_clamp (by omega)
    have hle : r 18 31 ≤ nI i ↔ N ≤ i := by rw [hN]; exact nI_leI (by omega) (by omega)
    unfold m_firstOf_L2_ok m_firstOf_L2
    rw [ec]
    by_cases hi : N ≤ i
    · have e0 : N - i = 0 := by omega
      rw [if_pos (hle.mpr hi), e0]; exact ⟨⟨fun _ => trivial, fun z => absurd (hle.mpr hi) z⟩, rfl⟩
    · have e1 : N - i = (N - (i + 1)) + 1 := by omega
      rw [if_neg (fun z => hi (hle.mp z))]
      have hx := ixk_n (n := i) (N := 60) (by omega) (by omega)
      have h9 := ih (i + 1) (by omega) (by omega)
      by_cases hp : r 43 i = x
      · by_cases hq : r 45 i = 0
        · rw [if_pos hp, if_pos hq, e1, ff_t (by simp [hp, hq])]; exact ⟨⟨fun z => absurd (hle.mp z) hi, fun _ => ⟨hx, fun _ => ⟨fun _ => trivial, fun z => absurd hq z⟩, fun z => absurd hp z⟩⟩, rfl⟩
        · rw [if_pos hp, if_neg hq, e1, ff_f (by simp [hq]), nI_1]; exact ⟨⟨fun z => absurd (hle.mp z) hi, fun _ => ⟨hx, fun _ => ⟨fun z => absurd z hq, fun _ => h9.1⟩, fun z => absurd hp z⟩⟩, h9.2⟩
      · rw [if_neg hp, e1, ff_f (by simp [hp]), nI_1]; exact ⟨⟨fun z => absurd (hle.mp z) hi, fun _ => ⟨hx, fun z => absurd z hp, fun _ => h9.1⟩⟩, h9.2⟩
theorem isCtl_at {r : rR} {x : Int32} : ∀ n i, i ≤ 8 → 8 < i + n → m_isControlling_L2_ok n r x (nI i) ∧ m_isControlling_L2 n r x (nI i) = (if ff (fun j => decide (¬ r 38 j = 0 ∧ r 41 j = x)) (8 - i) i = none then 0 else 1) := by
  intro n
  induction n with
  | zero => intro i h1 h2; omega
  | succ n ih =>
    intro i h1 h2
    have ec : (nI i).toNatClampNeg = i := nI_clamp (by omega)
    have hle : (8 : Int32) ≤ nI i ↔ 8 ≤ i := nI_leI (a := 8) (by omega) (by omega)
    unfold m_isControlling_L2_ok m_isControlling_L2
    rw [ec]
    by_cases hi : 8 ≤ i
    · have e0 : 8 - i = 0 := by omega
      rw [if_pos (hle.mpr hi), e0]; exact ⟨⟨fun _ => trivial, fun z => absurd (hle.mpr hi) z⟩, (if_pos rfl).symm⟩
    · have e1 : 8 - i = (8 - (i + 1)) + 1 := by omega
      rw [if_neg (fun z => hi (hle.mp z))]
      have hx := ixk_n (n := i) (N := 8) (by omega) (by omega)
      have h9 := ih (i + 1) (by omega) (by omega)
      by_cases hp : r 38 i = 0
      · rw [if_pos hp, e1, ff_f (by simp [hp]), nI_1]; exact ⟨⟨fun z => absurd (hle.mp z) hi, fun _ => ⟨hx, fun _ => h9.1, fun z => absurd hp z⟩⟩, h9.2⟩
      · by_cases hq : r 41 i = x
        · rw [if_neg hp, if_pos hq, e1, ff_t (by simp [hp, hq])]; exact ⟨⟨fun z => absurd (hle.mp z) hi, fun _ => ⟨hx, fun z => absurd z hp, fun _ => ⟨fun _ => trivial, fun z => absurd hq z⟩⟩⟩, by rw [if_neg (by simp)]⟩
        · rw [if_neg hp, if_neg hq, e1, ff_f (by simp [hq]), nI_1]; exact ⟨⟨fun z => absurd (hle.mp z) hi, fun _ => ⟨hx, fun z => absurd z hp, fun _ => ⟨fun z => absurd z hq, fun _ => h9.1⟩⟩⟩, h9.2⟩
/-- the place of a registration, by its scope; by its active worker -/
def fdP (C : mM) (x : Int32) : Option Nat := ff (fun i => decide (gi C 5 (rgx C i) 0 = x)) (nRg C) 0
def acP (C : mM) (q : Option Nat) : Option Nat := ff (fun i => decide (q ≠ none ∧ gr C 5 (rgx C i) 4 = q)) (nRg C) 0
theorem rgOf_fd (C : mM) (x : Int32) : rgOf C x = (fdP C x).map (rgx C) := rfl
theorem rgAct_ac (C : mM) (q : Option Nat) : rgAct C q = (acP C q).map (rgx C) := rfl
theorem fdP_lt {C : mM} {x : Int32} {i : Nat} (h : fdP C x = some i) : i < nRg C ∧ gi C 5 (rgx C i) 0 = x := by
  have := ff_lt h; exact ⟨by omega, by simpa using this.2.2⟩
theorem acP_lt {C : mM} {q : Option Nat} {i : Nat} (h : acP C q = some i) : i < nRg C ∧ gr C 5 (rgx C i) 4 = q := by
  have := ff_lt h; exact ⟨by omega, (of_decide_eq_true this.2.2).2⟩
theorem sim_find {C : mM} {r : rR} {B : Nat} (h : Rq T C r B) (x : Int32) : m_find_ok r x ∧ m_find r x = oI (fdP C x) := by
  have hN := w_nrl h.w
  obtain ⟨h1, h2⟩ := find_at (x := x) h.nr hN 6 0 (by omega) (by omega)
  refine ⟨h1, h2.trans ?_⟩
  rw [Nat.sub_zero]
  unfold fdP
  congr 1
  exact ff_cg (fun j _ hj => by rw [(h.rg j (by omega)).1])
theorem sim_withActive {C : mM} {r : rR} {B : Nat} (h : Rq T C r B) {w : Nat} (hw : w < gn C 7) : m_withActive_ok r (nI (w + 1)) ∧ m_withActive r (nI (w + 1)) = oI (acP C (some w)) := by
  have hN := w_nrl h.w
  obtain ⟨h1, h2⟩ := withActive_at (x := nI (w + 1)) h.nr hN 6 0 (by omega) (by omega)
  refine ⟨h1, h2.trans ?_⟩
  rw [Nat.sub_zero]
  unfold acP
  congr 1
  refine ff_cg (fun j _ hj => ?_)
  rw [(h.rg j (by omega)).2.2.2.2.1, ← num_s h.w hw]
  refine decide_eq_decide.mpr ⟨fun z => ⟨by simp, num_inj h.w (h.rl j (by omega)).2.2 (fun q hq => by cases hq; exact hw) z⟩, fun z => by rw [z.2]⟩
theorem sim_firstOf {C : mM} {r : rR} {B : Nat} (h : Rq T C r B) (x : Int32) : m_firstOf_ok r x ∧ m_firstOf r x = oI (fstR C x) := by
  have hN := w_njl h.w
  obtain ⟨h1, h2⟩ := firstOf_at (x := x) h.nj hN 61 0 (by omega) (by omega)
  refine ⟨h1, h2.trans ?_⟩
  rw [Nat.sub_zero]
  unfold fstR
  congr 1
  exact ff_cg (fun j _ hj => by rw [(h.jb j (by omega)).2.1, (h.jb j (by omega)).2.2.2.1]; rfl)
theorem cn_0 {p : Nat → Bool} : ∀ {n : Nat}, cn p n = 0 ↔ ff p n 0 = none := by
  intro n
  constructor
  · intro hc
    cases hf : ff p n 0 with
    | none => rfl
    | some q =>
      exfalso
      have := ff_lt hf
      have key : ∀ m, cn p m = 0 → ∀ j, j < m → p j = false := by
        intro m
        induction m with
        | zero => intro _ j hj; omega
        | succ m ih =>
          intro hc j hj
          have hc : cn p m + (if p m = true then 1 else 0) = 0 := hc
          by_cases hj2 : j = m
          · subst hj2; cases hpj : p j with
            | false => rfl
            | true => rw [if_pos hpj] at hc; omega
          · exact ih (by omega) j (by omega)
      have h8 := key n hc q (by omega)
      rw [this.2.2] at h8; cases h8
  · intro hf
    have hn := ff_none hf
    have key : ∀ m, m ≤ n → cn p m = 0 := by
      intro m
      induction m with
      | zero => intro _; rfl
      | succ m ih =>
        intro hm
        show cn p m + (if p m = true then 1 else 0) = 0
        rw [ih (by omega), hn m (by omega) (by omega)]; rfl
    exact key n (Nat.le_refl _)
theorem sim_isCtl {C : mM} {r : rR} {B : Nat} (h : Rq T C r B) {w : Nat} (hw : w < gn C 7) : m_isControlling_ok r (nI (w + 1)) ∧ (m_isControlling r (nI (w + 1)) = 0 ↔ ctl C (some w) = 0) := by
  obtain ⟨h1, h2⟩ := isCtl_at (r := r) (x := nI (w + 1)) 9 0 (by omega) (by omega)
  refine ⟨h1, ?_⟩
  unfold ctl
  rw [cn_0]
  have e : ff (fun j => decide (¬ r 38 j = 0 ∧ r 41 j = nI (w + 1))) (8 - 0) 0 = ff (fun i => decide (some w ≠ none ∧ gr C 2 i 2 = some w)) 8 0 := by
    refine ff_cg (fun j _ hj => ?_)
    rw [(h.cl j (by omega)).1, (h.cl j (by omega)).2.2, ← num_s h.w hw]
    refine decide_eq_decide.mpr ⟨fun z => ⟨by simp, num_inj h.w (h.cq j (by omega)).2.2.2 (fun q hq => by cases hq; exact hw) z.2⟩, fun z => ⟨fun z0 => ?_, by rw [z.2]⟩⟩
    have := (h.cq j (by omega)).2.1 z0
    rw [z.2] at this; cases this
  have h2' : m_isControlling r (nI (w + 1)) = _ := h2
  rw [h2', e]
  constructor
  · intro z
    rcases Classical.em (ff (fun i => decide (some w ≠ none ∧ gr C 2 i 2 = some w)) 8 0 = none) with a | a
    · exact a
    · rw [if_neg a] at z; exact absurd z (by decide)
  · intro z; rw [if_pos z]
end SIM3
