theorem ff_cg {p q : Nat → Bool} : ∀ {n i : Nat}, (∀ j, i ≤ j → j < i + n → p j = q j) → ff p n i = ff q n i := by
  intro n
  induction n with
  | zero => intro i _; rfl
  | succ n ih =>
    intro i h
    show (if p i = true then _ else _) = (if q i = true then _ else _)
    rw [h i (Nat.le_refl _) (by omega), ih (fun j h1 h2 => h j (by omega) (by omega))]
theorem fl_cg {p q : Nat → Bool} : ∀ {n : Nat}, (∀ j, j < n → p j = q j) → fl p n = fl q n := by
  intro n
  induction n with
  | zero => intro _; rfl
  | succ n ih =>
    intro h
    show (if p n = true then _ else _) = (if q n = true then _ else _)
    rw [h n (by omega), ih (fun j h1 => h j (by omega))]
theorem cn_cg {p q : Nat → Bool} : ∀ {n : Nat}, (∀ j, j < n → p j = q j) → cn p n = cn q n := by
  intro n
  induction n with
  | zero => intro _; rfl
  | succ n ih =>
    intro h
    show cn p n + (if p n = true then _ else _) = cn q n + (if q n = true then _ else _)
    rw [h n (by omega), ih (fun j h1 => h j (by omega))]
theorem num_s {M : mM} (hw : wK M) {w : Nat} (h : w < gn M 7) : num M (some w) = nI (w + 1) := w_num hw h
theorem num_inj {M : mM} (hw : wK M) {r r' : Option Nat} (h : ∀ q, r = some q → q < gn M 7) (h' : ∀ q, r' = some q → q < gn M 7) (e : num M r = num M r') : r = r' := by
  have hN := w_nwl hw
  cases r with
  | none =>
    cases r' with
    | none => rfl
    | some b => rw [num_s hw (h' b rfl)] at e; exact absurd e.symm (nI_ne0 (by omega) (by have := h' b rfl; omega))
  | some a =>
    have ha := h a rfl
    cases r' with
    | none => rw [num_s hw ha] at e; exact absurd e (nI_ne0 (by omega) (by omega))
    | some b =>
      have hb := h' b rfl
      rw [num_s hw ha, num_s hw hb, nI_eq (by omega) (by omega)] at e
      have : a = b := by omega
      rw [this]
theorem num_0 {M : mM} (hw : wK M) {r : Option Nat} (h : ∀ q, r = some q → q < gn M 7) : num M r = 0 ↔ r = none := by
  constructor
  · intro e; exact num_inj hw h (fun q z => by cases z) e
  · rintro rfl; rfl
theorem ff_none {p : Nat → Bool} : ∀ {n i : Nat}, ff p n i = none → ∀ j, i ≤ j → j < i + n → p j = false := by
  intro n
  induction n with
  | zero => intro i _ j h1 h2; omega
  | succ n ih =>
    intro i h j h1 h2
    by_cases hp : p i = true
    · rw [ff_t hp] at h; cases h
    · rw [ff_f hp] at h
      by_cases hj : j = i
      · subst hj; simpa using hp
      · exact ih h j (by omega) (by omega)
theorem ff_before {p : Nat → Bool} : ∀ {n i q : Nat}, ff p n i = some q → ∀ j, i ≤ j → j < q → p j = false := by
  intro n
  induction n with
  | zero => intro i q h; cases h
  | succ n ih =>
    intro i q h j h1 h2
    by_cases hp : p i = true
    · rw [ff_t hp] at h; cases h; omega
    · rw [ff_f hp] at h
      by_cases hj : j = i
      · subst hj; simpa using hp
      · exact ih h j (by omega) h2
theorem ff_is {p : Nat → Bool} : ∀ {n i q : Nat}, i ≤ q → q < i + n → p q = true → (∀ j, i ≤ j → j < q → p j = false) → ff p n i = some q := by
  intro n
  induction n with
  | zero => intro i q h1 h2; omega
  | succ n ih =>
    intro i q h1 h2 h3 h4
    by_cases hq : q = i
    · subst hq; exact ff_t h3
    · rw [ff_f (by rw [h4 i (Nat.le_refl _) (by omega)]; simp)]
      exact ih (by omega) (by omega) h3 (fun j a b => h4 j (by omega) b)
