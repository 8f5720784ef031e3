section SIM1
variable {T : Int32}
/-- the two memories side by side -/
structure Rq (T : Int32) (C : mM) (r : rR) (B : Nat) : Prop where
  th : r 18 34 = T
  w : wK C
  o : wO C
  d : wD C
  sc : ∀ k, k < 4 → r 19 k = gi C 1 k 0 ∧ r 20 k = gi C 1 k 1 ∧ r 21 k = gi C 1 k 2 ∧ r 22 k = gi C 1 k 3 ∧ isP (gi C 1 k 1) = true ∧ ∃ q, q < 4 ∧ gi C 1 k 3 = nI q
  ne : r 18 33 = gi C 0 0 2 ∧ r 18 35 = (if gi C 0 0 1 = 0 then 1 else 0)
  nw : r 18 30 = nI (gn C 7)
  wk : ∀ i, i < gn C 7 → r 24 (i + 1) = gi C 7 i 5 ∧ r 25 (i + 1) = gi C 7 i 1 ∧ r 26 (i + 1) = gi C 7 i 2 ∧ r 27 (i + 1) = gi C 7 i 3 ∧ r 28 (i + 1) = gi C 6 i 2 ∧ r 31 (i + 1) = gi C 7 i 6 ∧ (∃ q, q < 4 ∧ gi C 7 i 3 = nI q) ∧ (gi C 7 i 6 = 0 ∨ gi C 7 i 6 = 1)
  ca : ∀ i, i < gn C 7 → ∀ k, k < csz C i → r 29 (4 * (i + 1) + k) = gi C 15 i k ∧ r 30 (4 * (i + 1) + k) = gi C 16 i k
  nr : r 18 29 = nI (nRg C)
  rg : ∀ i, i < nRg C → r 32 i = gi C 5 (rgx C i) 0 ∧ r 33 i = gi C 5 (rgx C i) 1 ∧ r 34 i = num C (gr C 5 (rgx C i) 2) ∧ r 35 i = num C (gr C 5 (rgx C i) 3) ∧ r 36 i = num C (gr C 5 (rgx C i) 4) ∧ r 37 i = gi C 5 (rgx C i) 5
  rl : ∀ i, i < nRg C → (∀ q, gr C 5 (rgx C i) 2 = some q → q < gn C 7) ∧ (∀ q, gr C 5 (rgx C i) 3 = some q → q < gn C 7) ∧ ∀ q, gr C 5 (rgx C i) 4 = some q → q < gn C 7
  rp : ∀ i, i < nRg C → isP (gi C 5 (rgx C i) 0) = true ∧ (gi C 5 (rgx C i) 5 = 0 ∨ gi C 5 (rgx C i) 5 = 1)
  cl : ∀ i, i < 8 → r 38 i = gi C 2 i 0 ∧ r 40 i = gi C 2 i 1 ∧ r 41 i = num C (gr C 2 i 2)
  cq : ∀ i, i < 8 → (gi C 2 i 0 = 0 ∨ gi C 2 i 0 = 1) ∧ (gi C 2 i 0 = 0 → gr C 2 i 2 = none) ∧ isP (gi C 2 i 1) = true ∧ ∀ q, gr C 2 i 2 = some q → q < gn C 7
  fz : ∀ k, k < 8 → r 47 k = num C (gr C 12 0 k) ∧ ∀ q, gr C 12 0 k = some q → q < gn C 7
  nj : r 18 31 = nI (gn C 4)
  jb : ∀ j, j < gn C 4 → r 42 j = gi C 4 j 1 ∧ r 43 j = gi C 4 j 2 ∧ r 44 j = gi C 4 j 3 ∧ r 45 j = gi C 4 j 5 ∧ r 39 j = gi C 4 j 4 ∧ isP (gi C 4 j 2) = true ∧ (gi C 4 j 4 = 0 ∨ gi C 4 j 4 = 1)
  tr : ∃ t, t ≤ B ∧ r 18 32 = nI t ∧ gi C 3 0 2 = nI t ∧ gi C 3 0 1 = nI (min t 60) ∧ ∀ k, k < min t 60 → r 46 k = gi C 14 0 k
theorem Rq.up {C : mM} {r : rR} {B B' : Nat} (h : Rq T C r B) (hB : B ≤ B') : Rq T C r B' := { h with tr := by obtain ⟨t, h1, h2⟩ := h.tr; exact ⟨t, by omega, h2⟩ }
theorem ixk_n {n N : Nat} (h : n < N) (hN : N < 2 ^ 31) : ixk (nI n) N := by
  have e : (nI n).toNatClampNeg = n := nI_clamp (by omega)
  exact ⟨by rw [e], by rw [e]; exact h⟩
/-- what a write to the trace changes -/
def tw (C : mM) (f : Nat → Nat → Nat → Int32) : mM := (fun k i j => if k = 3 ∨ k = 14 then f k i j else C.1 k i j, C.2)
def rw2 (r : rR) (f : rR) : rR := fun k j => if k = 46 ∨ (k = 18 ∧ j = 32) then f k j else r k j
theorem trA_tw (C : mM) (x : Int32) : trA C x = tw C (trA C x).1 := by
  unfold tw
  refine Prod.ext ?_ ?_
  · funext k i j
    by_cases h : k = 3 ∨ k = 14
    · show _ = if _ then _ else _
      rw [if_pos h]
    · show _ = if _ then _ else _
      rw [if_neg h]
      exact trA_gi C x k i j (fun z => h (Or.inl z)) (fun z => h (Or.inr z))
  · unfold trA trK
    split <;> rfl
theorem write_rw (r : rR) (x : Int32) : m_write r x = rw2 r (m_write r x) := by
  funext k j
  show _ = if _ then _ else _
  by_cases h : k = 46 ∨ (k = 18 ∧ j = 32)
  · rw [if_pos h]
  · rw [if_neg h]
    unfold m_write
    split
    · exact ru_n _ _ (fun z => h (Or.inr z))
    · rw [ru_n _ _ (fun z => h (Or.inr z))]; exact ru_n _ _ (fun z => h (Or.inl z.1))
theorem sim_write {C : mM} {r : rR} {B : Nat} (h : Rq T C r B) (hB : B < 1000000) (x : Int32) : m_write_ok r x ∧ Rq T (trA C x) (m_write r x) (B + 1) := by
  obtain ⟨t, h1, h2, h3, h4, h5⟩ := h.tr
  have hz : tsz C = min t 60 := by unfold tsz; rw [h4]; exact nI_clamp (by omega)
  have ht : t < 2 ^ 31 := by omega
  have hle : (60 : Int32) ≤ r 18 32 ↔ 60 ≤ t := by rw [h2]; exact nI_leI (a := 60) (by omega) (by omega)
  have hcl : (r 18 32).toNatClampNeg = t := by rw [h2]; exact nI_clamp (by omega)
  refine ⟨⟨fun _ => trivial, fun z => ?_⟩, ?_⟩
  · rw [h2]; exact ixk_n (by rcases Nat.lt_or_ge t 60 with a | a; exact a; exact absurd (hle.mpr a) z) (by omega)
  · have ht' : ∃ t', t' ≤ B + 1 ∧ m_write r x 18 32 = nI t' ∧ gi (trA C x) 3 0 2 = nI t' ∧ gi (trA C x) 3 0 1 = nI (min t' 60) ∧ ∀ k, k < min t' 60 → m_write r x 46 k = gi (trA C x) 14 0 k := by
      refine ⟨t + 1, by omega, ?_, ?_, ?_, ?_⟩
      · unfold m_write
        split <;> (rw [ru_s, h2, nI_1])
      · show gi (si _ 3 0 2 _) 3 0 2 = _
        rw [gi_si, if_pos ⟨rfl, rfl, rfl⟩, h3, nI_1]
      · show gi (si _ 3 0 2 _) 3 0 1 = _
        rw [gi_si, if_neg (by omega)]
        unfold trK
        rw [hz]
        by_cases h6 : t < 60
        · rw [if_pos (by omega), gi_si, if_pos ⟨rfl, rfl, rfl⟩]; congr 1; omega
        · rw [if_neg (by omega), h4]; congr 1; omega
      · intro k hk
        show _ = gi (si _ 3 0 2 _) 14 0 k
        rw [gi_si, if_neg (by omega)]
        unfold trK m_write
        rw [hz]
        by_cases h6 : t < 60
        · rw [if_neg (fun z => absurd (hle.mp z) (by omega)), if_pos (show min t 60 < 60 by omega), ru_n _ _ (by omega), gi_si, if_neg (by omega), gi_si, hcl]
          unfold ru
          by_cases h7 : k = t
          · rw [if_pos ⟨rfl, h7⟩, if_pos ⟨rfl, rfl, by omega⟩]
          · rw [if_neg (by omega), if_neg (by omega)]; exact h5 k (by omega)
        · rw [if_pos (hle.mpr (by omega)), if_neg (show ¬ min t 60 < 60 by omega), ru_n _ _ (by omega)]; exact h5 k (by omega)
    rw [trA_tw C x, write_rw r x] at ht' ⊢
    exact { h with tr := ht' }
end SIM1
