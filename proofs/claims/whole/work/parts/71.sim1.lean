section SIM1
variable {T : Int32}
/-- the two memories side by side -/
def Rq (T : Int32) (C : mM) (r : rR) (B : Nat) : Prop :=
  (r 18 34 = T) ∧
  (wK C) ∧
  (wO C) ∧
  (wD C) ∧
  (∀ k, k < 4 → r 19 k = gi C 1 k 0 ∧ r 20 k = gi C 1 k 1 ∧ r 21 k = gi C 1 k 2 ∧ r 22 k = gi C 1 k 3 ∧ isP (gi C 1 k 1) = true ∧ ∃ q, q < 4 ∧ gi C 1 k 3 = nI q) ∧
  (r 18 33 = gi C 0 0 2 ∧ r 18 35 = (if gi C 0 0 1 = 0 then 1 else 0)) ∧
  (r 18 30 = nI (gn C 7)) ∧
  (∀ i, i < gn C 7 → r 24 (i + 1) = gi C 7 i 5 ∧ r 25 (i + 1) = gi C 7 i 1 ∧ r 26 (i + 1) = gi C 7 i 2 ∧ r 27 (i + 1) = gi C 7 i 3 ∧ r 28 (i + 1) = gi C 6 i 2 ∧ r 31 (i + 1) = gi C 7 i 6 ∧ (∃ q, q < 4 ∧ gi C 7 i 3 = nI q) ∧ (gi C 7 i 6 = 0 ∨ gi C 7 i 6 = 1)) ∧
  (∀ i, i < gn C 7 → ∀ k, k < csz C i → r 29 (4 * (i + 1) + k) = gi C 15 i k ∧ r 30 (4 * (i + 1) + k) = gi C 16 i k) ∧
  (r 18 29 = nI (nRg C)) ∧
  (∀ i, i < nRg C → r 32 i = gi C 5 (rgx C i) 0 ∧ r 33 i = gi C 5 (rgx C i) 1 ∧ r 34 i = num C (gr C 5 (rgx C i) 2) ∧ r 35 i = num C (gr C 5 (rgx C i) 3) ∧ r 36 i = num C (gr C 5 (rgx C i) 4) ∧ r 37 i = gi C 5 (rgx C i) 5) ∧
  (∀ i, i < nRg C → (∀ q, gr C 5 (rgx C i) 2 = some q → q < gn C 7) ∧ (∀ q, gr C 5 (rgx C i) 3 = some q → q < gn C 7) ∧ ∀ q, gr C 5 (rgx C i) 4 = some q → q < gn C 7) ∧
  (∀ i, i < nRg C → isP (gi C 5 (rgx C i) 0) = true ∧ (gi C 5 (rgx C i) 5 = 0 ∨ gi C 5 (rgx C i) 5 = 1)) ∧
  (∀ i, i < 8 → r 38 i = gi C 2 i 0 ∧ r 40 i = gi C 2 i 1 ∧ r 41 i = num C (gr C 2 i 2)) ∧
  (∀ i, i < 8 → (gi C 2 i 0 = 0 ∨ gi C 2 i 0 = 1) ∧ (gi C 2 i 0 = 0 → gr C 2 i 2 = none) ∧ isP (gi C 2 i 1) = true ∧ ∀ q, gr C 2 i 2 = some q → q < gn C 7) ∧
  (∀ k, k < 8 → r 47 k = num C (gr C 12 0 k) ∧ ∀ q, gr C 12 0 k = some q → q < gn C 7) ∧
  (r 18 31 = nI (gn C 4)) ∧
  (∀ j, j < gn C 4 → r 42 j = gi C 4 j 1 ∧ r 43 j = gi C 4 j 2 ∧ r 44 j = gi C 4 j 3 ∧ r 45 j = gi C 4 j 5 ∧ r 39 j = gi C 4 j 4 ∧ isP (gi C 4 j 2) = true ∧ (gi C 4 j 4 = 0 ∨ gi C 4 j 4 = 1)) ∧
  (∃ t, t ≤ B ∧ r 18 32 = nI t ∧ gi C 3 0 2 = nI t ∧ gi C 3 0 1 = nI (min t 60) ∧ ∀ k, k < min t 60 → r 46 k = gi C 14 0 k)
theorem Rq.th {T : Int32} {C : mM} {r : rR} {B : Nat} (h : Rq T C r B) : r 18 34 = T := h.1
theorem Rq.w {T : Int32} {C : mM} {r : rR} {B : Nat} (h : Rq T C r B) : wK C := h.2.1
theorem Rq.o {T : Int32} {C : mM} {r : rR} {B : Nat} (h : Rq T C r B) : wO C := h.2.2.1
theorem Rq.d {T : Int32} {C : mM} {r : rR} {B : Nat} (h : Rq T C r B) : wD C := h.2.2.2.1
theorem Rq.sc {T : Int32} {C : mM} {r : rR} {B : Nat} (h : Rq T C r B) : ∀ k, k < 4 → r 19 k = gi C 1 k 0 ∧ r 20 k = gi C 1 k 1 ∧ r 21 k = gi C 1 k 2 ∧ r 22 k = gi C 1 k 3 ∧ isP (gi C 1 k 1) = true ∧ ∃ q, q < 4 ∧ gi C 1 k 3 = nI q := h.2.2.2.2.1
theorem Rq.ne {T : Int32} {C : mM} {r : rR} {B : Nat} (h : Rq T C r B) : r 18 33 = gi C 0 0 2 ∧ r 18 35 = (if gi C 0 0 1 = 0 then 1 else 0) := h.2.2.2.2.2.1
theorem Rq.nw {T : Int32} {C : mM} {r : rR} {B : Nat} (h : Rq T C r B) : r 18 30 = nI (gn C 7) := h.2.2.2.2.2.2.1
theorem Rq.wk {T : Int32} {C : mM} {r : rR} {B : Nat} (h : Rq T C r B) : ∀ i, i < gn C 7 → r 24 (i + 1) = gi C 7 i 5 ∧ r 25 (i + 1) = gi C 7 i 1 ∧ r 26 (i + 1) = gi C 7 i 2 ∧ r 27 (i + 1) = gi C 7 i 3 ∧ r 28 (i + 1) = gi C 6 i 2 ∧ r 31 (i + 1) = gi C 7 i 6 ∧ (∃ q, q < 4 ∧ gi C 7 i 3 = nI q) ∧ (gi C 7 i 6 = 0 ∨ gi C 7 i 6 = 1) := h.2.2.2.2.2.2.2.1
theorem Rq.ca {T : Int32} {C : mM} {r : rR} {B : Nat} (h : Rq T C r B) : ∀ i, i < gn C 7 → ∀ k, k < csz C i → r 29 (4 * (i + 1) + k) = gi C 15 i k ∧ r 30 (4 * (i + 1) + k) = gi C 16 i k := h.2.2.2.2.2.2.2.2.1
theorem Rq.nr {T : Int32} {C : mM} {r : rR} {B : Nat} (h : Rq T C r B) : r 18 29 = nI (nRg C) := h.2.2.2.2.2.2.2.2.2.1
theorem Rq.rg {T : Int32} {C : mM} {r : rR} {B : Nat} (h : Rq T C r B) : ∀ i, i < nRg C → r 32 i = gi C 5 (rgx C i) 0 ∧ r 33 i = gi C 5 (rgx C i) 1 ∧ r 34 i = num C (gr C 5 (rgx C i) 2) ∧ r 35 i = num C (gr C 5 (rgx C i) 3) ∧ r 36 i = num C (gr C 5 (rgx C i) 4) ∧ r 37 i = gi C 5 (rgx C i) 5 := h.2.2.2.2.2.2.2.2.2.2.1
theorem Rq.rl {T : Int32} {C : mM} {r : rR} {B : Nat} (h : Rq T C r B) : ∀ i, i < nRg C → (∀ q, gr C 5 (rgx C i) 2 = some q → q < gn C 7) ∧ (∀ q, gr C 5 (rgx C i) 3 = some q → q < gn C 7) ∧ ∀ q, gr C 5 (rgx C i) 4 = some q → q < gn C 7 := h.2.2.2.2.2.2.2.2.2.2.2.1
theorem Rq.rp {T : Int32} {C : mM} {r : rR} {B : Nat} (h : Rq T C r B) : ∀ i, i < nRg C → isP (gi C 5 (rgx C i) 0) = true ∧ (gi C 5 (rgx C i) 5 = 0 ∨ gi C 5 (rgx C i) 5 = 1) := h.2.2.2.2.2.2.2.2.2.2.2.2.1
theorem Rq.cl {T : Int32} {C : mM} {r : rR} {B : Nat} (h : Rq T C r B) : ∀ i, i < 8 → r 38 i = gi C 2 i 0 ∧ r 40 i = gi C 2 i 1 ∧ r 41 i = num C (gr C 2 i 2) := h.2.2.2.2.2.2.2.2.2.2.2.2.2.1
theorem Rq.cq {T : Int32} {C : mM} {r : rR} {B : Nat} (h : Rq T C r B) : ∀ i, i < 8 → (gi C 2 i 0 = 0 ∨ gi C 2 i 0 = 1) ∧ (gi C 2 i 0 = 0 → gr C 2 i 2 = none) ∧ isP (gi C 2 i 1) = true ∧ ∀ q, gr C 2 i 2 = some q → q < gn C 7 := h.2.2.2.2.2.2.2.2.2.2.2.2.2.2.1
theorem Rq.fz {T : Int32} {C : mM} {r : rR} {B : Nat} (h : Rq T C r B) : ∀ k, k < 8 → r 47 k = num C (gr C 12 0 k) ∧ ∀ q, gr C 12 0 k = some q → q < gn C 7 := h.2.2.2.2.2.2.2.2.2.2.2.2.2.2.2.1
theorem Rq.nj {T : Int32} {C : mM} {r : rR} {B : Nat} (h : Rq T C r B) : r 18 31 = nI (gn C 4) := h.2.2.2.2.2.2.2.2.2.2.2.2.2.2.2.2.1
theorem Rq.jb {T : Int32} {C : mM} {r : rR} {B : Nat} (h : Rq T C r B) : ∀ j, j < gn C 4 → r 42 j = gi C 4 j 1 ∧ r 43 j = gi C 4 j 2 ∧ r 44 j = gi C 4 j 3 ∧ r 45 j = gi C 4 j 5 ∧ r 39 j = gi C 4 j 4 ∧ isP (gi C 4 j 2) = true ∧ (gi C 4 j 4 = 0 ∨ gi C 4 j 4 = 1) := h.2.2.2.2.2.2.2.2.2.2.2.2.2.2.2.2.2.1
theorem Rq.tr {T : Int32} {C : mM} {r : rR} {B : Nat} (h : Rq T C r B) : ∃ t, t ≤ B ∧ r 18 32 = nI t ∧ gi C 3 0 2 = nI t ∧ gi C 3 0 1 = nI (min t 60) ∧ ∀ k, k < min t 60 → r 46 k = gi C 14 0 k := h.2.2.2.2.2.2.2.2.2.2.2.2.2.2.2.2.2.2
theorem Rq.mk {T : Int32} {C : mM} {r : rR} {B : Nat} (h_th : r 18 34 = T) (h_w : wK C) (h_o : wO C) (h_d : wD C) (h_sc : ∀ k, k < 4 → r 19 k = gi C 1 k 0 ∧ r 20 k = gi C 1 k 1 ∧ r 21 k = gi C 1 k 2 ∧ r 22 k = gi C 1 k 3 ∧ isP (gi C 1 k 1) = true ∧ ∃ q, q < 4 ∧ gi C 1 k 3 = nI q) (h_ne : r 18 33 = gi C 0 0 2 ∧ r 18 35 = (if gi C 0 0 1 = 0 then 1 else 0)) (h_nw : r 18 30 = nI (gn C 7)) (h_wk : ∀ i, i < gn C 7 → r 24 (i + 1) = gi C 7 i 5 ∧ r 25 (i + 1) = gi C 7 i 1 ∧ r 26 (i + 1) = gi C 7 i 2 ∧ r 27 (i + 1) = gi C 7 i 3 ∧ r 28 (i + 1) = gi C 6 i 2 ∧ r 31 (i + 1) = gi C 7 i 6 ∧ (∃ q, q < 4 ∧ gi C 7 i 3 = nI q) ∧ (gi C 7 i 6 = 0 ∨ gi C 7 i 6 = 1)) (h_ca : ∀ i, i < gn C 7 → ∀ k, k < csz C i → r 29 (4 * (i + 1) + k) = gi C 15 i k ∧ r 30 (4 * (i + 1) + k) = gi C 16 i k) (h_nr : r 18 29 = nI (nRg C)) (h_rg : ∀ i, i < nRg C → r 32 i = gi C 5 (rgx C i) 0 ∧ r 33 i = gi C 5 (rgx C i) 1 ∧ r 34 i = num C (gr C 5 (rgx C i) 2) ∧ r 35 i = num C (gr C 5 (rgx C i) 3) ∧ r 36 i = num C (gr C 5 (rgx C i) 4) ∧ r 37 i = gi C 5 (rgx C i) 5) (h_rl : ∀ i, i < nRg C → (∀ q, gr C 5 (rgx C i) 2 = some q → q < gn C 7) ∧ (∀ q, gr C 5 (rgx C i) 3 = some q → q < gn C 7) ∧ ∀ q, gr C 5 (rgx C i) 4 = some q → q < gn C 7) (h_rp : ∀ i, i < nRg C → isP (gi C 5 (rgx C i) 0) = true ∧ (gi C 5 (rgx C i) 5 = 0 ∨ gi C 5 (rgx C i) 5 = 1)) (h_cl : ∀ i, i < 8 → r 38 i = gi C 2 i 0 ∧ r 40 i = gi C 2 i 1 ∧ r 41 i = num C (gr C 2 i 2)) (h_cq : ∀ i, i < 8 → (gi C 2 i 0 = 0 ∨ gi C 2 i 0 = 1) ∧ (gi C 2 i 0 = 0 → gr C 2 i 2 = none) ∧ isP (gi C 2 i 1) = true ∧ ∀ q, gr C 2 i 2 = some q → q < gn C 7) (h_fz : ∀ k, k < 8 → r 47 k = num C (gr C 12 0 k) ∧ ∀ q, gr C 12 0 k = some q → q < gn C 7) (h_nj : r 18 31 = nI (gn C 4)) (h_jb : ∀ j, j < gn C 4 → r 42 j = gi C 4 j 1 ∧ r 43 j = gi C 4 j 2 ∧ r 44 j = gi C 4 j 3 ∧ r 45 j = gi C 4 j 5 ∧ r 39 j = gi C 4 j 4 ∧ isP (gi C 4 j 2) = true ∧ (gi C 4 j 4 = 0 ∨ gi C 4 j 4 = 1)) (h_tr : ∃ t, t ≤ B ∧ r 18 32 = nI t ∧ gi C 3 0 2 = nI t ∧ gi C 3 0 1 = nI (min t 60) ∧ ∀ k, k < min t 60 → r 46 k = gi C 14 0 k) : Rq T C r B := ⟨h_th, h_w, h_o, h_d, h_sc, h_ne, h_nw, h_wk, h_ca, h_nr, h_rg, h_rl, h_rp, h_cl, h_cq, h_fz, h_nj, h_jb, h_tr⟩
theorem Rq.up {C : mM} {r : rR} {B B' : Nat} (h : Rq T C r B) (hB : B ≤ B') : Rq T C r B' := (Rq.mk h.th h.w h.o h.d h.sc h.ne h.nw h.wk h.ca h.nr h.rg h.rl h.rp h.cl h.cq h.fz h.nj h.jb (by obtain ⟨t, h1, h2⟩ := h.tr; exact ⟨t, by omega, h2⟩))
theorem ixk_n {n N : Nat} (h : n < N) (hN : N < 2 ^ 31) : ixk (nI n) N := by
  have e : (nI n).toNatClampNeg = n := nI_clamp (by omega)
  exact ⟨by rw [e], by rw [e]; exact h⟩
/-- what a write to the trace changes -/
def tw (C : mM) (f : Nat → Nat → Nat → Int32) : mM := (fun k i j => if k = 3 ∨ k = 14 then f k i j else C.1 k i j, C.2)
def rw2 (r : rR) (f : rR) : rR := fun k j => if k = 46 ∨ (k = 18 ∧ j = 32) then f k j else r k j
theorem trA_tw (C : mM) (x : Int32) : trA C x = tw C (trA C x).1 := by
  unfold tw
  refine Prod.ext ?_ ?_
  · funext k i j
    by_cases h : k = 3 ∨ k = 14
    · show _ = if _ then _ else _
      rw [if_pos h]
    · show _ = if _ then _ else _
      rw [if_neg h]
      exact trA_gi C x k i j (fun z => h (Or.inl z)) (fun z => h (Or.inr z))
  · unfold trA trK
    split <;> rfl
theorem write_rw (r : rR) (x : Int32) : m_write r x = rw2 r (m_write r x) := by
  funext k j
  show _ = if _ then _ else _
  by_cases h : k = 46 ∨ (k = 18 ∧ j = 32)
  · rw [if_pos h]
  · rw [if_neg h]
    unfold m_write
    split
    · exact ru_n _ _ (fun z => h (Or.inr z))
    · rw [ru_n _ _ (fun z => h (Or.inr z))]; exact ru_n _ _ (fun z => h (Or.inl z.1))
theorem sim_write {C : mM} {r : rR} {B : Nat} (h : Rq T C r B) (hB : B < 1000000) (x : Int32) : m_write_ok r x ∧ Rq T (trA C x) (m_write r x) (B + 1) := by
  obtain ⟨t, h1, h2, h3, h4, h5⟩ := h.tr
  have hz : tsz C = min t 60 := by unfold tsz; rw [h4]; exact nI_clamp (by omega)
  have ht : t < 2 ^ 31 := by omega
  have hle : (60 : Int32) ≤ r 18 32 ↔ 60 ≤ t := by rw [h2]; exact nI_leI (a := 60) (by omega) (by omega)
  have hcl : (r 18 32).toNatClampNeg = t := by rw [h2]; exact nI_clamp (by omega)
  refine ⟨⟨fun _ => trivial, fun z => ?_⟩, ?_⟩
  · rw [h2]; exact ixk_n (by rcases Nat.lt_or_ge t 60 with a | a; exact a; exact absurd (hle.mpr a) z) (by omega)
  · have ht' : ∃ t', t' ≤ B + 1 ∧ m_write r x 18 32 = nI t' ∧ gi (trA C x) 3 0 2 = nI t' ∧ gi (trA C x) 3 0 1 = nI (min t' 60) ∧ ∀ k, k < min t' 60 → m_write r x 46 k = gi (trA C x) 14 0 k := by
      refine ⟨t + 1, by omega, ?_, ?_, ?_, ?_⟩
      · unfold m_write
        split <;> (rw [ru_s, h2, nI_1])
      · show gi (si _ 3 0 2 _) 3 0 2 = _
        rw [gi_si, if_pos ⟨rfl, rfl, rfl⟩, h3, nI_1]
      · show gi (si _ 3 0 2 _) 3 0 1 = _
        rw [gi_si, if_neg (by omega)]
        unfold trK
        rw [hz]
        by_cases h6 : t < 60
        · rw [if_pos (by omega), gi_si, if_pos ⟨rfl, rfl, rfl⟩]; congr 1; omega
        · rw [if_neg (by omega), h4]; congr 1; omega
      · intro k hk
        show _ = gi (si _ 3 0 2 _) 14 0 k
        rw [gi_si, if_neg (by omega)]
        unfold trK m_write
        rw [hz]
        by_cases h6 : t < 60
        · rw [if_neg (fun z => absurd (hle.mp z) (by omega)), if_pos (show min t 60 < 60 by omega), ru_n _ _ (by omega), gi_si, if_neg (by omega), gi_si, hcl]
          unfold ru
          by_cases h7 : k = t
          · rw [if_pos ⟨rfl, h7⟩, if_pos ⟨rfl, rfl, by omega⟩]
          · rw [if_neg (by omega), if_neg (by omega)]; exact h5 k (by omega)
        · rw [if_pos (hle.mpr (by omega)), if_neg (show ¬ min t 60 < 60 by omega), ru_n _ _ (by omega)]; exact h5 k (by omega)
    rw [trA_tw C x, write_rw r x] at ht' ⊢
    exact (Rq.mk h.th h.w h.o h.d h.sc h.ne h.nw h.wk h.ca h.nr h.rg h.rl h.rp h.cl h.cq h.fz h.nj h.jb (ht'))
end SIM1
