section SIM4
variable {T : Int32}
def shf (r : rR) (p i : Nat) : rR := fun k j => if 32 ≤ k ∧ k ≤ 37 ∧ p ≤ j ∧ j < i then r k (j + 1) else r k j
theorem shf_0 (r : rR) (p : Nat) : shf r p p = r := by
  funext k j; exact if_neg (by omega)
theorem go_step (r : rR) {p i : Nat} (h : p ≤ i) : ru (ru (ru (ru (ru (ru (shf r p i) 32 i (shf r p i 32 (i + 1))) 33 i (shf r p i 33 (i + 1))) 34 i (shf r p i 34 (i + 1))) 35 i (shf r p i 35 (i + 1))) 36 i (shf r p i 36 (i + 1))) 37 i (shf r p i 37 (i + 1)) = shf r p (i + 1) := by
  funext k j
  have e : ∀ k, shf r p i k (i + 1) = r k (i + 1) := fun k => if_neg (by omega)
  rw [e, e, e, e, e, e]
  unfold ru
  by_cases hj : j = i
  · subst hj
    by_cases hk : 32 ≤ k ∧ k ≤ 37
    · have h3 : k = 32 ∨ k = 33 ∨ k = 34 ∨ k = 35 ∨ k = 36 ∨ k = 37 := by omega
      have e2 : shf r p (j + 1) k j = r k (j + 1) := if_pos (by omega)
      rw [e2]
      rcases h3 with rfl | rfl | rfl | rfl | rfl | rfl <;> simp
    · have e2 : shf r p (j + 1) k j = shf r p j k j := by unfold shf; rw [if_neg (by omega), if_neg (by omega)]
      rw [e2, if_neg (by omega), if_neg (by omega), if_neg (by omega), if_neg (by omega), if_neg (by omega), if_neg (by omega)]
  · rw [if_neg (by omega), if_neg (by omega), if_neg (by omega), if_neg (by omega), if_neg (by omega), if_neg (by omega)]
    unfold shf
    by_cases hc : 32 ≤ k ∧ k ≤ 37 ∧ p ≤ j ∧ j < i
    · rw [if_pos hc, if_pos (by omega)]
    · rw [if_neg hc, if_neg (by omega)]
theorem go_at {r : rR} {p N : Nat} (hN : r 18 29 = nI N) (hN5 : N ≤ 4) (hb : ∀ j, j ≤ N → r 37 j = 0 ∨ r 37 j = 1) : ∀ n i, p ≤ i → i ≤ N → N < i + n → m_go_L12_ok n (shf r p i) (nI p) (nI i) ∧ m_go_L12 n (shf r p i) (nI p) (nI i) = shf r p N := by
  intro n
  induction n with
  | zero => intro i h0 h1 h2; omega
  | succ n ih =>
    intro i h0 h1 h2
    have ec : (nI i).toNatClampNeg = i := nI_clamp (by omega)
    have ec2 : (nI (i + 1)).toNatClampNeg = i + 1 := nI_clamp (by omega)
    have hle : shf r p i 18 29 ≤ nI i ↔ N ≤ i := by show r 18 29 ≤ _ ↔ _; rw [hN]; exact nI_leI (by omega) (by omega)
    unfold m_go_L12_ok m_go_L12
    rw [nI_1, ec, ec2, go_step r h0]
    by_cases hi : N ≤ i
    · have e0 : i = N := by omega
      subst e0
      rw [if_pos (hle.mpr hi)]; exact ⟨⟨fun _ => trivial, fun z => absurd (hle.mpr hi) z⟩, rfl⟩
    · rw [if_neg (fun z => hi (hle.mp z))]
      have hx := ixk_n (n := i) (N := 6) (by omega) (by omega)
      have hx2 := ixk_n (n := i + 1) (N := 6) (by omega) (by omega)
      have h9 := ih (i + 1) (by omega) (by omega) (by omega)
      have hb2 : shf r p i 37 (i + 1) = 0 ∨ shf r p i 37 (i + 1) = 1 := by
        have e : shf r p i 37 (i + 1) = r 37 (i + 1) := if_neg (by omega)
        rw [e]; exact hb (i + 1) (by omega)
      exact ⟨⟨fun z => absurd (hle.mp z) hi, fun _ => ⟨hx2, hx, hb2, h9.1⟩⟩, h9.2⟩
def rmN (C : mM) (x : Int32) (f : Nat → Nat → Option Nat) : mM := (fun k i j => if k = 0 ∧ i = 0 ∧ j = 6 then x else C.1 k i j, fun k i j => if k = 10 then f i j else C.2.1 k i j, C.2.2)
theorem rmM_nf (C : mM) (g : Nat) : rmM C g = rmN C (gi (rmM C g) 0 0 6) (fun i j => gr (rmM C g) 10 i j) := by
  obtain ⟨h1, h2, h3, h4, h5, h6⟩ := rmL_all C g (nRg C)
  refine Prod.ext ?_ (Prod.ext ?_ (Prod.ext ?_ ?_))
  · funext k i j
    show _ = if _ then _ else _
    by_cases h : k = 0 ∧ i = 0 ∧ j = 6
    · obtain ⟨rfl, rfl, rfl⟩ := h; rw [if_pos ⟨rfl, rfl, rfl⟩]; rfl
    · rw [if_neg h]
      show gi (si (rmL C g (nRg C)).1 0 0 6 (nI (rmL C g (nRg C)).2)) k i j = _
      rw [gi_si, if_neg h]; exact h4 k i j
  · funext k i j
    show _ = if _ then _ else _
    by_cases h : k = 10
    · subst h; rw [if_pos rfl]; rfl
    · rw [if_neg h]; exact h3 k i j h
  · funext k i j; exact h6 k i j
  · funext k; exact h5 k
theorem sim_go {C : mM} {r : rR} {B : Nat} (h : Rq T C r B) {p : Nat} (hp : p < nRg C) : m_go_ok r (nI p) ∧ Rq T (rmM C (rgx C p)) (m_go r (nI p)) B := by
  have hN := w_nrl h.w
  have e1 : r 18 29 - 1 = nI (nRg C - 1) := by rw [h.nr]; exact pk_sub (a := nRg C) (b := 1) (by omega)
  obtain ⟨h1, h2⟩ := go_at (r := ru r 18 29 (r 18 29 - 1)) (p := p) (N := nRg C - 1) (by rw [ru_s]; exact e1) (by omega) (fun j hj => by
    have : ru r 18 29 (r 18 29 - 1) 37 j = r 37 j := rfl
    rw [this, (h.rg j (by omega)).2.2.2.2.2]; exact (h.rp j (by omega)).2) 6 p (Nat.le_refl _) (by omega) (by omega)
  rw [shf_0] at h1 h2
  have h2' : m_go r (nI p) = _ := h2
  refine ⟨h1, ?_⟩
  rw [h2']
  have en := rmM_n h.w h.d hp
  have ex : ∀ j, j < nRg C - 1 → rgx (rmM C (rgx C p)) j = rgx C (if j < p then j else j + 1) := fun j hj => rmM_x h.w h.d hp hj
  have fw := rmM_w h.w (rgx C p)
  have fo := kq_o (rmM_kq C (rgx C p)) h.o
  have fd := rmM_D h.w h.d hp
  have fs : ∀ k j, 32 ≤ k → k ≤ 37 → j < nRg C - 1 → shf (ru r 18 29 (r 18 29 - 1)) p (nRg C - 1) k j = r k (if j < p then j else j + 1) := by
    intro k j hk1 hk2 hj
    unfold shf
    by_cases hj2 : j < p
    · rw [if_neg (by omega), if_pos hj2, ru_n _ _ (by omega)]
    · rw [if_pos (by omega), if_neg hj2, ru_n _ _ (by omega)]
  have fi : ∀ j, j < nRg C - 1 → (if j < p then j else j + 1) < nRg C := fun j hj => by split <;> omega
  have fr : ∀ i, i < nRg (rmM C (rgx C p)) → shf (ru r 18 29 (r 18 29 - 1)) p (nRg C - 1) 32 i = gi C 5 (rgx (rmM C (rgx C p)) i) 0 ∧ shf (ru r 18 29 (r 18 29 - 1)) p (nRg C - 1) 33 i = gi C 5 (rgx (rmM C (rgx C p)) i) 1 ∧ shf (ru r 18 29 (r 18 29 - 1)) p (nRg C - 1) 34 i = num C (gr C 5 (rgx (rmM C (rgx C p)) i) 2) ∧ shf (ru r 18 29 (r 18 29 - 1)) p (nRg C - 1) 35 i = num C (gr C 5 (rgx (rmM C (rgx C p)) i) 3) ∧ shf (ru r 18 29 (r 18 29 - 1)) p (nRg C - 1) 36 i = num C (gr C 5 (rgx (rmM C (rgx C p)) i) 4) ∧ shf (ru r 18 29 (r 18 29 - 1)) p (nRg C - 1) 37 i = gi C 5 (rgx (rmM C (rgx C p)) i) 5 := by
    intro i hi
    rw [en] at hi
    rw [ex i hi, fs 32 i (by omega) (by omega) hi, fs 33 i (by omega) (by omega) hi, fs 34 i (by omega) (by omega) hi, fs 35 i (by omega) (by omega) hi, fs 36 i (by omega) (by omega) hi, fs 37 i (by omega) (by omega) hi]
    exact h.rg _ (fi i hi)
  have fl : ∀ i, i < nRg (rmM C (rgx C p)) → (∀ q, gr C 5 (rgx (rmM C (rgx C p)) i) 2 = some q → q < gn C 7) ∧ (∀ q, gr C 5 (rgx (rmM C (rgx C p)) i) 3 = some q → q < gn C 7) ∧ ∀ q, gr C 5 (rgx (rmM C (rgx C p)) i) 4 = some q → q < gn C 7 := by
    intro i hi
    rw [en] at hi
    rw [ex i hi]; exact h.rl _ (fi i hi)
  have fp : ∀ i, i < nRg (rmM C (rgx C p)) → isP (gi C 5 (rgx (rmM C (rgx C p)) i) 0) = true ∧ (gi C 5 (rgx (rmM C (rgx C p)) i) 5 = 0 ∨ gi C 5 (rgx (rmM C (rgx C p)) i) 5 = 1) := by
    intro i hi
    rw [en] at hi
    rw [ex i hi]; exact h.rp _ (fi i hi)
  have fn : shf (ru r 18 29 (r 18 29 - 1)) p (nRg C - 1) 18 29 = nI (nRg (rmM C (rgx C p))) := by rw [en]; exact (ru_s r 18 29 _).trans e1
  rw [rmM_nf C (rgx C p)] at fw fo fd fr fl fp fn ⊢
  exact (Rq.mk h.th (fw) (fo) (fd) h.sc h.ne h.nw h.wk h.ca (fn) (fr) (fl) (fp) h.cl h.cq h.fz h.nj h.jb h.tr)
end SIM4
