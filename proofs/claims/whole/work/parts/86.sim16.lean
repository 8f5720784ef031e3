section SIM16
variable {T : Int32}
theorem ix4 {i k : Nat} : 4 * nI (i + 1) + nI k = nI (4 * (i + 1) + k) := by
  rw [show (4 : Int32) = nI 4 from rfl, pk_mul, nI_add]
theorem csz_n {C : mM} {r : rR} {B : Nat} (h : Rq T C r B) {i : Nat} (hi : i < gn C 7) : csz C i ≤ 4 ∧ r 28 (i + 1) = nI (csz C i) := by
  obtain ⟨z, hz, e⟩ := h.o.2.2.2.1 i hi
  have e2 : csz C i = z := by unfold csz; rw [e]; exact nI_clamp (by omega)
  rw [e2, (h.wk i hi).2.2.2.2.1]; exact ⟨hz, e⟩
theorem cached_at {r : rR} {x : Int32} {w z : Nat} (hw : w < 40) (hz : r 28 (w + 1) = nI z) (hz4 : z ≤ 4) : ∀ n k, k ≤ z → z < k + n → m_cached_L2_ok n r (nI (w + 1)) x (nI k) ∧ m_cached_L2 n r (nI (w + 1)) x (nI k) = oI (ff (fun j => decide (r 29 (4 * (w + 1) + j) = x)) (z - k) k) := by
  intro n
  induction n with
  | zero => intro i h1 h2; omega
  | succ n ih =>
    intro k h1 h2
    have ew : (nI (w + 1)).toNatClampNeg = w + 1 := nI_clamp (by omega)
    have ek : (nI (4 * (w + 1) + k)).toNatClampNeg = 4 * (w + 1) + k := nI_clamp (by omega)
    have hle : r 28 (w + 1) ≤ nI k ↔ z ≤ k := by rw [hz]; exact nI_leI (by omega) (by omega)
    have hx := ixk_n (n := w + 1) (N := 41) (by omega) (by omega)
    unfold m_cached_L2_ok m_cached_L2
    rw [ew, ix4, ek]
    by_cases hi : z ≤ k
    · have e0 : z - k = 0 := by omega
      rw [if_pos (hle.mpr hi), e0]; exact ⟨⟨hx, fun _ => trivial, fun y => absurd (hle.mpr hi) y⟩, rfl⟩
    · have e1 : z - k = (z - (k + 1)) + 1 := by omega
      rw [if_neg (fun y => hi (hle.mp y))]
      have hx2 := ixk_n (n := 4 * (w + 1) + k) (N := 164) (by omega) (by omega)
      by_cases hp : r 29 (4 * (w + 1) + k) = x
      · rw [if_pos hp, e1, ff_t (by simpa using hp)]; exact ⟨⟨hx, fun y => absurd (hle.mp y) hi, fun _ => ⟨hx2, fun _ => trivial, fun y => absurd hp y⟩⟩, rfl⟩
      · have := ih (k + 1) (by omega) (by omega)
        rw [if_neg hp, e1, ff_f (by simpa using hp), nI_1]; exact ⟨⟨hx, fun y => absurd (hle.mp y) hi, fun _ => ⟨hx2, fun y => absurd y hp, fun _ => this.1⟩⟩, this.2⟩
def chP (C : mM) (w : Nat) (x : Int32) : Option Nat := ff (fun i => decide (gi C 15 w i = x)) (csz C w) 0
theorem sim_cached {C : mM} {r : rR} {B : Nat} (h : Rq T C r B) {w : Nat} (hw : w < gn C 7) (x : Int32) : m_cached_ok r (nI (w + 1)) x ∧ m_cached r (nI (w + 1)) x = oI (chP C w x) := by
  have hN := w_nwl h.w
  obtain ⟨hz, e⟩ := csz_n h hw
  obtain ⟨o1, e1⟩ := cached_at (x := x) (w := w) (by omega) e hz 5 0 (by omega) (by omega)
  refine ⟨o1, e1.trans ?_⟩
  rw [Nat.sub_zero]
  unfold chP
  congr 1
  exact ff_cg (fun j _ hj => by rw [(h.ca w hw j (by omega)).1])
def shk (r : rR) (b p q : Nat) : rR := fun k j => if (k = 29 ∨ k = 30) ∧ b + p ≤ j ∧ j < b + q then r k (j + 1) else r k j
theorem shk_0 (r : rR) (b p : Nat) : shk r b p p = r := by
  funext k j; exact if_neg (by omega)
theorem keep_step (r : rR) {b p q : Nat} (h : p ≤ q) : ru (ru (shk r b p q) 29 (b + q) (shk r b p q 29 (b + q + 1))) 30 (b + q) (shk r b p q 30 (b + q + 1)) = shk r b p (q + 1) := by
  funext k j
  have e : ∀ k, shk r b p q k (b + q + 1) = r k (b + q + 1) := fun k => if_neg (by omega)
  rw [e, e]
  unfold ru
  by_cases hj : j = b + q
  · subst hj
    by_cases hk : k = 29 ∨ k = 30
    · have e2 : shk r b p (q + 1) k (b + q) = r k (b + q + 1) := if_pos (by omega)
      rw [e2]
      rcases hk with rfl | rfl <;> simp
    · have e2 : shk r b p (q + 1) k (b + q) = shk r b p q k (b + q) := by unfold shk; rw [if_neg (by omega), if_neg (by omega)]
      rw [e2, if_neg (by omega), if_neg (by omega)]
  · rw [if_neg (by omega), if_neg (by omega)]
    unfold shk
    by_cases hc : (k = 29 ∨ k = 30) ∧ b + p ≤ j ∧ j < b + q
    · rw [if_pos hc, if_pos (by omega)]
    · rw [if_neg hc, if_neg (by omega)]
def kend (r : rR) (w z : Nat) (x y : Int32) : rR := ru (ru (ru r 29 (4 * (w + 1) + z) x) 30 (4 * (w + 1) + z) y) 28 (w + 1) (nI (z + 1))
theorem keep_at {r : rR} {w p z : Nat} (hw : w < 40) (hz : r 28 (w + 1) = nI z) (hz4 : z ≤ 3) (x y v4 : Int32) : ∀ n q, p ≤ q → q ≤ z → z < q + n → m_keep_L45_ok n (shk r (4 * (w + 1)) p q) (nI (w + 1)) x y v4 (nI q) ∧ m_keep_L45 n (shk r (4 * (w + 1)) p q) (nI (w + 1)) x y v4 (nI q) = kend (shk r (4 * (w + 1)) p z) w z x y := by
  intro n
  induction n with
  | zero => intro i h0 h1 h2; omega
  | succ n ih =>
    intro q h0 h1 h2
    have ew : (nI (w + 1)).toNatClampNeg = w + 1 := nI_clamp (by omega)
    have eq : (nI (4 * (w + 1) + q)).toNatClampNeg = 4 * (w + 1) + q := nI_clamp (by omega)
    have eq1 : (nI (4 * (w + 1) + q + 1)).toNatClampNeg = 4 * (w + 1) + q + 1 := nI_clamp (by omega)
    have ez : (nI (4 * (w + 1) + z)).toNatClampNeg = 4 * (w + 1) + z := nI_clamp (by omega)
    have hs : shk r (4 * (w + 1)) p q 28 (w + 1) = nI z := hz
    have hle : nI z ≤ nI q ↔ z ≤ q := nI_leI (by omega) (by omega)
    have hx := ixk_n (n := w + 1) (N := 41) (by omega) (by omega)
    unfold m_keep_L45_ok m_keep_L45
    rw [ew, hs, ix4, ix4, nI_1, nI_1, nI_1, eq, eq1, ez, keep_step r h0]
    by_cases hi : z ≤ q
    · have e0 : q = z := by omega
      subst e0
      rw [if_pos (hle.mpr hi)]
      exact ⟨⟨hx, fun _ => ixk_n (by omega) (by omega), fun y => absurd (hle.mpr hi) y⟩, rfl⟩
    · rw [if_neg (fun y => hi (hle.mp y))]
      have h9 := ih (q + 1) (by omega) (by omega) (by omega)
      exact ⟨⟨hx, fun y => absurd (hle.mp y) hi, fun _ => ⟨ixk_n (by omega) (by omega), ixk_n (by omega) (by omega), h9.1⟩⟩, h9.2⟩
/-- what the caches' changes touch -/
def caM (C : mM) (f : Nat → Nat → Nat → Int32) : mM := (fun k i j => if k = 6 ∨ k = 15 ∨ k = 16 then f k i j else C.1 k i j, C.2)
def cr (r : rR) (f : rR) : rR := fun k j => if k = 28 ∨ k = 29 ∨ k = 30 then f k j else r k j
theorem sim_ca {C C' : mM} {r r' : rR} {B : Nat} (h : Rq T C r B) (hC : C' = caM C C'.1) (hr : r' = cr r r')
    (h6 : ∀ i, i < gn C 7 → r' 28 (i + 1) = gi C' 6 i 2 ∧ ∃ z, z ≤ 4 ∧ gi C' 6 i 2 = nI z)
    (h15 : ∀ i, i < gn C 7 → ∀ k, k < csz C' i → r' 29 (4 * (i + 1) + k) = gi C' 15 i k ∧ r' 30 (4 * (i + 1) + k) = gi C' 16 i k) : Rq T C' r' B := by
  rw [hC] at h6 h15 ⊢
  rw [hr] at h6 h15 ⊢
  have hwk : ∀ i, i < gn C 7 → cr r r' 24 (i + 1) = gi (caM C C'.1) 7 i 5 ∧ cr r r' 25 (i + 1) = gi (caM C C'.1) 7 i 1 ∧ cr r r' 26 (i + 1) = gi (caM C C'.1) 7 i 2 ∧ cr r r' 27 (i + 1) = gi (caM C C'.1) 7 i 3 ∧ cr r r' 28 (i + 1) = gi (caM C C'.1) 6 i 2 ∧ cr r r' 31 (i + 1) = gi (caM C C'.1) 7 i 6 ∧ (∃ q, q < 4 ∧ gi (caM C C'.1) 7 i 3 = nI q) ∧ (gi (caM C C'.1) 7 i 6 = 0 ∨ gi (caM C C'.1) 7 i 6 = 1) := by
    intro i hi
    obtain ⟨h1, h2, h3, h4, h5, h7, h8, h9⟩ := h.wk i hi
    exact ⟨h1, h2, h3, h4, (h6 i hi).1, h7, h8, h9⟩
  exact (Rq.mk h.th h.w (⟨h.o.1, h.o.2.1, h.o.2.2.1, fun i hi => (h6 i hi).2, h.o.2.2.2.2⟩) h.d h.sc h.ne h.nw (hwk) (h15) h.nr h.rg h.rl h.rp h.cl h.cq h.fz h.nj h.jb h.tr)
def kD (C : mM) (w p z : Nat) (x y : Int32) : mM := si (si (si (drpM C w p z) 15 w (z - 1) x) 16 w (z - 1) y) 6 w 2 (nI z)
theorem kD_gi (C : mM) (w p z : Nat) (x y : Int32) (k i j : Nat) : gi (kD C w p z x y) k i j = if k = 6 ∧ i = w ∧ j = 2 then nI z else if k = 16 ∧ i = w ∧ j = z - 1 then y else if k = 15 ∧ i = w ∧ j = z - 1 then x else if (k = 15 ∨ k = 16) ∧ i = w ∧ p ≤ j ∧ j < z - 1 then gi C k w (j + 1) else gi C k i j := by
  unfold kD drpM
  rw [gi_si, gi_si, gi_si, gi_si]
  by_cases h1 : k = 6 ∧ i = w ∧ j = 2
  · rw [if_pos h1, if_pos h1]
  · rw [if_neg h1, if_neg h1, if_neg h1]; rfl
theorem sim_kD {C : mM} {r : rR} {B : Nat} (h : Rq T C r B) {w : Nat} (hw : w < gn C 7) {p : Nat} (hp : p < csz C w) (x y : Int32) : Rq T (kD C w p (csz C w) x y) (kend (shk (ru r 28 (w + 1) (nI (csz C w - 1))) (4 * (w + 1)) p (csz C w - 1)) w (csz C w - 1) x y) B := by
  have hN := w_nwl h.w
  obtain ⟨hz4, hz⟩ := csz_n h hw
  have hcw := fun k => h.ca w hw k
  generalize hzz : csz C w = z at *
  have e1 : z - 1 + 1 = z := by omega
  refine sim_ca h ?_ ?_ (fun i hi => ?_) (fun i hi k hk => ?_)
  · refine Prod.ext ?_ rfl
    funext a b c
    show gi (kD C w p z x y) a b c = if _ then _ else _
    by_cases ha : a = 6 ∨ a = 15 ∨ a = 16
    · rw [if_pos ha]; rfl
    · rw [if_neg ha, kD_gi, if_neg (by omega), if_neg (by omega), if_neg (by omega), if_neg (by omega)]; rfl
  · funext a b
    show _ = if _ then _ else _
    by_cases ha : a = 28 ∨ a = 29 ∨ a = 30
    · rw [if_pos ha]
    · rw [if_neg ha]
      unfold kend
      rw [ru_n _ _ (by omega), ru_n _ _ (by omega), ru_n _ _ (by omega)]
      unfold shk
      rw [if_neg (by omega), ru_n _ _ (by omega)]
  · obtain ⟨hi4, hi2⟩ := csz_n h hi
    have e6 : gi (kD C w p z x y) 6 i 2 = if i = w then nI z else gi C 6 i 2 := by
      rw [kD_gi]
      by_cases hiw : i = w
      · rw [if_pos ⟨rfl, hiw, rfl⟩, if_pos hiw]
      · rw [if_neg (fun z => hiw z.2.1), if_neg (by omega), if_neg (by omega), if_neg (by omega), if_neg hiw]
    have e28 : kend (shk (ru r 28 (w + 1) (nI (z - 1))) (4 * (w + 1)) p (z - 1)) w (z - 1) x y 28 (i + 1) = if i = w then nI z else r 28 (i + 1) := by
      unfold kend
      by_cases hiw : i = w
      · subst hiw; rw [ru_s, if_pos rfl, e1]
      · rw [ru_n _ _ (by omega), ru_n _ _ (by omega), ru_n _ _ (by omega), if_neg hiw]
        unfold shk
        rw [if_neg (by omega), ru_n _ _ (by omega)]
    rw [e6, e28]
    by_cases hiw : i = w
    · rw [if_pos hiw, if_pos hiw]; exact ⟨rfl, z, hz4, rfl⟩
    · rw [if_neg hiw, if_neg hiw]; exact ⟨(h.wk i hi).2.2.2.2.1, h.o.2.2.2.1 i hi⟩
  · have ecs : csz (kD C w p z x y) i = if i = w then z else csz C i := by
      unfold csz
      rw [kD_gi]
      by_cases hiw : i = w
      · rw [if_pos ⟨rfl, hiw, rfl⟩, if_pos hiw]; exact nI_clamp (by omega)
      · rw [if_neg (fun z => hiw z.2.1), if_neg (by omega), if_neg (by omega), if_neg (by omega), if_neg hiw]
    rw [ecs] at hk
    have hk4 : k < 4 := by
      by_cases hiw : i = w
      · rw [if_pos hiw] at hk; omega
      · rw [if_neg hiw] at hk; have := (csz_n h hi).1; omega
    have key : ∀ a, a = 29 ∨ a = 30 → kend (shk (ru r 28 (w + 1) (nI (z - 1))) (4 * (w + 1)) p (z - 1)) w (z - 1) x y a (4 * (i + 1) + k) = if i = w ∧ k = z - 1 then (if a = 29 then x else y) else if i = w ∧ p ≤ k ∧ k < z - 1 then r a (4 * (w + 1) + (k + 1)) else r a (4 * (i + 1) + k) := by
      intro a ha
      unfold kend ru shk
      by_cases hc : i = w ∧ k = z - 1
      · rw [if_pos hc]
        obtain ⟨rfl, rfl⟩ := hc
        rcases ha with rfl | rfl <;> simp
      · rw [if_neg hc, if_neg (by omega), if_neg (by omega), if_neg (by omega)]
        by_cases hd : i = w ∧ p ≤ k ∧ k < z - 1
        · rw [if_pos hd, if_pos ⟨ha, by omega, by omega⟩]
          dsimp only
          rw [if_neg (by omega)]
          obtain ⟨rfl, -⟩ := hd; rfl
        · rw [if_neg hd, if_neg (by omega)]
          dsimp only
          rw [if_neg (by omega)]
    have k29 := key 29 (by omega)
    have k30 := key 30 (by omega)
    have g15 := kD_gi C w p z x y 15 i k
    have g16 := kD_gi C w p z x y 16 i k
    by_cases hc : i = w ∧ k = z - 1
    · rw [if_pos hc] at k29 k30
      rw [if_neg (by omega), if_neg (by omega), if_pos ⟨rfl, hc⟩] at g15
      rw [if_neg (by omega), if_pos ⟨rfl, hc⟩] at g16
      rw [k29, k30, g15, g16]; exact ⟨rfl, rfl⟩
    · by_cases hd : i = w ∧ p ≤ k ∧ k < z - 1
      · rw [if_neg hc, if_pos hd] at k29 k30
        rw [if_neg (by omega), if_neg (by omega), if_neg (by omega), if_pos ⟨by omega, hd⟩] at g15 g16
        rw [k29, k30, g15, g16]
        exact hcw (k + 1) (by omega)
      · rw [if_neg hc, if_neg hd] at k29 k30
        rw [if_neg (by omega), if_neg (by omega), if_neg (by omega), if_neg (fun z => hd z.2)] at g15 g16
        rw [k29, k30, g15, g16]
        refine h.ca i hi k ?_
        by_cases hiw : i = w
        · rw [if_pos hiw] at hk; rw [hiw, hzz]; exact hk
        · rw [if_neg hiw] at hk; exact hk
def kA (C : mM) (w z : Nat) (x y : Int32) : mM := si (si (si C 15 w z x) 16 w z y) 6 w 2 (nI (z + 1))
theorem kA_gi (C : mM) (w z : Nat) (x y : Int32) (k i j : Nat) : gi (kA C w z x y) k i j = if k = 6 ∧ i = w ∧ j = 2 then nI (z + 1) else if k = 16 ∧ i = w ∧ j = z then y else if k = 15 ∧ i = w ∧ j = z then x else gi C k i j := by
  unfold kA
  rw [gi_si, gi_si, gi_si]
theorem sim_kA {C : mM} {r : rR} {B : Nat} (h : Rq T C r B) {w : Nat} (hw : w < gn C 7) (hz3 : csz C w < 4) (x y : Int32) : Rq T (kA C w (csz C w) x y) (kend r w (csz C w) x y) B := by
  have hN := w_nwl h.w
  obtain ⟨hz4, hz⟩ := csz_n h hw
  generalize hzz : csz C w = z at *
  refine sim_ca h ?_ ?_ (fun i hi => ?_) (fun i hi k hk => ?_)
  · refine Prod.ext ?_ rfl
    funext a b c
    show gi (kA C w z x y) a b c = if _ then _ else _
    by_cases ha : a = 6 ∨ a = 15 ∨ a = 16
    · rw [if_pos ha]; rfl
    · rw [if_neg ha, kA_gi, if_neg (by omega), if_neg (by omega), if_neg (by omega)]; rfl
  · funext a b
    show _ = if _ then _ else _
    by_cases ha : a = 28 ∨ a = 29 ∨ a = 30
    · rw [if_pos ha]
    · rw [if_neg ha]
      unfold kend
      rw [ru_n _ _ (by omega), ru_n _ _ (by omega), ru_n _ _ (by omega)]
  · have e6 : gi (kA C w z x y) 6 i 2 = if i = w then nI (z + 1) else gi C 6 i 2 := by
      rw [kA_gi]
      by_cases hiw : i = w
      · rw [if_pos ⟨rfl, hiw, rfl⟩, if_pos hiw]
      · rw [if_neg (fun z => hiw z.2.1), if_neg (by omega), if_neg (by omega), if_neg hiw]
    have e28 : kend r w z x y 28 (i + 1) = if i = w then nI (z + 1) else r 28 (i + 1) := by
      unfold kend
      by_cases hiw : i = w
      · subst hiw; rw [ru_s, if_pos rfl]
      · rw [ru_n _ _ (by omega), ru_n _ _ (by omega), ru_n _ _ (by omega), if_neg hiw]
    rw [e6, e28]
    by_cases hiw : i = w
    · rw [if_pos hiw, if_pos hiw]; exact ⟨rfl, z + 1, by omega, rfl⟩
    · rw [if_neg hiw, if_neg hiw]; exact ⟨(h.wk i hi).2.2.2.2.1, h.o.2.2.2.1 i hi⟩
  · have ecs : csz (kA C w z x y) i = if i = w then z + 1 else csz C i := by
      unfold csz
      rw [kA_gi]
      by_cases hiw : i = w
      · rw [if_pos ⟨rfl, hiw, rfl⟩, if_pos hiw]; exact nI_clamp (by omega)
      · rw [if_neg (fun z => hiw z.2.1), if_neg (by omega), if_neg (by omega), if_neg hiw]
    rw [ecs] at hk
    have hk4 : k < 4 := by
      by_cases hiw : i = w
      · rw [if_pos hiw] at hk; omega
      · rw [if_neg hiw] at hk; have := (csz_n h hi).1; omega
    rw [kA_gi, kA_gi]
    unfold kend ru
    by_cases hc : i = w ∧ k = z
    · obtain ⟨rfl, rfl⟩ := hc; simp
    · rw [if_neg (by omega), if_neg (by omega), if_neg (by omega), if_neg (by omega), if_neg (by omega), if_neg (by omega), if_neg (by omega), if_neg (by omega), if_neg (by omega), if_neg (by omega), if_neg (by omega), if_neg (by omega)]
      refine h.ca i hi k ?_
      by_cases hiw : i = w
      · rw [if_pos hiw] at hk; rw [hiw, hzz]; omega
      · rw [if_neg hiw] at hk; exact hk
theorem sim_keep {C : mM} {r : rR} {B : Nat} (h : Rq T C r B) {w : Nat} (hw : w < gn C 7) (x y : Int32) : m_keep_ok r (nI (w + 1)) x y ∧ Rq T (kepM C w x y (csz C w)) (m_keep r (nI (w + 1)) x y) B := by
  have hN := w_nwl h.w
  obtain ⟨oC, eC⟩ := sim_cached h hw x
  obtain ⟨hz4, hz⟩ := csz_n h hw
  have ew : (nI (w + 1)).toNatClampNeg = w + 1 := nI_clamp (by omega)
  have hx := ixk_n (n := w + 1) (N := 41) (by omega) (by omega)
  have hD := fun p hp => sim_kD h hw (p := p) hp x y
  have hA := fun hz3 => sim_kA h hw hz3 x y
  unfold m_keep_ok m_keep
  rw [ew, hz, eC]
  cases hc : chP C w x with
  | some p =>
    have hpz := ff_lt hc
    have hp : p < csz C w := by omega
    have c0 : 0 ≤ oI (some p) := nI_pos' (by omega)
    have c1 : ¬ oI (some p) < 0 := nI_pos (by omega)
    have em : nI (csz C w) - 1 = nI (csz C w - 1) := pk_sub (a := csz C w) (b := 1) (by omega)
    obtain ⟨o1, e1⟩ := keep_at (r := ru r 28 (w + 1) (nI (csz C w - 1))) (w := w) (p := p) (z := csz C w - 1) (by omega) (ru_s _ _ _ _) (by omega) x y (nI p) 5 p (Nat.le_refl _) (by omega) (by omega)
    rw [shk_0] at o1 e1
    have e1 : m_keep_L45 5 (ru r 28 (w + 1) (nI (csz C w - 1))) (nI (w + 1)) x y (oI (some p)) (oI (some p)) = _ := e1
    rw [if_pos c0, if_neg c1, em, e1]
    refine ⟨⟨oC, fun _ => ⟨fun z => absurd z c1, fun _ => ⟨hx, o1⟩⟩, fun z => absurd c0 z⟩, ?_⟩
    have ek : kepM C w x y (csz C w) = kD C w p (csz C w) x y := by
      unfold kepM
      have : plc C w x (csz C w) = p := by unfold plc; rw [show ff (fun i => decide (gi C 15 w i = x)) (csz C w) 0 = some p from hc]; rfl
      rw [this, if_pos hp]; rfl
    rw [ek]; exact hD p hp
  | none =>
    have c0 : ¬ 0 ≤ oI none := by show ¬ (0 : Int32) ≤ -1; decide
    have c1 : oI none < 0 := by show (-1 : Int32) < 0; decide
    have epl : plc C w x (csz C w) = csz C w := by unfold plc; rw [show ff (fun i => decide (gi C 15 w i = x)) (csz C w) 0 = none from hc]; rfl
    have h4 : nI (csz C w) = 4 ↔ csz C w = 4 := nI_eq (b := 4) (by omega) (by omega)
    rw [if_neg c0]
    by_cases c4 : csz C w = 4
    · rw [if_pos (h4.mpr c4)]
      have em : nI (csz C w) - 1 = nI (csz C w - 1) := pk_sub (a := csz C w) (b := 1) (by omega)
      obtain ⟨o1, e1⟩ := keep_at (r := ru r 28 (w + 1) (nI (csz C w - 1))) (w := w) (p := 0) (z := csz C w - 1) (by omega) (ru_s _ _ _ _) (by omega) x y 0 5 0 (Nat.le_refl _) (by omega) (by omega)
      rw [shk_0] at o1 e1
      have e1 : m_keep_L45 5 (ru r 28 (w + 1) (nI (csz C w - 1))) (nI (w + 1)) x y 0 0 = _ := e1
      rw [em, e1]
      refine ⟨⟨oC, fun z => absurd z c0, fun _ => ⟨hx, fun _ => o1, fun z => absurd (h4.mpr c4) z⟩⟩, ?_⟩
      have ek : kepM C w x y (csz C w) = kD C w 0 (csz C w) x y := by
        unfold kepM
        rw [epl, if_neg (by omega), if_pos c4, c4]; rfl
      rw [ek]; exact hD 0 (by omega)
    · have n4 : ¬ nI (csz C w) = 4 := fun z => c4 (h4.mp z)
      have ei : (nI (4 * (w + 1) + csz C w)).toNatClampNeg = 4 * (w + 1) + csz C w := nI_clamp (by omega)
      rw [if_neg n4, if_pos c1, ix4, ei, nI_1]
      refine ⟨⟨oC, fun z => absurd z c0, fun _ => ⟨hx, fun z => absurd z n4, fun _ => ⟨fun _ => ixk_n (by omega) (by omega), fun z => absurd c1 z⟩⟩⟩, ?_⟩
      have ek : kepM C w x y (csz C w) = kA C w (csz C w) x y := by
        unfold kepM
        rw [epl, if_neg (by omega), if_neg c4]; rfl
      rw [ek]; exact hA (by omega)
end SIM16
