section SIM9
variable {T : Int32}
theorem n27 : (27 : Int32) = nI 27 := rfl
theorem isP_n {x : Int32} (h : isP x = true) : ∃ a, a < 531441 ∧ x = nI a := by
  unfold isP at h
  by_cases hx : x < 0 ∨ 531440 < x
  · rw [if_pos hx] at h; cases h
  · have h1 : ¬ x < 0 := fun z => hx (Or.inl z)
    have h2 : ¬ (531440 : Int32) < x := fun z => hx (Or.inr z)
    rcases pk_ix x (n := 531441) (by omega) with z | z | ⟨a, ha, e⟩
    · exact absurd z h1
    · exact absurd (Int32.lt_of_lt_of_le (show (531440 : Int32) < nI 531441 by decide) z) h2
    · exact ⟨a, ha, e⟩
theorem div27 {m : Nat} (h : m < 2 ^ 31) : nI m / 27 = nI (m / 27) := by rw [n27]; exact pk_div h (by omega) (by omega)
theorem rem27 {m : Nat} (h : m < 2 ^ 31) : nI m - nI m / 27 * 27 = nI (m % 27) := by rw [n27]; exact pk_rem h (by omega) (by omega)
theorem nI_eq0 {m : Nat} (h : m < 2 ^ 31) : nI m = 0 ↔ m = 0 := nI_eq (b := 0) h (by omega)
theorem nI_le0 {m : Nat} (h : m < 2 ^ 31) : nI m ≤ 0 ↔ m = 0 := by
  rw [show (0 : Int32) = nI 0 from rfl, nI_leI h (by omega)]; omega
theorem isPath_at (v0 : Int32) : ∀ k n m, k < n → m < 27 ^ k → m < 2 ^ 31 → m_isPath_L14_ok n v0 (nI m) ∧ m_isPath_L14 n v0 (nI m) = (if ptL k (nI m) = true then 1 else 0) := by
  intro k
  induction k with
  | zero =>
    intro n m hn hm _
    obtain ⟨n, rfl⟩ : ∃ q, n = q + 1 := ⟨n - 1, by omega⟩
    have : m = 0 := by simpa using hm
    subst this
    unfold m_isPath_L14_ok m_isPath_L14
    rw [if_pos (by decide)]
    exact ⟨⟨fun _ => trivial, fun z => absurd (by decide) z⟩, rfl⟩
  | succ k ih =>
    intro n m hn hm h31
    obtain ⟨n, rfl⟩ : ∃ q, n = q + 1 := ⟨n - 1, by omega⟩
    unfold m_isPath_L14_ok m_isPath_L14
    have e : ptL (k + 1) (nI m) = if 0 < nI m then (if nI m - nI m / 27 * 27 = 0 then false else ptL k (nI m / 27)) else true := rfl
    rw [e]
    by_cases h0 : m = 0
    · have hz := (nI_le0 h31).mpr h0
      rw [if_pos hz, if_neg (Int32.not_lt.mpr hz)]
      exact ⟨⟨fun _ => trivial, fun z => absurd hz z⟩, rfl⟩
    · have hz : ¬ nI m ≤ 0 := fun z => h0 ((nI_le0 h31).mp z)
      rw [if_neg hz, if_pos (Int32.not_le.mp hz)]
      by_cases hr : nI m - nI m / 27 * 27 = 0
      · rw [if_pos hr, if_pos hr]
        exact ⟨⟨fun z => absurd z hz, fun _ => ⟨fun _ => trivial, fun z => absurd hr z⟩⟩, rfl⟩
      · rw [if_neg hr, if_neg hr]
        rw [div27 h31] at hr ⊢
        have hm2 : m / 27 < 27 ^ k := by rw [Nat.pow_succ] at hm; exact Nat.div_lt_of_lt_mul (by omega)
        have := ih n (m / 27) (by omega) hm2 (by omega)
        exact ⟨⟨fun z => absurd z hz, fun _ => ⟨fun z => absurd z hr, fun _ => this.1⟩⟩, this.2⟩
theorem in_0 (a b c : Int32) : m_in a b c = 0 ↔ ¬ (b ≤ a ∧ a ≤ c) := by
  unfold m_in
  by_cases h1 : a < b
  · rw [if_pos h1]; exact ⟨fun _ z => absurd h1 (Int32.not_lt.mpr z.1), fun _ => rfl⟩
  · rw [if_neg h1]
    by_cases h2 : c < a
    · rw [if_pos h2]; exact ⟨fun _ z => absurd h2 (Int32.not_lt.mpr z.2), fun _ => rfl⟩
    · rw [if_neg h2]; exact ⟨fun z => absurd z (by decide), fun z => absurd ⟨Int32.not_lt.mp h1, Int32.not_lt.mp h2⟩ z⟩
theorem sim_isPath (x : Int32) : m_isPath_ok x ∧ (m_isPath x = 0 ↔ isP x = false) := by
  unfold m_isPath_ok m_isPath
  by_cases h : m_in x 0 531440 = 0
  · rw [if_pos h]
    refine ⟨⟨fun _ => trivial, fun z => absurd h z⟩, fun _ => ?_, fun _ => rfl⟩
    cases hP : isP x with
    | false => rfl
    | true =>
      obtain ⟨a, ha, e⟩ := isP_n hP
      refine absurd ⟨?_, ?_⟩ ((in_0 x 0 531440).mp h)
      · rw [e]; exact nI_pos' (by omega)
      · rw [e]; exact nI_le (b := 531440) (by omega) (by omega)
  · rw [if_neg h]
    have h2 := Classical.not_not.mp (fun z => h ((in_0 x 0 531440).mpr z))
    obtain ⟨a, ha, e⟩ : ∃ a, a < 531441 ∧ x = nI a := by
      rcases pk_ix x (n := 531441) (by omega) with z | z | ⟨a, ha, e⟩
      · exact absurd h2.1 (Int32.not_le.mpr z)
      · exact absurd (Int32.le_trans z h2.2) (by decide)
      · exact ⟨a, ha, e⟩
    have hI : isP x = ptL 4 x := by
      unfold isP
      rw [if_neg]
      rintro (z | z)
      · exact absurd h2.1 (Int32.not_le.mpr z)
      · exact absurd h2.2 (Int32.not_le.mpr z)
    obtain ⟨o1, e1⟩ := isPath_at x 4 6 a (by omega) (by omega) (by omega)
    rw [hI, e]
    rw [e] at o1 e1 h
    refine ⟨⟨fun z => absurd z h, fun _ => o1⟩, ?_⟩
    rw [e1]
    cases ptL 4 (nI a) <;> simp
/-- the least power of 27 above -/
def wd : Nat → Nat → Nat
  | 0, _ => 1
  | k + 1, a => if a = 0 then 1 else 27 * wd k (a / 27)
theorem wd_s (k a : Nat) : wd (k + 1) a = if a = 0 then 1 else 27 * wd k (a / 27) := rfl
theorem wd_pos : ∀ k a, 0 < wd k a := by
  intro k
  induction k with
  | zero => intro a; exact Nat.one_pos
  | succ k ih =>
    intro a
    rw [wd_s]
    split
    · exact Nat.one_pos
    · have := ih (a / 27); omega
theorem wd_mono : ∀ k a b, a ≤ b → wd k a ≤ wd k b := by
  intro k
  induction k with
  | zero => intro a b _; exact Nat.le_refl _
  | succ k ih =>
    intro a b h
    rw [wd_s, wd_s]
    by_cases ha : a = 0
    · rw [if_pos ha]
      split
      · exact Nat.le_refl _
      · have := wd_pos k (b / 27); omega
    · rw [if_neg ha, if_neg (by omega)]
      have := ih (a / 27) (b / 27) (Nat.div_le_div_right h); omega
theorem wd_le : ∀ k a, wd k a ≤ 27 ^ k := by
  intro k
  induction k with
  | zero => intro a; exact Nat.le_refl _
  | succ k ih =>
    intro a
    rw [wd_s, Nat.pow_succ]
    split
    · have := Nat.pow_pos (n := k) (show 0 < 27 by omega); omega
    · have := ih (a / 27); omega
theorem weight_at {a : Nat} (ha : a < 531441) : ∀ k j n, k < n → j + k ≤ 4 → a / 27 ^ j < 27 ^ k → m_weight_L2_ok n (nI a) (nI (27 ^ j)) ∧ m_weight_L2 n (nI a) (nI (27 ^ j)) = nI (27 ^ j * wd k (a / 27 ^ j)) := by
  intro k
  induction k with
  | zero =>
    intro j n hn hj h
    obtain ⟨n, rfl⟩ : ∃ q, n = q + 1 := ⟨n - 1, by omega⟩
    have hpj : 27 ^ j ≤ 27 ^ 4 := Nat.pow_le_pow_right (by omega) (by omega)
    have hp0 : 0 < 27 ^ j := Nat.pow_pos (by omega)
    have hlt : a < 27 ^ j := by
      have h : a / 27 ^ j = 0 := by simpa using h
      exact (Nat.div_eq_zero_iff_lt hp0).mp h
    have hc : nI a < nI (27 ^ j) := nI_lt hlt (by omega)
    unfold m_weight_L2_ok m_weight_L2
    rw [if_pos hc]
    exact ⟨⟨fun _ => trivial, fun z => absurd hc z⟩, by show _ = nI (27 ^ j * 1); rw [Nat.mul_one]⟩
  | succ k ih =>
    intro j n hn hj h
    obtain ⟨n, rfl⟩ : ∃ q, n = q + 1 := ⟨n - 1, by omega⟩
    have hpj : 27 ^ j ≤ 27 ^ 4 := Nat.pow_le_pow_right (by omega) (by omega)
    have hp0 : 0 < 27 ^ j := Nat.pow_pos (by omega)
    unfold m_weight_L2_ok m_weight_L2
    by_cases hlt : a < 27 ^ j
    · have hc : nI a < nI (27 ^ j) := nI_lt hlt (by omega)
      have hz : a / 27 ^ j = 0 := (Nat.div_eq_zero_iff_lt hp0).mpr hlt
      rw [if_pos hc, hz]
      exact ⟨⟨fun _ => trivial, fun z => absurd hc z⟩, by show _ = nI (27 ^ j * (if 0 = 0 then 1 else _)); rw [if_pos rfl, Nat.mul_one]⟩
    · have hc : ¬ nI a < nI (27 ^ j) := nI_nlt (by omega) (by omega)
      have hz : ¬ a / 27 ^ j = 0 := fun z => hlt ((Nat.div_eq_zero_iff_lt hp0).mp z)
      have e1 : nI (27 ^ j) * 27 = nI (27 ^ (j + 1)) := by rw [n27, pk_mul, ← Nat.pow_succ]
      rw [if_neg hc, e1]
      have e2 : a / 27 ^ (j + 1) = a / 27 ^ j / 27 := by rw [Nat.pow_succ, Nat.div_div_eq_div_mul]
      have hm2 : a / 27 ^ (j + 1) < 27 ^ k := by rw [e2]; rw [Nat.pow_succ] at h; exact Nat.div_lt_of_lt_mul (by omega)
      have := ih (j + 1) n (by omega) (by omega) hm2
      refine ⟨⟨fun z => absurd z hc, fun _ => this.1⟩, this.2.trans ?_⟩
      show _ = nI (27 ^ j * (if _ then _ else _))
      rw [if_neg hz, ← e2, Nat.pow_succ, Nat.mul_assoc]
theorem sim_weight {a : Nat} (ha : a < 531441) : m_weight_ok (nI a) ∧ m_weight (nI a) = nI (wd 4 a) := by
  have := weight_at ha 4 0 6 (by omega) (by omega) (by simpa using ha)
  simp at this
  exact this
theorem bg_at : ∀ k a b, a < 27 ^ k → a < 2 ^ 31 → b < 2 ^ 31 → (bgL k (nI a) (nI b) = true ↔ b % wd k a = a) := by
  intro k
  induction k with
  | zero =>
    intro a b ha _ _
    have : a = 0 := by simpa using ha
    subst this
    exact ⟨fun _ => Nat.mod_one b, fun _ => rfl⟩
  | succ k ih =>
    intro a b ha h1 h2
    rw [wd_s]
    show ((if _ then _ else _) = true) ↔ _
    by_cases h0 : a = 0
    · rw [if_neg (Int32.not_lt.mpr ((nI_le0 h1).mpr h0)), if_pos h0, h0]
      exact ⟨fun _ => Nat.mod_one b, fun _ => rfl⟩
    · rw [if_pos (Int32.not_le.mp (fun z => h0 ((nI_le0 h1).mp z))), if_neg h0, rem27 h1, rem27 h2, div27 h1, div27 h2, Nat.mod_mul]
      have hq : nI (a % 27) = nI (b % 27) ↔ a % 27 = b % 27 := nI_eq (by omega) (by omega)
      have ha2 : a / 27 < 27 ^ k := by rw [Nat.pow_succ] at ha; exact Nat.div_lt_of_lt_mul (by omega)
      have := ih (a / 27) (b / 27) ha2 (by omega) (by omega)
      by_cases hr : a % 27 = b % 27
      · rw [if_pos (hq.mpr hr), this]; omega
      · rw [if_neg (fun z => hr (hq.mp z))]; constructor
        · intro z; cases z
        · intro z; omega
theorem sim_begins {x y : Int32} (hx : isP x = true) (hy : isP y = true) : m_begins_ok x y ∧ (m_begins x y = 0 ↔ bgs x y = false) := by
  obtain ⟨a, ha, rfl⟩ := isP_n hx
  obtain ⟨b, hb, rfl⟩ := isP_n hy
  obtain ⟨o, e⟩ := sim_weight ha
  have hp := wd_pos 4 a
  have hl := wd_le 4 a
  unfold m_begins_ok m_begins
  rw [e, pk_rem (by omega) hp (by omega)]
  have key := bg_at 4 a b (by omega) (by omega) (by omega)
  refine ⟨⟨o, nI_ne0 hp (by omega)⟩, ?_⟩
  have hm : b % wd 4 a < 2 ^ 31 := Nat.lt_of_le_of_lt (Nat.mod_le _ _) (by omega)
  show _ ↔ bgL 4 (nI a) (nI b) = false
  by_cases hc : b % wd 4 a = a
  · rw [if_pos (by rw [hc]), key.mpr hc]; simp
  · rw [if_neg (fun z => hc ((nI_eq hm (by omega)).mp z))]
    refine ⟨fun _ => ?_, fun _ => rfl⟩
    cases hb2 : bgL 4 (nI a) (nI b) with
    | false => rfl
    | true => exact absurd (key.mp hb2) hc
theorem weight_cmp {x y p : Int32} (hx : isP x = true) (hy : isP y = true) (hp : isP p = true) (bx : bgs x p = true) (by' : bgs y p = true) : (m_weight x ≤ m_weight y) ↔ ¬ y < x := by
  obtain ⟨a, ha, rfl⟩ := isP_n hx
  obtain ⟨b, hb, rfl⟩ := isP_n hy
  obtain ⟨c, hc, rfl⟩ := isP_n hp
  have k1 := (bg_at 4 a c (by omega) (by omega) (by omega)).mp bx
  have k2 := (bg_at 4 b c (by omega) (by omega) (by omega)).mp by'
  have l1 := wd_le 4 a
  have l2 := wd_le 4 b
  rw [(sim_weight ha).2, (sim_weight hb).2, nI_leI (by omega) (by omega), nI_ltI (by omega) (by omega)]
  constructor
  · intro h z
    have m := wd_mono 4 b a (by omega)
    have e : wd 4 a = wd 4 b := Nat.le_antisymm h m
    rw [e] at k1; omega
  · intro z; exact wd_mono 4 a b (by omega)
end SIM9
