/-! loops, and the class's memory in good order -/
theorem w_up {G : JFrame → Prop} (N : Nat) (F : Array Slot → JFrame) (Inv : Nat → Array Slot → Prop) (hz : ∀ ls, Inv N ls → G (F ls)) (hs : ∀ i, i < N → (∀ ls, Inv (i + 1) ls → G (F ls)) → ∀ ls, Inv i ls → G (F ls)) : ∀ i ls, i ≤ N → Inv i ls → G (F ls) := by
  have key : ∀ n i ls, i + n = N → Inv i ls → G (F ls) := by
    intro n
    induction n with
    | zero =>
      intro i ls h hI
      have : i = N := by omega
      subst this
      exact hz ls hI
    | succ n ih =>
      intro i ls h hI
      exact hs i (by omega) (fun ls h2 => ih (i + 1) ls (by omega) h2) ls hI
  intro i ls h hI
  exact key (N - i) i ls (by omega) hI
/-- .. where the heap changes too -/
theorem w_upH {G : Heap → List Loc → JFrame → Prop} (N : Nat) (F : Array Slot → JFrame) (Inv : Nat → Heap → List Loc → Array Slot → Prop) (hz : ∀ H L ls, Inv N H L ls → G H L (F ls)) (hs : ∀ i, i < N → (∀ H L ls, Inv (i + 1) H L ls → G H L (F ls)) → ∀ H L ls, Inv i H L ls → G H L (F ls)) : ∀ i H L ls, i ≤ N → Inv i H L ls → G H L (F ls) := by
  have key : ∀ n i H L ls, i + n = N → Inv i H L ls → G H L (F ls) := by
    intro n
    induction n with
    | zero =>
      intro i H L ls h hI
      have : i = N := by omega
      subst this
      exact hz H L ls hI
    | succ n ih =>
      intro i H L ls h hI
      exact hs i (by omega) (fun H L ls h2 => ih (i + 1) H L ls (by omega) h2) H L ls hI
  intro i H L ls h hI
  exact key (N - i) i H L ls (by omega) hI
theorem w_down {G : JFrame → Prop} (F : Array Slot → JFrame) (Inv : Nat → Array Slot → Prop) (hz : ∀ ls, Inv 0 ls → G (F ls)) (hs : ∀ i, (∀ ls, Inv i ls → G (F ls)) → ∀ ls, Inv (i + 1) ls → G (F ls)) : ∀ i ls, Inv i ls → G (F ls) := by
  intro i
  induction i with
  | zero => exact hz
  | succ n ih => exact hs n ih
/-- the first place from i on, among n, of which p -/
def ff (p : Nat → Bool) : Nat → Nat → Option Nat
  | 0, _ => none
  | n + 1, i => if p i = true then some i else ff p n (i + 1)
/-- the last place below n of which p -/
def fl (p : Nat → Bool) : Nat → Option Nat
  | 0 => none
  | n + 1 => if p n = true then some n else fl p n
/-- how many places below n of which p -/
def cn (p : Nat → Bool) : Nat → Nat
  | 0 => 0
  | n + 1 => cn p n + (if p n = true then 1 else 0)
theorem cn_le (p : Nat → Bool) (n : Nat) : cn p n ≤ n := by
  induction n with
  | zero => exact Nat.le_refl _
  | succ n ih =>
    show cn p n + _ ≤ n + 1
    by_cases h : p n = true
    · rw [if_pos h]; omega
    · rw [if_neg h]; omega
theorem ff_t {p : Nat → Bool} {n i : Nat} (h : p i = true) : ff p (n + 1) i = some i := if_pos h
theorem ff_f {p : Nat → Bool} {n i : Nat} (h : ¬ p i = true) : ff p (n + 1) i = ff p n (i + 1) := if_neg h
/-- ints of a memory that count: workers, registrations, jobs -/
def nRg (M : mM) : Nat := (gi M 0 0 6).toNatClampNeg
/-- the i-th registration's number -/
def rgx (M : mM) (i : Nat) : Nat := (gr M 10 0 i).getD 0
def wK (M : mM) : Prop :=
  (0 < gn M 0 ∧ gr M 0 0 0 = some 0 ∧ gr M 0 0 3 = some 0 ∧ gr M 0 0 5 = some 0 ∧ gr M 0 0 7 = some 0 ∧ gr M 0 0 8 = some 0 ∧ gr M 0 0 9 = some 0 ∧ gr M 0 0 11 = some 0 ∧ gr M 3 0 0 = some 0) ∧
  (∀ i, i < 4 → gr M 8 0 i = some i) ∧ (∀ i, i < 8 → gr M 11 0 i = some i) ∧
  (gi M 0 0 4 = nI (gn M 7) ∧ gn M 7 ≤ 40 ∧ ∀ i, i < gn M 7 → gr M 9 0 i = some i ∧ gi M 7 i 0 = nI (i + 1) ∧ gr M 7 i 4 = some i ∧ gr M 6 i 0 = some i ∧ gr M 6 i 1 = some i) ∧
  (gi M 0 0 6 = nI (nRg M) ∧ nRg M ≤ 5 ∧ ∀ i, i < nRg M → gr M 10 0 i = some (rgx M i)) ∧
  (gi M 0 0 10 = nI (gn M 4) ∧ gn M 4 ≤ 60 ∧ ∀ i, i < gn M 4 → gr M 13 0 i = some i ∧ gi M 4 i 0 = nI i)
theorem w_k {M : mM} (h : wK M) : 0 < gn M 0 := h.1.1
theorem w_0_0 {M : mM} (h : wK M) : gr M 0 0 0 = some 0 := h.1.2.1
theorem w_0_3 {M : mM} (h : wK M) : gr M 0 0 3 = some 0 := h.1.2.2.1
theorem w_0_5 {M : mM} (h : wK M) : gr M 0 0 5 = some 0 := h.1.2.2.2.1
theorem w_0_7 {M : mM} (h : wK M) : gr M 0 0 7 = some 0 := h.1.2.2.2.2.1
theorem w_0_8 {M : mM} (h : wK M) : gr M 0 0 8 = some 0 := h.1.2.2.2.2.2.1
theorem w_0_9 {M : mM} (h : wK M) : gr M 0 0 9 = some 0 := h.1.2.2.2.2.2.2.1
theorem w_0_11 {M : mM} (h : wK M) : gr M 0 0 11 = some 0 := h.1.2.2.2.2.2.2.2.1
theorem w_3_0 {M : mM} (h : wK M) : gr M 3 0 0 = some 0 := h.1.2.2.2.2.2.2.2.2
theorem w_sc {M : mM} (h : wK M) {i : Nat} (hi : i < 4) : gr M 8 0 i = some i := h.2.1 i hi
theorem w_cl {M : mM} (h : wK M) {i : Nat} (hi : i < 8) : gr M 11 0 i = some i := h.2.2.1 i hi
theorem w_nw {M : mM} (h : wK M) : gi M 0 0 4 = nI (gn M 7) := h.2.2.2.1.1
theorem w_nwl {M : mM} (h : wK M) : gn M 7 ≤ 40 := h.2.2.2.1.2.1
theorem w_wk {M : mM} (h : wK M) {i : Nat} (hi : i < gn M 7) : gr M 9 0 i = some i := (h.2.2.2.1.2.2 i hi).1
theorem w_num {M : mM} (h : wK M) {i : Nat} (hi : i < gn M 7) : gi M 7 i 0 = nI (i + 1) := (h.2.2.2.1.2.2 i hi).2.1
theorem w_7_4 {M : mM} (h : wK M) {i : Nat} (hi : i < gn M 7) : gr M 7 i 4 = some i := (h.2.2.2.1.2.2 i hi).2.2.1
theorem w_6_0 {M : mM} (h : wK M) {i : Nat} (hi : i < gn M 7) : gr M 6 i 0 = some i := (h.2.2.2.1.2.2 i hi).2.2.2.1
theorem w_6_1 {M : mM} (h : wK M) {i : Nat} (hi : i < gn M 7) : gr M 6 i 1 = some i := (h.2.2.2.1.2.2 i hi).2.2.2.2
theorem w_nr {M : mM} (h : wK M) : gi M 0 0 6 = nI (nRg M) := h.2.2.2.2.1.1
theorem w_nrl {M : mM} (h : wK M) : nRg M ≤ 5 := h.2.2.2.2.1.2.1
theorem w_rg {M : mM} (h : wK M) {i : Nat} (hi : i < nRg M) : gr M 10 0 i = some (rgx M i) := h.2.2.2.2.1.2.2 i hi
theorem w_nj {M : mM} (h : wK M) : gi M 0 0 10 = nI (gn M 4) := h.2.2.2.2.2.1
theorem w_njl {M : mM} (h : wK M) : gn M 4 ≤ 60 := h.2.2.2.2.2.2.1
theorem w_jb {M : mM} (h : wK M) {i : Nat} (hi : i < gn M 4) : gr M 13 0 i = some i := (h.2.2.2.2.2.2.2 i hi).1
theorem w_jn {M : mM} (h : wK M) {i : Nat} (hi : i < gn M 4) : gi M 4 i 0 = nI i := (h.2.2.2.2.2.2.2 i hi).2
theorem w_upW {p : Program} {l : Launch} {e : Env} {R : Room} {s : State} {m : MethodId} {args : Array Value} {below : List Frame} {meth : Method} {c : Code} {cells slots : Nat} {Q : State → Prop} (N : Nat) (F : Array Slot → JFrame) (Inv : Nat → Heap → List Loc → Array Slot → Prop)
    (hz : ∀ H L ls, Inv N H L ls → W p l e R s m args below meth c H L cells slots Q (F ls)) (hs : ∀ i, i < N → (∀ H L ls, Inv (i + 1) H L ls → W p l e R s m args below meth c H L cells slots Q (F ls)) → ∀ H L ls, Inv i H L ls → W p l e R s m args below meth c H L cells slots Q (F ls)) :
    ∀ i H L ls, i ≤ N → Inv i H L ls → W p l e R s m args below meth c H L cells slots Q (F ls) := w_upH (G := fun H L g => W p l e R s m args below meth c H L cells slots Q g) N F Inv hz hs
theorem w_downW {p : Program} {l : Launch} {e : Env} {R : Room} {s : State} {m : MethodId} {args : Array Value} {below : List Frame} {meth : Method} {c : Code} {cells slots : Nat} {Q : State → Prop} (F : Array Slot → JFrame) (Inv : Nat → Heap → List Loc → Array Slot → Prop)
    (hz : ∀ H L ls, Inv 0 H L ls → W p l e R s m args below meth c H L cells slots Q (F ls)) (hs : ∀ i, (∀ H L ls, Inv i H L ls → W p l e R s m args below meth c H L cells slots Q (F ls)) → ∀ H L ls, Inv (i + 1) H L ls → W p l e R s m args below meth c H L cells slots Q (F ls)) :
    ∀ i H L ls, Inv i H L ls → W p l e R s m args below meth c H L cells slots Q (F ls) := by
  intro i
  induction i with
  | zero => exact hz
  | succ n ih => exact hs n ih
theorem sn_up {M : mM} {k a i : Nat} (h : i < gn M a) : i < gn (sn M k) a := by
  rw [gn_sn]
  by_cases ha : a = k
  · subst ha; rw [if_pos rfl]; omega
  · rw [if_neg ha]; exact h
theorem sn_live (M : mM) (k : Nat) : gn M k < gn (sn M k) k := by
  rw [gn_sn, if_pos rfl]; omega
theorem mExt_new {M : mM} {ad ad' : Nat → Nat → Nat} {k : Nat} (h : ∀ a b, b < gn M a → ad' a b = ad a b) : mExt M ad (sn M k) ad' := ⟨h, fun a => by
  rw [gn_sn]
  by_cases ha : a = k
  · subst ha; rw [if_pos rfl]; omega
  · rw [if_neg ha]; exact Nat.le_refl _⟩
