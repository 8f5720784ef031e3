theorem b1 {c : Prop} [Decidable c] (h : c) : some (Value.int 1) = some (Value.int (if c then 1 else 0)) := by rw [if_pos h]
theorem b0 {c : Prop} [Decidable c] (h : ¬ c) : some (Value.int 0) = some (Value.int (if c then 1 else 0)) := by rw [if_neg h]
theorem rfv_nar (ad : Nat → Nat → Nat) (k : Nat) (r : Option Nat) (C : String) : narrow (.object C) (rfv ad k r) = rfv ad k r := by cases r <;> rfl
theorem rfv_fit (ad : Nat → Nat → Nat) (k : Nat) (r : Option Nat) (C : String) : fits (.object C) (rfv ad k r) = true := by cases r <;> rfl
abbrev mSame (M : mM) (ad : Nat → Nat → Nat) (r : Option Value) : Option Value → mM → (Nat → Nat → Nat) → Prop := fun rv M' ad' => rv = r ∧ M' = M ∧ ad' = ad
def ptL : Nat → Int32 → Bool
  | 0, _ => true
  | n + 1, r => if 0 < r then (if r - r / 27 * 27 = 0 then false else ptL n (r / 27)) else true
def isP (x : Int32) : Bool := if x < 0 ∨ 531440 < x then false else ptL 4 x
def bgL : Nat → Int32 → Int32 → Bool
  | 0, _, _ => true
  | n + 1, r, q => if 0 < r then (if r - r / 27 * 27 = q - q / 27 * 27 then bgL n (r / 27) (q / 27) else false) else true
def bgs (x y : Int32) : Bool := bgL 4 x y
set_option maxHeartbeats 4000000 in
set_option maxRecDepth 100000 in
theorem k_K_isWithin (l : Launch) (D : va_G) (dA : Nat → ClassId) (base : Nat) (M : mM) (ad : Nat → Nat → Nat) (a b n : Int32) : mMet l y_K_isWithin b_K_isWithin 3 (some FieldType.boolean) ({ frames := 0, cells := 0, slots := 0, locals := 0 } : Room) 0 0 D dA base M ad [.int a, .int b, .int n] (mSame M ad (some (.int (if b ≤ a ∧ a < b + n then 1 else 0)))) := by
  refine m_start (lvs := [(0, .int a), (1, .int b), (2, .int n)]) (by decide) (Nat.le_of_ble_eq_true rfl) rfl ?_
  intro p e s m below meth c ls X hr hlk hin hml hM hl
  refine lv_iload_n X.1 X.2.1 d_K_isWithin_0 rfl (lv_at hl 0 rfl) ?_
  refine lv_iload_n X.1 X.2.1 d_K_isWithin_1 rfl (lv_at hl 1 rfl) ?_
  refine lv_icmp_lt (tgt := 16) X.1 X.2.1 d_K_isWithin_2 (by decide) (fun hz1 => ?_) (fun hz1 => ?_)
  · skip
    refine lv_iconst (v := 0) X.1 X.2.1 d_K_isWithin_16 (by decide) ?_
    exact m_zret X hr hlk hM (by first | rfl | decide) d_K_isWithin_17 ⟨Nat.le_of_ble_eq_true rfl, Nat.le_of_ble_eq_true rfl⟩ (mExt_rf _ _) ⟨b0 (by simp only [Int32.lt_iff_toInt_lt, Int32.le_iff_toInt_le, ← Int32.toInt_inj] at hz1 ⊢; omega), rfl, rfl⟩
  · skip
    refine lv_iload_n X.1 X.2.1 d_K_isWithin_5 rfl (lv_at hl 0 rfl) ?_
    refine lv_iload_n X.1 X.2.1 d_K_isWithin_6 rfl (lv_at hl 1 rfl) ?_
    refine lv_iload_n X.1 X.2.1 d_K_isWithin_7 rfl (lv_at hl 2 rfl) ?_
    refine lv_iadd X.1 X.2.1 d_K_isWithin_8 ?_
    refine lv_icmp_ge (tgt := 16) X.1 X.2.1 d_K_isWithin_9 (by decide) (fun hz2 => ?_) (fun hz2 => ?_)
    · skip
      refine lv_iconst (v := 0) X.1 X.2.1 d_K_isWithin_16 (by decide) ?_
      exact m_zret X hr hlk hM (by first | rfl | decide) d_K_isWithin_17 ⟨Nat.le_of_ble_eq_true rfl, Nat.le_of_ble_eq_true rfl⟩ (mExt_rf _ _) ⟨b0 (by simp only [Int32.lt_iff_toInt_lt, Int32.le_iff_toInt_le, ← Int32.toInt_inj] at hz1 hz2 ⊢; omega), rfl, rfl⟩
    · skip
      refine lv_iconst (v := 1) X.1 X.2.1 d_K_isWithin_12 (by decide) ?_
      refine lv_goto (tgt := 17) X.1 X.2.1 d_K_isWithin_13 (by decide) ?_
      exact m_zret X hr hlk hM (by first | rfl | decide) d_K_isWithin_17 ⟨Nat.le_of_ble_eq_true rfl, Nat.le_of_ble_eq_true rfl⟩ (mExt_rf _ _) ⟨b1 (by simp only [Int32.lt_iff_toInt_lt, Int32.le_iff_toInt_le, ← Int32.toInt_inj] at hz1 hz2 ⊢; omega), rfl, rfl⟩
set_option maxHeartbeats 4000000 in
set_option maxRecDepth 100000 in
theorem k_K_isScript (l : Launch) (D : va_G) (dA : Nat → ClassId) (base : Nat) (M : mM) (ad : Nat → Nat → Nat) (a : Int32) : mMet l y_K_isScript b_K_isScript 1 (some FieldType.boolean) ({ frames := 0, cells := 0, slots := 0, locals := 0 } : Room) 0 0 D dA base M ad [.int a] (mSame M ad (some (.int (if 0 ≤ a ∧ a < 4 then 1 else 0)))) := by
  refine m_start (lvs := [(0, .int a)]) (by decide) (Nat.le_of_ble_eq_true rfl) rfl ?_
  intro p e s m below meth c ls X hr hlk hin hml hM hl
  refine lv_iload_n X.1 X.2.1 d_K_isScript_0 rfl (lv_at hl 0 rfl) ?_
  refine lv_if_lt (tgt := 13) X.1 X.2.1 d_K_isScript_1 (by decide) (fun hz1 => ?_) (fun hz1 => ?_)
  · skip
    refine lv_iconst (v := 0) X.1 X.2.1 d_K_isScript_13 (by decide) ?_
    exact m_zret X hr hlk hM (by first | rfl | decide) d_K_isScript_14 ⟨Nat.le_of_ble_eq_true rfl, Nat.le_of_ble_eq_true rfl⟩ (mExt_rf _ _) ⟨b0 (by simp only [Int32.lt_iff_toInt_lt, Int32.le_iff_toInt_le, ← Int32.toInt_inj] at hz1 ⊢; omega), rfl, rfl⟩
  · skip
    refine lv_iload_n X.1 X.2.1 d_K_isScript_4 rfl (lv_at hl 0 rfl) ?_
    refine lv_iconst (v := 4) X.1 X.2.1 d_K_isScript_5 (by decide) ?_
    refine lv_icmp_ge (tgt := 13) X.1 X.2.1 d_K_isScript_6 (by decide) (fun hz2 => ?_) (fun hz2 => ?_)
    · skip
      refine lv_iconst (v := 0) X.1 X.2.1 d_K_isScript_13 (by decide) ?_
      exact m_zret X hr hlk hM (by first | rfl | decide) d_K_isScript_14 ⟨Nat.le_of_ble_eq_true rfl, Nat.le_of_ble_eq_true rfl⟩ (mExt_rf _ _) ⟨b0 (by simp only [Int32.lt_iff_toInt_lt, Int32.le_iff_toInt_le, ← Int32.toInt_inj] at hz1 hz2 ⊢; omega), rfl, rfl⟩
    · skip
      refine lv_iconst (v := 1) X.1 X.2.1 d_K_isScript_9 (by decide) ?_
      refine lv_goto (tgt := 14) X.1 X.2.1 d_K_isScript_10 (by decide) ?_
      exact m_zret X hr hlk hM (by first | rfl | decide) d_K_isScript_14 ⟨Nat.le_of_ble_eq_true rfl, Nat.le_of_ble_eq_true rfl⟩ (mExt_rf _ _) ⟨b1 (by simp only [Int32.lt_iff_toInt_lt, Int32.le_iff_toInt_le, ← Int32.toInt_inj] at hz1 hz2 ⊢; omega), rfl, rfl⟩
set_option maxHeartbeats 4000000 in
set_option maxRecDepth 100000 in
theorem k_K_isPath (l : Launch) (D : va_G) (dA : Nat → ClassId) (base : Nat) (M : mM) (ad : Nat → Nat → Nat) (x : Int32) : mMet l y_K_isPath b_K_isPath 3 (some FieldType.boolean) ({ frames := 0, cells := 0, slots := 0, locals := 0 } : Room) 0 0 D dA base M ad [.int x] (mSame M ad (some (.int (if isP x = true then 1 else 0)))) := by
  refine m_start (lvs := [(0, .int x)]) (by decide) (Nat.le_of_ble_eq_true rfl) rfl ?_
  intro p e s m below meth c ls X hr hlk hin hml hM hl
  refine lv_iload_n X.1 X.2.1 d_K_isPath_0 rfl (lv_at hl 0 rfl) ?_
  refine lv_if_lt (tgt := 11) X.1 X.2.1 d_K_isPath_1 (by decide) (fun hz1 => ?_) (fun hz1 => ?_)
  · skip
    refine lv_iconst (v := 0) X.1 X.2.1 d_K_isPath_11 (by decide) ?_
    exact m_zret X hr hlk hM (by first | rfl | decide) d_K_isPath_12 ⟨Nat.le_of_ble_eq_true rfl, Nat.le_of_ble_eq_true rfl⟩ (mExt_rf _ _) ⟨b0 (by unfold isP; rw [if_pos (by first | exact Or.inl hz1 | exact Or.inr (Int32.not_le.mp hz1))]; decide), rfl, rfl⟩
  · skip
    refine lv_iload_n X.1 X.2.1 d_K_isPath_4 rfl (lv_at hl 0 rfl) ?_
    refine lv_ldcw X.1 X.2.1 X.2.2.1 (X.2.2.2.1 _ (gwm (lt1 154 rfl) rfl)) d_K_isPath_5 ?_
    refine lv_icmp_le (tgt := 13) X.1 X.2.1 d_K_isPath_8 (by decide) (fun hz2 => ?_) (fun hz2 => ?_)
    · skip
      refine lv_iload_n X.1 X.2.1 d_K_isPath_13 rfl (lv_at hl 0 rfl) ?_
      refine lv_istore_n (lv' := [(1, .int x), (0, .int x)]) X.1 X.2.1 d_K_isPath_14 rfl hl (by decide) rfl (fun ls hl => ?_)
      refine lv_iconst (v := 0) X.1 X.2.1 d_K_isPath_15 (by decide) ?_
      refine lv_istore_n (lv' := [(2, .int 0), (1, .int x), (0, .int x)]) X.1 X.2.1 d_K_isPath_16 rfl hl (by decide) rfl (fun ls hl => ?_)
      have hP0 : isP x = ptL 4 x := if_neg (by rintro (z | z); exact hz1 z; exact absurd z (Int32.not_lt.mpr hz2))
      rw [hP0]
      refine w_up 4 (fun ls => F0 m 17 ls []) (fun i ls => ∃ r, lv_has ls 3 [(2, .int (nI i)), (1, .int r), (0, .int x)] ∧ ptL (4 - i) r = ptL 4 x) ?_ ?_ 0 ls (by omega) ⟨x, lv_sub hl [0, 1, 2] rfl, rfl⟩
      · rintro ls ⟨r, hl, hI⟩
        refine lv_iload_n X.1 X.2.1 d_K_isPath_17 rfl (lv_at hl 0 rfl) ?_
        refine lv_iconst (v := 4) X.1 X.2.1 d_K_isPath_18 (by decide) ?_
        refine lv_icmp_ge (tgt := 46) X.1 X.2.1 d_K_isPath_19 (by decide) (fun hz1 => ?_) (fun hz1 => absurd (by decide) hz1)
        refine lv_iconst (v := 1) X.1 X.2.1 d_K_isPath_46 (by decide) ?_
        exact m_zret X hr hlk hM (by first | rfl | decide) d_K_isPath_47 ⟨Nat.le_of_ble_eq_true rfl, Nat.le_of_ble_eq_true rfl⟩ (mExt_rf _ _) ⟨b1 (hI.symm.trans rfl), rfl, rfl⟩
      · rintro i hi ih ls ⟨r, hl, hI⟩
        rw [show 4 - i = (4 - (i + 1)) + 1 by omega] at hI
        have hge := nI_ge hi (by decide)
        refine lv_iload_n X.1 X.2.1 d_K_isPath_17 rfl (lv_at hl 0 rfl) ?_
        refine lv_iconst (v := 4) X.1 X.2.1 d_K_isPath_18 (by decide) ?_
        refine lv_icmp_ge (tgt := 46) X.1 X.2.1 d_K_isPath_19 (by decide) (fun hz1 => absurd hz1 hge) (fun hz1 => ?_)
        refine lv_iload_n X.1 X.2.1 d_K_isPath_22 rfl (lv_at hl 1 rfl) ?_
        refine lv_if_le (tgt := 46) X.1 X.2.1 d_K_isPath_23 (by decide) (fun hr0 => ?_) (fun hr0 => ?_)
        · skip
          refine lv_iconst (v := 1) X.1 X.2.1 d_K_isPath_46 (by decide) ?_
          exact m_zret X hr hlk hM (by first | rfl | decide) d_K_isPath_47 ⟨Nat.le_of_ble_eq_true rfl, Nat.le_of_ble_eq_true rfl⟩ (mExt_rf _ _) ⟨b1 (by rw [← hI]; show ite _ _ _ = true; rw [if_neg (Int32.not_lt.mpr hr0)]), rfl, rfl⟩
        · skip
          refine lv_iload_n X.1 X.2.1 d_K_isPath_26 rfl (lv_at hl 1 rfl) ?_
          refine lv_bipush (v := 27) X.1 X.2.1 d_K_isPath_27 (by decide) ?_
          refine lv_irem X.1 X.2.1 d_K_isPath_29 (by decide) ?_
          refine lv_if_ne (tgt := 35) X.1 X.2.1 d_K_isPath_30 (by decide) (fun hq0 => ?_) (fun hq0 => ?_)
          · skip
            refine lv_iload_n X.1 X.2.1 d_K_isPath_35 rfl (lv_at hl 1 rfl) ?_
            refine lv_bipush (v := 27) X.1 X.2.1 d_K_isPath_36 (by decide) ?_
            refine lv_idiv X.1 X.2.1 d_K_isPath_38 (by decide) ?_
            refine lv_istore_n (lv' := [(1, .int (r / 27)), (2, .int (nI i)), (0, .int x)]) X.1 X.2.1 d_K_isPath_39 rfl hl (by decide) rfl (fun ls hl => ?_)
            obtain ⟨xi, e_xi⟩ : ∃ z : Int32, z = (nI i) + 1 := ⟨_, rfl⟩
            refine lv_iinc (v := xi) (lv' := [(2, .int xi), (1, .int (r / 27)), (0, .int x)]) X.1 X.2.1 d_K_isPath_40 hl (k := 1) rfl (by rw [e_xi]; rfl) (by decide) rfl (fun ls hl => ?_)
            refine lv_goto (tgt := 17) X.1 X.2.1 d_K_isPath_43 (by decide) ?_
            have e9 := e_xi.trans (nI_1 i)
            subst e9
            exact ih ls ⟨_, lv_sub hl [0, 1, 2] rfl, by rw [← hI]; show _ = ite _ _ _; rw [if_pos (Int32.not_le.mp hr0), if_neg hq0]⟩
          · skip
            refine lv_iconst (v := 0) X.1 X.2.1 d_K_isPath_33 (by decide) ?_
            exact m_zret X hr hlk hM (by first | rfl | decide) d_K_isPath_34 ⟨Nat.le_of_ble_eq_true rfl, Nat.le_of_ble_eq_true rfl⟩ (mExt_rf _ _) ⟨b0 (by rw [← hI]; show ¬ (ite _ _ _ = true); rw [if_pos (Int32.not_le.mp hr0), if_pos hq0]; decide), rfl, rfl⟩
    · skip
      refine lv_iconst (v := 0) X.1 X.2.1 d_K_isPath_11 (by decide) ?_
      exact m_zret X hr hlk hM (by first | rfl | decide) d_K_isPath_12 ⟨Nat.le_of_ble_eq_true rfl, Nat.le_of_ble_eq_true rfl⟩ (mExt_rf _ _) ⟨b0 (by unfold isP; rw [if_pos (by first | exact Or.inl hz1 | exact Or.inr (Int32.not_le.mp hz2))]; decide), rfl, rfl⟩
