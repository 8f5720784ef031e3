def m_firstOf_L2 : Nat → rR → Int32 → Int32 → Int32
  | 0, _, _, _ => 0
  | n + 1, r, v1, v2 => (if (r 18 31) ≤ v2 then (-1) else (if (r 43 (v2.toNatClampNeg)) = v1 then (if (r 45 (v2.toNatClampNeg)) = 0 then v2 else m_firstOf_L2 n r v1 (v2 + 1)) else m_firstOf_L2 n r v1 (v2 + 1)))
def m_firstOf_L2_ok : Nat → rR → Int32 → Int32 → Prop
  | 0, _, _, _ => False
  | n + 1, r, v1, v2 => (((r 18 31) ≤ v2) → (True)) ∧ (¬ ((r 18 31) ≤ v2) → ((ixk v2 60) ∧ ((((r 43 (v2.toNatClampNeg)) = v1) → ((((r 45 (v2.toNatClampNeg)) = 0) → (True)) ∧ (¬ ((r 45 (v2.toNatClampNeg)) = 0) → (m_firstOf_L2_ok n r v1 (v2 + 1))))) ∧ (¬ ((r 43 (v2.toNatClampNeg)) = v1) → (m_firstOf_L2_ok n r v1 (v2 + 1))))))
def m_firstOf (r : rR) (a0 : Int32) : Int32 := m_firstOf_L2 61 r a0 0
def m_firstOf_ok (r : rR) (a0 : Int32) : Prop := m_firstOf_L2_ok 61 r a0 0
set_option maxHeartbeats 4000000 in
set_option maxRecDepth 100000 in
theorem k_Md_firstOf (l : Launch) (D : va_G) (dA : Nat → ClassId) (base : Nat) (M : mM) (ad : Nat → Nat → Nat) (hR : wR M) (r : rR) (a0 : Int32) (hk : m_firstOf_ok r a0) : mMet l y_Md_firstOf b_Md_firstOf 3 (some FieldType.int) ({ frames := 0, cells := 0, slots := 0, locals := 0 } : Room) 0 0 D dA base (rs M r) ad [.ref (ad 18 0), .int a0] (fun rv M' ad' => rv = some (.int (m_firstOf r a0)) ∧ M' = rs M r ∧ ad' = ad) := by
  refine m_start (lvs := [(0, .ref (ad 18 0)), (1, .int a0)]) (by decide) (Nat.le_of_ble_eq_true rfl) rfl ?_
  intro p e s m below meth c ls X hr hlk hin hml hM hl
  generalize he : m_firstOf r a0 = F
  refine lv_iconst (v := 0) X.1 X.2.1 d_Md_firstOf_0 (by decide) ?_
  refine lv_istore_n (lv' := [(2, .int 0), (0, .ref (ad 18 0)), (1, .int a0)]) X.1 X.2.1 d_Md_firstOf_1 rfl hl (by decide) rfl (fun ls hl => ?_)
  refine w_downW (fun ls => F0 m 2 ls []) (fun n H L ls => ∃ (v1 : Int32) (v2 : Int32), mSt D dA base (rs M r) ad s.heap H L ∧ lv_has ls 3 [(1, .int v1), (2, .int v2), (0, .ref (ad 18 0))] ∧ m_firstOf_L2_ok n r v1 v2 ∧ m_firstOf_L2 n r v1 v2 = F) ?_ ?_ 61 _ _ ls ⟨a0, 0, hM, lv_sub hl [2, 0, 1] rfl, hk, (rfl).symm.trans he⟩
  · rintro H locs ls ⟨v1, v2, hM, hl, hk, he⟩
    exact hk.elim
  · rintro n ih H locs ls ⟨v1, v2, hM, hl, hk, he⟩
    refine lv_iload_n X.1 X.2.1 d_Md_firstOf_2 rfl (lv_at hl 1 rfl) ?_
    refine lv_aload_n X.1 X.2.1 d_Md_firstOf_3 rfl (lv_at hl 2 rfl) ?_
    refine R_geti (k := 18) X hM (by decide) rfl hR.1 f_Md_158 rfl d_Md_firstOf_4 ?_
    refine lv_icmp_ge (tgt := 37) X.1 X.2.1 d_Md_firstOf_7 (by decide) (fun h1 => ?_) (fun h1 => ?_)
    · skip
      have hk := hk.1 h1
      refine lv_iconst (v := (-1)) X.1 X.2.1 d_Md_firstOf_37 (by decide) ?_
      have heL : (-1) = F := ((if_pos h1)).symm.trans he
      exact m_iret X hr hlk hM d_Md_firstOf_38 ⟨Nat.le_of_ble_eq_true rfl, Nat.le_of_ble_eq_true rfl⟩ ⟨fun _ _ _ => rfl, fun _ => Nat.le_refl _⟩ ⟨congrArg (fun z => some (Value.int z)) heL, rfl, rfl⟩
    · skip
      have hk := hk.2 h1
      refine lv_aload_n X.1 X.2.1 d_Md_firstOf_10 rfl (lv_at hl 2 rfl) ?_
      refine r_gets (q := 0) X hM rfl hR.1 f_Md_83 rfl (hR.2 24 (by decide)) d_Md_firstOf_11 (fun g2 => ?_)
      refine lv_iload_n X.1 X.2.1 d_Md_firstOf_14 rfl (lv_at hl 1 rfl) ?_
      obtain ⟨o3, hk⟩ := hk
      refine R_iald (k := 43) X hM (by decide) rfl g2 a_m_jobScope (fun _ => rfl) o3.1 o3.2 d_Md_firstOf_15 ?_
      refine lv_iload_n X.1 X.2.1 d_Md_firstOf_16 rfl (lv_at hl 0 rfl) ?_
      refine lv_icmp_ne (tgt := 31) X.1 X.2.1 d_Md_firstOf_17 (by decide) (fun h4 => ?_) (fun h4 => ?_)
      · skip
        have hk := hk.2 h4
        refine lv_iinc (v := v2 + 1) (lv' := [(2, .int (v2 + 1)), (1, .int v1), (0, .ref (ad 18 0))]) X.1 X.2.1 d_Md_firstOf_31 hl (k := 1) rfl rfl (by decide) rfl (fun ls hl => ?_)
        refine lv_goto (tgt := 2) X.1 X.2.1 d_Md_firstOf_34 (by decide) ?_
        exact ih _ _ ls ⟨_, _, hM, lv_sub hl [1, 0, 2] rfl, hk, ((if_neg h1).trans ((if_neg h4))).symm.trans he⟩
      · skip
        have hk := hk.1 h4
        refine lv_aload_n X.1 X.2.1 d_Md_firstOf_20 rfl (lv_at hl 2 rfl) ?_
        refine r_gets (q := 0) X hM rfl hR.1 f_Md_89 rfl (hR.2 26 (by decide)) d_Md_firstOf_21 (fun g5 => ?_)
        refine lv_iload_n X.1 X.2.1 d_Md_firstOf_24 rfl (lv_at hl 1 rfl) ?_
        refine R_iald (k := 45) X hM (by decide) rfl g5 a_m_outcome (fun _ => rfl) o3.1 o3.2 d_Md_firstOf_25 ?_
        refine lv_if_ne (tgt := 31) X.1 X.2.1 d_Md_firstOf_26 (by decide) (fun h6 => ?_) (fun h6 => ?_)
        · skip
          have hk := hk.2 h6
          refine lv_iinc (v := v2 + 1) (lv' := [(2, .int (v2 + 1)), (1, .int v1), (0, .ref (ad 18 0))]) X.1 X.2.1 d_Md_firstOf_31 hl (k := 1) rfl rfl (by decide) rfl (fun ls hl => ?_)
          refine lv_goto (tgt := 2) X.1 X.2.1 d_Md_firstOf_34 (by decide) ?_
          exact ih _ _ ls ⟨_, _, hM, lv_sub hl [1, 0, 2] rfl, hk, ((if_neg h1).trans ((if_pos h4).trans ((if_neg h6)))).symm.trans he⟩
        · skip
          have hk := hk.1 h6
          refine lv_iload_n X.1 X.2.1 d_Md_firstOf_29 rfl (lv_at hl 1 rfl) ?_
          have heL : v2 = F := ((if_neg h1).trans ((if_pos h4).trans ((if_pos h6)))).symm.trans he
          exact m_iret X hr hlk hM d_Md_firstOf_30 ⟨Nat.le_of_ble_eq_true rfl, Nat.le_of_ble_eq_true rfl⟩ ⟨fun _ _ _ => rfl, fun _ => Nat.le_refl _⟩ ⟨congrArg (fun z => some (Value.int z)) heL, rfl, rfl⟩
def m_job_L55 : Nat → rR → Int32 → Int32 → Int32 → Int32 → Int32 → Int32 → Int32 → Int32 × rR
  | 0, r, _, _, _, _, _, _, _ => (0, r)
  | n + 1, r, v1, v2, v3, v4, v5, v6, v7 => (if (r 18 31) ≤ v7 then (if v4 < 0 then (if v5 = 4 then ((m_fail (ru r 18 34 0) 2).1, (m_fail (ru r 18 34 0) 2).2) else (if (r 18 31) = 60 then ((m_fail (ru r 18 34 0) 2).1, (m_fail (ru r 18 34 0) 2).2) else (((r 18 31) + 1) - 1, (ru (ru (ru (ru (ru (ru (ru r 18 34 0) 42 ((r 18 31).toNatClampNeg) v1) 43 ((r 18 31).toNatClampNeg) v2) 44 ((r 18 31).toNatClampNeg) v6) 45 ((r 18 31).toNatClampNeg) 0) 39 ((r 18 31).toNatClampNeg) 0) 18 31 ((r 18 31) + 1))))) else (if (r 42 (v4.toNatClampNeg)) = v1 then (if (r 44 (v4.toNatClampNeg)) = v6 then (if (r 39 (v4.toNatClampNeg)) = 0 then (v4, (ru r 18 34 0)) else (if v5 = 4 then ((m_fail (ru r 18 34 0) 2).1, (m_fail (ru r 18 34 0) 2).2) else (if (r 18 31) = 60 then ((m_fail (ru r 18 34 0) 2).1, (m_fail (ru r 18 34 0) 2).2) else (((r 18 31) + 1) - 1, (ru (ru (ru (ru (ru (ru (ru r 18 34 0) 42 ((r 18 31).toNatClampNeg) v1) 43 ((r 18 31).toNatClampNeg) v2) 44 ((r 18 31).toNatClampNeg) v6) 45 ((r 18 31).toNatClampNeg) 0) 39 ((r 18 31).toNatClampNeg) 0) 18 31 ((r 18 31) + 1)))))) else (if v5 = 4 then ((m_fail (ru r 18 34 0) 2).1, (m_fail (ru r 18 34 0) 2).2) else (if (r 18 31) = 60 then ((m_fail (ru r 18 34 0) 2).1, (m_fail (ru r 18 34 0) 2).2) else (((r 18 31) + 1) - 1, (ru (ru (ru (ru (ru (ru (ru r 18 34 0) 42 ((r 18 31).toNatClampNeg) v1) 43 ((r 18 31).toNatClampNeg) v2) 44 ((r 18 31).toNatClampNeg) v6) 45 ((r 18 31).toNatClampNeg) 0) 39 ((r 18 31).toNatClampNeg) 0) 18 31 ((r 18 31) + 1)))))) else (if v5 = 4 then ((m_fail (ru r 18 34 0) 2).1, (m_fail (ru r 18 34 0) 2).2) else (if (r 18 31) = 60 then ((m_fail (ru r 18 34 0) 2).1, (m_fail (ru r 18 34 0) 2).2) else (((r 18 31) + 1) - 1, (ru (ru (ru (ru (ru (ru (ru r 18 34 0) 42 ((r 18 31).toNatClampNeg) v1) 43 ((r 18 31).toNatClampNeg) v2) 44 ((r 18 31).toNatClampNeg) v6) 45 ((r 18 31).toNatClampNeg) 0) 39 ((r 18 31).toNatClampNeg) 0) 18 31 ((r 18 31) + 1))))))) else (if (r 43 (v7.toNatClampNeg)) = v2 then (if (r 45 (v7.toNatClampNeg)) = 0 then m_job_L55 n r v1 v2 v3 v7 (v5 + 1) v6 (v7 + 1) else m_job_L55 n r v1 v2 v3 v4 v5 v6 (v7 + 1)) else m_job_L55 n r v1 v2 v3 v4 v5 v6 (v7 + 1)))
def m_job_L55_ok : Nat → rR → Int32 → Int32 → Int32 → Int32 → Int32 → Int32 → Int32 → Prop
  | 0, _, _, _, _, _, _, _, _ => False
  | n + 1, r, v1, v2, v3, v4, v5, v6, v7 => (((r 18 31) ≤ v7) → (((v4 < 0) → (((v5 = 4) → (True)) ∧ (¬ (v5 = 4) → ((((r 18 31) = 60) → (True)) ∧ (¬ ((r 18 31) = 60) → (ixk (r 18 31) 60)))))) ∧ (¬ (v4 < 0) → ((ixk v4 60) ∧ ((((r 42 (v4.toNatClampNeg)) = v1) → ((((r 44 (v4.toNatClampNeg)) = v6) → ((((r 39 (v4.toNatClampNeg)) = 0) → (True)) ∧ (¬ ((r 39 (v4.toNatClampNeg)) = 0) → (((v5 = 4) → (True)) ∧ (¬ (v5 = 4) → ((((r 18 31) = 60) → (True)) ∧ (¬ ((r 18 31) = 60) → (ixk (r 18 31) 60)))))))) ∧ (¬ ((r 44 (v4.toNatClampNeg)) = v6) → (((v5 = 4) → (True)) ∧ (¬ (v5 = 4) → ((((r 18 31) = 60) → (True)) ∧ (¬ ((r 18 31) = 60) → (ixk (r 18 31) 60)))))))) ∧ (¬ ((r 42 (v4.toNatClampNeg)) = v1) → (((v5 = 4) → (True)) ∧ (¬ (v5 = 4) → ((((r 18 31) = 60) → (True)) ∧ (¬ ((r 18 31) = 60) → (ixk (r 18 31) 60))))))))))) ∧ (¬ ((r 18 31) ≤ v7) → ((ixk v7 60) ∧ ((((r 43 (v7.toNatClampNeg)) = v2) → ((((r 45 (v7.toNatClampNeg)) = 0) → (m_job_L55_ok n r v1 v2 v3 v7 (v5 + 1) v6 (v7 + 1))) ∧ (¬ ((r 45 (v7.toNatClampNeg)) = 0) → (m_job_L55_ok n r v1 v2 v3 v4 v5 v6 (v7 + 1))))) ∧ (¬ ((r 43 (v7.toNatClampNeg)) = v2) → (m_job_L55_ok n r v1 v2 v3 v4 v5 v6 (v7 + 1))))))
def m_job (r : rR) (a0 : Int32) (a1 : Int32) (a2 : Int32) : Int32 × rR := (if (m_in a0 0 2) = 0 then ((m_fail r 1).1, (m_fail r 1).2) else (if (m_isPath a1) = 0 then ((m_fail r 1).1, (m_fail r 1).2) else (if a0 = 0 then (if (m_in a2 0 3) = 0 then ((m_fail r 1).1, (m_fail r 1).2) else m_job_L55 61 r a0 a1 a2 (-1) 0 a2 0) else m_job_L55 61 r a0 a1 a2 (-1) 0 0 0)))
def m_job_ok (r : rR) (a0 : Int32) (a1 : Int32) (a2 : Int32) : Prop := (((m_in a0 0 2) = 0) → (True)) ∧ (¬ ((m_in a0 0 2) = 0) → ((m_isPath_ok a1) ∧ ((((m_isPath a1) = 0) → (True)) ∧ (¬ ((m_isPath a1) = 0) → (((a0 = 0) → ((((m_in a2 0 3) = 0) → (True)) ∧ (¬ ((m_in a2 0 3) = 0) → (m_job_L55_ok 61 r a0 a1 a2 (-1) 0 a2 0)))) ∧ (¬ (a0 = 0) → (m_job_L55_ok 61 r a0 a1 a2 (-1) 0 0 0)))))))
set_option maxHeartbeats 4000000 in
set_option maxRecDepth 100000 in
theorem k_Md_job (l : Launch) (D : va_G) (dA : Nat → ClassId) (base : Nat) (M : mM) (ad : Nat → Nat → Nat) (hR : wR M) (r : rR) (a0 : Int32) (a1 : Int32) (a2 : Int32) (hk : m_job_ok r a0 a1 a2) : mMet l y_Md_job b_Md_job 8 (some FieldType.int) ({ frames := 2, cells := 0, slots := 0, locals := 43 } : Room) 0 0 D dA base (rs M r) ad [.ref (ad 18 0), .int a0, .int a1, .int a2] (fun rv M' ad' => rv = some (.int (m_job r a0 a1 a2).1) ∧ M' = rs M (m_job r a0 a1 a2).2 ∧ ad' = ad) := by
  refine m_start (lvs := [(0, .ref (ad 18 0)), (1, .int a0), (2, .int a1), (3, .int a2)]) (by decide) (Nat.le_of_ble_eq_true rfl) rfl ?_
  intro p e s m below meth c ls X hr hlk hin hml hM hl
  generalize he : m_job r a0 a1 a2 = F
  refine lv_iload_n X.1 X.2.1 d_Md_job_0 rfl (lv_at hl 1 rfl) ?_
  refine lv_iconst (v := 0) X.1 X.2.1 d_Md_job_1 (by decide) ?_
  refine lv_iconst (v := 2) X.1 X.2.1 d_Md_job_2 (by decide) ?_
  refine r_cS (As := [.int a0, .int 0, .int 2]) (rest := []) X hml hl.1 hM (k_Md_in l D dA base (rs M r) ad a0 0 2) c_Md_103 v_Md_in rfl (Nat.le_of_ble_eq_true rfl) ⟨rfl, rfl, Nat.le_of_ble_eq_true rfl, Nat.le_of_ble_eq_true rfl⟩ ⟨Nat.le_of_ble_eq_true rfl, Nat.le_of_ble_eq_true rfl⟩ d_Md_job_3 ?_
  intro rv M1 ad1 H locs hP hM hE
  obtain ⟨e1, e2, e3⟩ := hP
  subst rv; subst M1; subst ad1
  show W _ _ _ _ _ _ _ _ _ _ _ _ _ _ _ (F0 m 6 ls [.int (m_in a0 0 2)])
  refine lv_if_eq (tgt := 29) X.1 X.2.1 d_Md_job_6 (by decide) (fun h1 => ?_) (fun h1 => ?_)
  · skip
    have hk := hk.1 h1
    refine lv_aload_n X.1 X.2.1 d_Md_job_29 rfl (lv_at hl 0 rfl) ?_
    refine lv_iconst (v := 1) X.1 X.2.1 d_Md_job_30 (by decide) ?_
    refine r_cV (As := [.int 1]) (rest := []) X hml hl.1 hM (k_Md_fail l D dA base M ad hR r 1) c_Md_161 v_Md_fail kc_Md rfl hR.1 rfl (Nat.le_of_ble_eq_true rfl) ⟨rfl, rfl, Nat.le_of_ble_eq_true rfl, Nat.le_of_ble_eq_true rfl⟩ ⟨Nat.le_of_ble_eq_true rfl, Nat.le_of_ble_eq_true rfl⟩ d_Md_job_31 ?_
    intro rv M1 ad1 H locs hP hM hE
    obtain ⟨e1, e2, e3⟩ := hP
    subst rv; subst M1; subst ad1
    show W _ _ _ _ _ _ _ _ _ _ _ _ _ _ _ (F0 m 34 ls [.int ((m_fail r 1).1)])
    have heL : ((m_fail r 1).1, (m_fail r 1).2) = F := ((if_pos h1)).symm.trans he
    exact m_iret X hr hlk hM d_Md_job_34 ⟨Nat.le_of_ble_eq_true rfl, Nat.le_of_ble_eq_true rfl⟩ ⟨fun _ _ _ => rfl, fun _ => Nat.le_refl _⟩ ⟨congrArg (fun z => some (Value.int z.1)) heL, congrArg (fun z => rs M z.2) heL, rfl⟩
  · skip
    have hk := hk.2 h1
    refine lv_iload_n X.1 X.2.1 d_Md_job_9 rfl (lv_at hl 2 rfl) ?_
    obtain ⟨o2, hk⟩ := hk
    refine r_cS (As := [.int a1]) (rest := []) X hml hl.1 hM (k_Md_isPath l D dA base (rs M r) ad a1 o2) c_Md_118 v_Md_isPath rfl (Nat.le_of_ble_eq_true rfl) ⟨rfl, rfl, Nat.le_of_ble_eq_true rfl, Nat.le_of_ble_eq_true rfl⟩ ⟨Nat.le_of_ble_eq_true rfl, Nat.le_of_ble_eq_true rfl⟩ d_Md_job_10 ?_
    intro rv M1 ad1 H locs hP hM hE
    obtain ⟨e1, e2, e3⟩ := hP
    subst rv; subst M1; subst ad1
    show W _ _ _ _ _ _ _ _ _ _ _ _ _ _ _ (F0 m 13 ls [.int (m_isPath a1)])
    refine lv_if_eq (tgt := 29) X.1 X.2.1 d_Md_job_13 (by decide) (fun h3 => ?_) (fun h3 => ?_)
    · skip
      have hk := hk.1 h3
      refine lv_aload_n X.1 X.2.1 d_Md_job_29 rfl (lv_at hl 0 rfl) ?_
      refine lv_iconst (v := 1) X.1 X.2.1 d_Md_job_30 (by decide) ?_
      refine r_cV (As := [.int 1]) (rest := []) X hml hl.1 hM (k_Md_fail l D dA base M ad hR r 1) c_Md_161 v_Md_fail kc_Md rfl hR.1 rfl (Nat.le_of_ble_eq_true rfl) ⟨rfl, rfl, Nat.le_of_ble_eq_true rfl, Nat.le_of_ble_eq_true rfl⟩ ⟨Nat.le_of_ble_eq_true rfl, Nat.le_of_ble_eq_true rfl⟩ d_Md_job_31 ?_
      intro rv M1 ad1 H locs hP hM hE
      obtain ⟨e1, e2, e3⟩ := hP
      subst rv; subst M1; subst ad1
      show W _ _ _ _ _ _ _ _ _ _ _ _ _ _ _ (F0 m 34 ls [.int ((m_fail r 1).1)])
      have heL : ((m_fail r 1).1, (m_fail r 1).2) = F := ((if_neg h1).trans ((if_pos h3))).symm.trans he
      exact m_iret X hr hlk hM d_Md_job_34 ⟨Nat.le_of_ble_eq_true rfl, Nat.le_of_ble_eq_true rfl⟩ ⟨fun _ _ _ => rfl, fun _ => Nat.le_refl _⟩ ⟨congrArg (fun z => some (Value.int z.1)) heL, congrArg (fun z => rs M z.2) heL, rfl⟩
    · skip
      have hk := hk.2 h3
      refine lv_iload_n X.1 X.2.1 d_Md_job_16 rfl (lv_at hl 1 rfl) ?_
      refine lv_if_ne (tgt := 35) X.1 X.2.1 d_Md_job_17 (by decide) (fun h4 => ?_) (fun h4 => ?_)
      · skip
        have hk := hk.2 h4
        refine lv_iconst (v := (-1)) X.1 X.2.1 d_Md_job_35 (by decide) ?_
        refine lv_istore (lv' := [(4, .int (-1)), (0, .ref (ad 18 0)), (1, .int a0), (2, .int a1), (3, .int a2)]) X.1 X.2.1 d_Md_job_36 hl (by decide) rfl (fun ls hl => ?_)
        refine lv_iconst (v := 0) X.1 X.2.1 d_Md_job_38 (by decide) ?_
        refine lv_istore (lv' := [(5, .int 0), (4, .int (-1)), (0, .ref (ad 18 0)), (1, .int a0), (2, .int a1), (3, .int a2)]) X.1 X.2.1 d_Md_job_39 hl (by decide) rfl (fun ls hl => ?_)
        refine lv_iload_n X.1 X.2.1 d_Md_job_41 rfl (lv_at hl 3 rfl) ?_
        refine lv_if_ne (tgt := 49) X.1 X.2.1 d_Md_job_42 (by decide) (fun h5 => ?_) (fun h5 => absurd h5 h4)
        refine lv_iconst (v := 0) X.1 X.2.1 d_Md_job_49 (by decide) ?_
        refine lv_istore (lv' := [(6, .int 0), (5, .int 0), (4, .int (-1)), (0, .ref (ad 18 0)), (1, .int a0), (2, .int a1), (3, .int a2)]) X.1 X.2.1 d_Md_job_50 hl (by decide) rfl (fun ls hl => ?_)
        refine lv_iconst (v := 0) X.1 X.2.1 d_Md_job_52 (by decide) ?_
        refine lv_istore (lv' := [(7, .int 0), (6, .int 0), (5, .int 0), (4, .int (-1)), (0, .ref (ad 18 0)), (1, .int a0), (2, .int a1), (3, .int a2)]) X.1 X.2.1 d_Md_job_53 hl (by decide) rfl (fun ls hl => ?_)
        refine w_downW (fun ls => F0 m 55 ls []) (fun n H L ls => ∃ (r : rR) (v1 : Int32) (v2 : Int32) (v3 : Int32) (v4 : Int32) (v5 : Int32) (v6 : Int32) (v7 : Int32), mSt D dA base (rs M r) ad s.heap H L ∧ lv_has ls 8 [(1, .int v1), (2, .int v2), (3, .int v3), (4, .int v4), (5, .int v5), (6, .int v6), (7, .int v7), (0, .ref (ad 18 0))] ∧ m_job_L55_ok n r v1 v2 v3 v4 v5 v6 v7 ∧ m_job_L55 n r v1 v2 v3 v4 v5 v6 v7 = F) ?_ ?_ 61 _ _ ls ⟨r, a0, a1, a2, (-1), 0, 0, 0, hM, lv_sub hl [5, 6, 7, 3, 2, 1, 0, 4] rfl, hk, ((if_neg h1).trans ((if_neg h3).trans ((if_neg h4)))).symm.trans he⟩
        · rintro H locs ls ⟨r, v1, v2, v3, v4, v5, v6, v7, hM, hl, hk, he⟩
          exact hk.elim
        · rintro n ih H locs ls ⟨r, v1, v2, v3, v4, v5, v6, v7, hM, hl, hk, he⟩
          refine lv_iload X.1 X.2.1 d_Md_job_55 (lv_at hl 6 rfl) ?_
          refine lv_aload_n X.1 X.2.1 d_Md_job_57 rfl (lv_at hl 7 rfl) ?_
          refine R_geti (k := 18) X hM (by decide) rfl hR.1 f_Md_158 rfl d_Md_job_58 ?_
          refine lv_icmp_ge (tgt := 101) X.1 X.2.1 d_Md_job_61 (by decide) (fun h6 => ?_) (fun h6 => ?_)
          · skip
            have hk := hk.1 h6
            refine lv_aload_n X.1 X.2.1 d_Md_job_101 rfl (lv_at hl 7 rfl) ?_
            refine lv_iconst (v := 0) X.1 X.2.1 d_Md_job_102 (by decide) ?_
            refine R_puti (k := 18) X hM (by decide) rfl hR.1 p_Md_98 rfl rfl rfl d_Md_job_103 (fun H locs hM => ?_)
            refine lv_iload X.1 X.2.1 d_Md_job_106 (lv_at hl 3 rfl) ?_
            refine lv_if_lt (tgt := 147) X.1 X.2.1 d_Md_job_108 (by decide) (fun h7 => ?_) (fun h7 => ?_)
            · skip
              have hk := hk.1 h7
              refine lv_iload X.1 X.2.1 d_Md_job_147 (lv_at hl 4 rfl) ?_
              refine lv_iconst (v := 4) X.1 X.2.1 d_Md_job_149 (by decide) ?_
              refine lv_icmp_eq (tgt := 162) X.1 X.2.1 d_Md_job_150 (by decide) (fun h8 => ?_) (fun h8 => ?_)
              · skip
                have hk := hk.1 h8
                refine lv_aload_n X.1 X.2.1 d_Md_job_162 rfl (lv_at hl 7 rfl) ?_
                refine lv_iconst (v := 2) X.1 X.2.1 d_Md_job_163 (by decide) ?_
                refine r_cV (As := [.int 2]) (rest := []) X hml hl.1 hM (k_Md_fail l D dA base M ad hR (ru r 18 34 0) 2) c_Md_161 v_Md_fail kc_Md rfl hR.1 rfl (Nat.le_of_ble_eq_true rfl) ⟨rfl, rfl, Nat.le_of_ble_eq_true rfl, Nat.le_of_ble_eq_true rfl⟩ ⟨Nat.le_of_ble_eq_true rfl, Nat.le_of_ble_eq_true rfl⟩ d_Md_job_164 ?_
                intro rv M1 ad1 H locs hP hM hE
                obtain ⟨e1, e2, e3⟩ := hP
                subst rv; subst M1; subst ad1
                show W _ _ _ _ _ _ _ _ _ _ _ _ _ _ _ (F0 m 167 ls [.int ((m_fail (ru r 18 34 0) 2).1)])
                have heL : ((m_fail (ru r 18 34 0) 2).1, (m_fail (ru r 18 34 0) 2).2) = F := ((if_pos h6).trans ((if_pos h7).trans ((if_pos h8)))).symm.trans he
                exact m_iret X hr hlk hM d_Md_job_167 ⟨Nat.le_of_ble_eq_true rfl, Nat.le_of_ble_eq_true rfl⟩ ⟨fun _ _ _ => rfl, fun _ => Nat.le_refl _⟩ ⟨congrArg (fun z => some (Value.int z.1)) heL, congrArg (fun z => rs M z.2) heL, rfl⟩
              · skip
                have hk := hk.2 h8
                refine lv_aload_n X.1 X.2.1 d_Md_job_153 rfl (lv_at hl 7 rfl) ?_
                refine R_geti (k := 18) X hM (by decide) rfl hR.1 f_Md_158 rfl d_Md_job_154 ?_
                show W _ _ _ _ _ _ _ _ _ _ _ _ _ _ _ (F0 m 157 ls [.int (r 18 31)])
                refine lv_bipush (v := 60) X.1 X.2.1 d_Md_job_157 (by decide) ?_
                refine lv_icmp_ne (tgt := 168) X.1 X.2.1 d_Md_job_159 (by decide) (fun h9 => ?_) (fun h9 => ?_)
                · skip
                  have hk := hk.2 h9
                  refine lv_aload_n X.1 X.2.1 d_Md_job_168 rfl (lv_at hl 7 rfl) ?_
                  refine r_gets (q := 0) X hM rfl hR.1 f_Md_80 rfl (hR.2 23 (by decide)) d_Md_job_169 (fun g10 => ?_)
                  refine lv_aload_n X.1 X.2.1 d_Md_job_172 rfl (lv_at hl 7 rfl) ?_
                  refine R_geti (k := 18) X hM (by decide) rfl hR.1 f_Md_158 rfl d_Md_job_173 ?_
                  show W _ _ _ _ _ _ _ _ _ _ _ _ _ _ _ (F0 m 176 ls [.int (r 18 31), .ref (ad 42 0)])
                  refine lv_iload_n X.1 X.2.1 d_Md_job_176 rfl (lv_at hl 0 rfl) ?_
                  have o11 := hk
                  refine R_iast (k := 42) X hM (by decide) rfl g10 a_m_kind (fun _ => rfl) o11.1 o11.2 d_Md_job_177 (fun H locs hM => ?_)
                  refine lv_aload_n X.1 X.2.1 d_Md_job_178 rfl (lv_at hl 7 rfl) ?_
                  refine r_gets (q := 0) X hM rfl hR.1 f_Md_83 rfl (hR.2 24 (by decide)) d_Md_job_179 (fun g12 => ?_)
                  refine lv_aload_n X.1 X.2.1 d_Md_job_182 rfl (lv_at hl 7 rfl) ?_
                  refine R_geti (k := 18) X hM (by decide) rfl hR.1 f_Md_158 rfl d_Md_job_183 ?_
                  show W _ _ _ _ _ _ _ _ _ _ _ _ _ _ _ (F0 m 186 ls [.int (r 18 31), .ref (ad 43 0)])
                  refine lv_iload_n X.1 X.2.1 d_Md_job_186 rfl (lv_at hl 1 rfl) ?_
                  refine R_iast (k := 43) X hM (by decide) rfl g12 a_m_jobScope (fun _ => rfl) o11.1 o11.2 d_Md_job_187 (fun H locs hM => ?_)
                  refine lv_aload_n X.1 X.2.1 d_Md_job_188 rfl (lv_at hl 7 rfl) ?_
                  refine r_gets (q := 0) X hM rfl hR.1 f_Md_86 rfl (hR.2 25 (by decide)) d_Md_job_189 (fun g13 => ?_)
                  refine lv_aload_n X.1 X.2.1 d_Md_job_192 rfl (lv_at hl 7 rfl) ?_
                  refine R_geti (k := 18) X hM (by decide) rfl hR.1 f_Md_158 rfl d_Md_job_193 ?_
                  show W _ _ _ _ _ _ _ _ _ _ _ _ _ _ _ (F0 m 196 ls [.int (r 18 31), .ref (ad 44 0)])
                  refine lv_iload X.1 X.2.1 d_Md_job_196 (lv_at hl 5 rfl) ?_
                  refine R_iast (k := 44) X hM (by decide) rfl g13 a_m_jobScript (fun _ => rfl) o11.1 o11.2 d_Md_job_198 (fun H locs hM => ?_)
                  refine lv_aload_n X.1 X.2.1 d_Md_job_199 rfl (lv_at hl 7 rfl) ?_
                  refine r_gets (q := 0) X hM rfl hR.1 f_Md_89 rfl (hR.2 26 (by decide)) d_Md_job_200 (fun g14 => ?_)
                  refine lv_aload_n X.1 X.2.1 d_Md_job_203 rfl (lv_at hl 7 rfl) ?_
                  refine R_geti (k := 18) X hM (by decide) rfl hR.1 f_Md_158 rfl d_Md_job_204 ?_
                  show W _ _ _ _ _ _ _ _ _ _ _ _ _ _ _ (F0 m 207 ls [.int (r 18 31), .ref (ad 45 0)])
                  refine lv_iconst (v := 0) X.1 X.2.1 d_Md_job_207 (by decide) ?_
                  refine R_iast (k := 45) X hM (by decide) rfl g14 a_m_outcome (fun _ => rfl) o11.1 o11.2 d_Md_job_208 (fun H locs hM => ?_)
                  refine lv_aload_n X.1 X.2.1 d_Md_job_209 rfl (lv_at hl 7 rfl) ?_
                  refine r_gets (q := 0) X hM rfl hR.1 f_Md_71 rfl (hR.2 20 (by decide)) d_Md_job_210 (fun g15 => ?_)
                  refine lv_aload_n X.1 X.2.1 d_Md_job_213 rfl (lv_at hl 7 rfl) ?_
                  refine R_geti (k := 18) X hM (by decide) rfl hR.1 f_Md_158 rfl d_Md_job_214 ?_
                  show W _ _ _ _ _ _ _ _ _ _ _ _ _ _ _ (F0 m 217 ls [.int (r 18 31), .ref (ad 39 0)])
                  refine lv_iconst (v := 0) X.1 X.2.1 d_Md_job_217 (by decide) ?_
                  refine R_zast (k := 39) X hM (by decide) rfl g15 a_m_begun (fun _ => rfl) o11.1 o11.2 rfl d_Md_job_218 (fun H locs hM => ?_)
                  refine lv_aload_n X.1 X.2.1 d_Md_job_219 rfl (lv_at hl 7 rfl) ?_
                  refine lv_dup X.1 X.2.1 d_Md_job_220 rfl ?_
                  refine R_geti (k := 18) X hM (by decide) rfl hR.1 f_Md_158 rfl d_Md_job_221 ?_
                  show W _ _ _ _ _ _ _ _ _ _ _ _ _ _ _ (F0 m 224 ls [.int (r 18 31), .ref (ad 18 0)])
                  refine lv_iconst (v := 1) X.1 X.2.1 d_Md_job_224 (by decide) ?_
                  refine lv_iadd X.1 X.2.1 d_Md_job_225 ?_
                  refine R_puti (k := 18) X hM (by decide) rfl hR.1 p_Md_158 rfl rfl rfl d_Md_job_226 (fun H locs hM => ?_)
                  refine lv_aload_n X.1 X.2.1 d_Md_job_229 rfl (lv_at hl 7 rfl) ?_
                  refine R_geti (k := 18) X hM (by decide) rfl hR.1 f_Md_158 rfl d_Md_job_230 ?_
                  show W _ _ _ _ _ _ _ _ _ _ _ _ _ _ _ (F0 m 233 ls [.int ((r 18 31) + 1)])
                  refine lv_iconst (v := 1) X.1 X.2.1 d_Md_job_233 (by decide) ?_
                  refine lv_isub X.1 X.2.1 d_Md_job_234 ?_
                  have heL : (((r 18 31) + 1) - 1, (ru (ru (ru (ru (ru (ru (ru r 18 34 0) 42 ((r 18 31).toNatClampNeg) v1) 43 ((r 18 31).toNatClampNeg) v2) 44 ((r 18 31).toNatClampNeg) v6) 45 ((r 18 31).toNatClampNeg) 0) 39 ((r 18 31).toNatClampNeg) 0) 18 31 ((r 18 31) + 1))) = F := ((if_pos h6).trans ((if_pos h7).trans ((if_neg h8).trans ((if_neg h9))))).symm.trans he
                  exact m_iret X hr hlk hM d_Md_job_235 ⟨Nat.le_of_ble_eq_true rfl, Nat.le_of_ble_eq_true rfl⟩ ⟨fun _ _ _ => rfl, fun _ => Nat.le_refl _⟩ ⟨congrArg (fun z => some (Value.int z.1)) heL, congrArg (fun z => rs M z.2) heL, rfl⟩
                · skip
                  have hk := hk.1 h9
                  refine lv_aload_n X.1 X.2.1 d_Md_job_162 rfl (lv_at hl 7 rfl) ?_
                  refine lv_iconst (v := 2) X.1 X.2.1 d_Md_job_163 (by decide) ?_
                  refine r_cV (As := [.int 2]) (rest := []) X hml hl.1 hM (k_Md_fail l D dA base M ad hR (ru r 18 34 0) 2) c_Md_161 v_Md_fail kc_Md rfl hR.1 rfl (Nat.le_of_ble_eq_true rfl) ⟨rfl, rfl, Nat.le_of_ble_eq_true rfl, Nat.le_of_ble_eq_true rfl⟩ ⟨Nat.le_of_ble_eq_true rfl, Nat.le_of_ble_eq_true rfl⟩ d_Md_job_164 ?_
                  intro rv M1 ad1 H locs hP hM hE
                  obtain ⟨e1, e2, e3⟩ := hP
                  subst rv; subst M1; subst ad1
                  show W _ _ _ _ _ _ _ _ _ _ _ _ _ _ _ (F0 m 167 ls [.int ((m_fail (ru r 18 34 0) 2).1)])
                  have heL : ((m_fail (ru r 18 34 0) 2).1, (m_fail (ru r 18 34 0) 2).2) = F := ((if_pos h6).trans ((if_pos h7).trans ((if_neg h8).trans ((if_pos h9))))).symm.trans he
                  exact m_iret X hr hlk hM d_Md_job_167 ⟨Nat.le_of_ble_eq_true rfl, Nat.le_of_ble_eq_true rfl⟩ ⟨fun _ _ _ => rfl, fun _ => Nat.le_refl _⟩ ⟨congrArg (fun z => some (Value.int z.1)) heL, congrArg (fun z => rs M z.2) heL, rfl⟩
            · skip
              have hk := hk.2 h7
              refine lv_aload_n X.1 X.2.1 d_Md_job_111 rfl (lv_at hl 7 rfl) ?_
              refine r_gets (q := 0) X hM rfl hR.1 f_Md_80 rfl (hR.2 23 (by decide)) d_Md_job_112 (fun g16 => ?_)
              refine lv_iload X.1 X.2.1 d_Md_job_115 (lv_at hl 3 rfl) ?_
              obtain ⟨o17, hk⟩ := hk
              refine R_iald (k := 42) X hM (by decide) rfl g16 a_m_kind (fun _ => rfl) o17.1 o17.2 d_Md_job_117 ?_
              show W _ _ _ _ _ _ _ _ _ _ _ _ _ _ _ (F0 m 118 ls [.int (r 42 (v4.toNatClampNeg))])
              refine lv_iload_n X.1 X.2.1 d_Md_job_118 rfl (lv_at hl 0 rfl) ?_
              refine lv_icmp_ne (tgt := 147) X.1 X.2.1 d_Md_job_119 (by decide) (fun h18 => ?_) (fun h18 => ?_)
              · skip
                have hk := hk.2 h18
                refine lv_iload X.1 X.2.1 d_Md_job_147 (lv_at hl 4 rfl) ?_
                refine lv_iconst (v := 4) X.1 X.2.1 d_Md_job_149 (by decide) ?_
                refine lv_icmp_eq (tgt := 162) X.1 X.2.1 d_Md_job_150 (by decide) (fun h19 => ?_) (fun h19 => ?_)
                · skip
                  have hk := hk.1 h19
                  refine lv_aload_n X.1 X.2.1 d_Md_job_162 rfl (lv_at hl 7 rfl) ?_
                  refine lv_iconst (v := 2) X.1 X.2.1 d_Md_job_163 (by decide) ?_
                  refine r_cV (As := [.int 2]) (rest := []) X hml hl.1 hM (k_Md_fail l D dA base M ad hR (ru r 18 34 0) 2) c_Md_161 v_Md_fail kc_Md rfl hR.1 rfl (Nat.le_of_ble_eq_true rfl) ⟨rfl, rfl, Nat.le_of_ble_eq_true rfl, Nat.le_of_ble_eq_true rfl⟩ ⟨Nat.le_of_ble_eq_true rfl, Nat.le_of_ble_eq_true rfl⟩ d_Md_job_164 ?_
                  intro rv M1 ad1 H locs hP hM hE
                  obtain ⟨e1, e2, e3⟩ := hP
                  subst rv; subst M1; subst ad1
                  show W _ _ _ _ _ _ _ _ _ _ _ _ _ _ _ (F0 m 167 ls [.int ((m_fail (ru r 18 34 0) 2).1)])
                  have heL : ((m_fail (ru r 18 34 0) 2).1, (m_fail (ru r 18 34 0) 2).2) = F := ((if_pos h6).trans ((if_neg h7).trans ((if_neg h18).trans ((if_pos h19))))).symm.trans he
                  exact m_iret X hr hlk hM d_Md_job_167 ⟨Nat.le_of_ble_eq_true rfl, Nat.le_of_ble_eq_true rfl⟩ ⟨fun _ _ _ => rfl, fun _ => Nat.le_refl _⟩ ⟨congrArg (fun z => some (Value.int z.1)) heL, congrArg (fun z => rs M z.2) heL, rfl⟩
                · skip
                  have hk := hk.2 h19
                  refine lv_aload_n X.1 X.2.1 d_Md_job_153 rfl (lv_at hl 7 rfl) ?_
                  refine R_geti (k := 18) X hM (by decide) rfl hR.1 f_Md_158 rfl d_Md_job_154 ?_
                  show W _ _ _ _ _ _ _ _ _ _ _ _ _ _ _ (F0 m 157 ls [.int (r 18 31)])
                  refine lv_bipush (v := 60) X.1 X.2.1 d_Md_job_157 (by decide) ?_
                  refine lv_icmp_ne (tgt := 168) X.1 X.2.1 d_Md_job_159 (by decide) (fun h20 => ?_) (fun h20 => ?_)
                  · skip
                    have hk := hk.2 h20
                    refine lv_aload_n X.1 X.2.1 d_Md_job_168 rfl (lv_at hl 7 rfl) ?_
                    refine r_gets (q := 0) X hM rfl hR.1 f_Md_80 rfl (hR.2 23 (by decide)) d_Md_job_169 (fun g21 => ?_)
                    refine lv_aload_n X.1 X.2.1 d_Md_job_172 rfl (lv_at hl 7 rfl) ?_
                    refine R_geti (k := 18) X hM (by decide) rfl hR.1 f_Md_158 rfl d_Md_job_173 ?_
                    show W _ _ _ _ _ _ _ _ _ _ _ _ _ _ _ (F0 m 176 ls [.int (r 18 31), .ref (ad 42 0)])
                    refine lv_iload_n X.1 X.2.1 d_Md_job_176 rfl (lv_at hl 0 rfl) ?_
                    have o22 := hk
                    refine R_iast (k := 42) X hM (by decide) rfl g21 a_m_kind (fun _ => rfl) o22.1 o22.2 d_Md_job_177 (fun H locs hM => ?_)
                    refine lv_aload_n X.1 X.2.1 d_Md_job_178 rfl (lv_at hl 7 rfl) ?_
                    refine r_gets (q := 0) X hM rfl hR.1 f_Md_83 rfl (hR.2 24 (by decide)) d_Md_job_179 (fun g23 => ?_)
                    refine lv_aload_n X.1 X.2.1 d_Md_job_182 rfl (lv_at hl 7 rfl) ?_
                    refine R_geti (k := 18) X hM (by decide) rfl hR.1 f_Md_158 rfl d_Md_job_183 ?_
                    show W _ _ _ _ _ _ _ _ _ _ _ _ _ _ _ (F0 m 186 ls [.int (r 18 31), .ref (ad 43 0)])
                    refine lv_iload_n X.1 X.2.1 d_Md_job_186 rfl (lv_at hl 1 rfl) ?_
                    refine R_iast (k := 43) X hM (by decide) rfl g23 a_m_jobScope (fun _ => rfl) o22.1 o22.2 d_Md_job_187 (fun H locs hM => ?_)
                    refine lv_aload_n X.1 X.2.1 d_Md_job_188 rfl (lv_at hl 7 rfl) ?_
                    refine r_gets (q := 0) X hM rfl hR.1 f_Md_86 rfl (hR.2 25 (by decide)) d_Md_job_189 (fun g24 => ?_)
                    refine lv_aload_n X.1 X.2.1 d_Md_job_192 rfl (lv_at hl 7 rfl) ?_
                    refine R_geti (k := 18) X hM (by decide) rfl hR.1 f_Md_158 rfl d_Md_job_193 ?_
                    show W _ _ _ _ _ _ _ _ _ _ _ _ _ _ _ (F0 m 196 ls [.int (r 18 31), .ref (ad 44 0)])
                    refine lv_iload X.1 X.2.1 d_Md_job_196 (lv_at hl 5 rfl) ?_
                    refine R_iast (k := 44) X hM (by decide) rfl g24 a_m_jobScript (fun _ => rfl) o22.1 o22.2 d_Md_job_198 (fun H locs hM => ?_)
                    refine lv_aload_n X.1 X.2.1 d_Md_job_199 rfl (lv_at hl 7 rfl) ?_
                    refine r_gets (q := 0) X hM rfl hR.1 f_Md_89 rfl (hR.2 26 (by decide)) d_Md_job_200 (fun g25 => ?_)
                    refine lv_aload_n X.1 X.2.1 d_Md_job_203 rfl (lv_at hl 7 rfl) ?_
                    refine R_geti (k := 18) X hM (by decide) rfl hR.1 f_Md_158 rfl d_Md_job_204 ?_
                    show W _ _ _ _ _ _ _ _ _ _ _ _ _ _ _ (F0 m 207 ls [.int (r 18 31), .ref (ad 45 0)])
                    refine lv_iconst (v := 0) X.1 X.2.1 d_Md_job_207 (by decide) ?_
                    refine R_iast (k := 45) X hM (by decide) rfl g25 a_m_outcome (fun _ => rfl) o22.1 o22.2 d_Md_job_208 (fun H locs hM => ?_)
                    refine lv_aload_n X.1 X.2.1 d_Md_job_209 rfl (lv_at hl 7 rfl) ?_
                    refine r_gets (q := 0) X hM rfl hR.1 f_Md_71 rfl (hR.2 20 (by decide)) d_Md_job_210 (fun g26 => ?_)
                    refine lv_aload_n X.1 X.2.1 d_Md_job_213 rfl (lv_at hl 7 rfl) ?_
                    refine R_geti (k := 18) X hM (by decide) rfl hR.1 f_Md_158 rfl d_Md_job_214 ?_
                    show W _ _ _ _ _ _ _ _ _ _ _ _ _ _ _ (F0 m 217 ls [.int (r 18 31), .ref (ad 39 0)])
                    refine lv_iconst (v := 0) X.1 X.2.1 d_Md_job_217 (by decide) ?_
                    refine R_zast (k := 39) X hM (by decide) rfl g26 a_m_begun (fun _ => rfl) o22.1 o22.2 rfl d_Md_job_218 (fun H locs hM => ?_)
                    refine lv_aload_n X.1 X.2.1 d_Md_job_219 rfl (lv_at hl 7 rfl) ?_
                    refine lv_dup X.1 X.2.1 d_Md_job_220 rfl ?_
                    refine R_geti (k := 18) X hM (by decide) rfl hR.1 f_Md_158 rfl d_Md_job_221 ?_
                    show W _ _ _ _ _ _ _ _ _ _ _ _ _ _ _ (F0 m 224 ls [.int (r 18 31), .ref (ad 18 0)])
                    refine lv_iconst (v := 1) X.1 X.2.1 d_Md_job_224 (by decide) ?_
                    refine lv_iadd X.1 X.2.1 d_Md_job_225 ?_
                    refine R_puti (k := 18) X hM (by decide) rfl hR.1 p_Md_158 rfl rfl rfl d_Md_job_226 (fun H locs hM => ?_)
                    refine lv_aload_n X.1 X.2.1 d_Md_job_229 rfl (lv_at hl 7 rfl) ?_
                    refine R_geti (k := 18) X hM (by decide) rfl hR.1 f_Md_158 rfl d_Md_job_230 ?_
                    show W _ _ _ _ _ _ _ _ _ _ _ _ _ _ _ (F0 m 233 ls [.int ((r 18 31) + 1)])
                    refine lv_iconst (v := 1) X.1 X.2.1 d_Md_job_233 (by decide) ?_
                    refine lv_isub X.1 X.2.1 d_Md_job_234 ?_
                    have heL : (((r 18 31) + 1) - 1, (ru (ru (ru (ru (ru (ru (ru r 18 34 0) 42 ((r 18 31).toNatClampNeg) v1) 43 ((r 18 31).toNatClampNeg) v2) 44 ((r 18 31).toNatClampNeg) v6) 45 ((r 18 31).toNatClampNeg) 0) 39 ((r 18 31).toNatClampNeg) 0) 18 31 ((r 18 31) + 1))) = F := ((if_pos h6).trans ((if_neg h7).trans ((if_neg h18).trans ((if_neg h19).trans ((if_neg h20)))))).symm.trans he
                    exact m_iret X hr hlk hM d_Md_job_235 ⟨Nat.le_of_ble_eq_true rfl, Nat.le_of_ble_eq_true rfl⟩ ⟨fun _ _ _ => rfl, fun _ => Nat.le_refl _⟩ ⟨congrArg (fun z => some (Value.int z.1)) heL, congrArg (fun z => rs M z.2) heL, rfl⟩
                  · skip
                    have hk := hk.1 h20
                    refine lv_aload_n X.1 X.2.1 d_Md_job_162 rfl (lv_at hl 7 rfl) ?_
                    refine lv_iconst (v := 2) X.1 X.2.1 d_Md_job_163 (by decide) ?_
                    refine r_cV (As := [.int 2]) (rest := []) X hml hl.1 hM (k_Md_fail l D dA base M ad hR (ru r 18 34 0) 2) c_Md_161 v_Md_fail kc_Md rfl hR.1 rfl (Nat.le_of_ble_eq_true rfl) ⟨rfl, rfl, Nat.le_of_ble_eq_true rfl, Nat.le_of_ble_eq_true rfl⟩ ⟨Nat.le_of_ble_eq_true rfl, Nat.le_of_ble_eq_true rfl⟩ d_Md_job_164 ?_
                    intro rv M1 ad1 H locs hP hM hE
                    obtain ⟨e1, e2, e3⟩ := hP
                    subst rv; subst M1; subst ad1
                    show W _ _ _ _ _ _ _ _ _ _ _ _ _ _ _ (F0 m 167 ls [.int ((m_fail (ru r 18 34 0) 2).1)])
                    have heL : ((m_fail (ru r 18 34 0) 2).1, (m_fail (ru r 18 34 0) 2).2) = F := ((if_pos h6).trans ((if_neg h7).trans ((if_neg h18).trans ((if_neg h19).trans ((if_pos h20)))))).symm.trans he
                    exact m_iret X hr hlk hM d_Md_job_167 ⟨Nat.le_of_ble_eq_true rfl, Nat.le_of_ble_eq_true rfl⟩ ⟨fun _ _ _ => rfl, fun _ => Nat.le_refl _⟩ ⟨congrArg (fun z => some (Value.int z.1)) heL, congrArg (fun z => rs M z.2) heL, rfl⟩
              · skip
                have hk := hk.1 h18
                refine lv_aload_n X.1 X.2.1 d_Md_job_122 rfl (lv_at hl 7 rfl) ?_
                refine r_gets (q := 0) X hM rfl hR.1 f_Md_86 rfl (hR.2 25 (by decide)) d_Md_job_123 (fun g27 => ?_)
                refine lv_iload X.1 X.2.1 d_Md_job_126 (lv_at hl 3 rfl) ?_
                refine R_iald (k := 44) X hM (by decide) rfl g27 a_m_jobScript (fun _ => rfl) o17.1 o17.2 d_Md_job_128 ?_
                show W _ _ _ _ _ _ _ _ _ _ _ _ _ _ _ (F0 m 129 ls [.int (r 44 (v4.toNatClampNeg))])
                refine lv_iload X.1 X.2.1 d_Md_job_129 (lv_at hl 5 rfl) ?_
                refine lv_icmp_ne (tgt := 147) X.1 X.2.1 d_Md_job_131 (by decide) (fun h28 => ?_) (fun h28 => ?_)
                · skip
                  have hk := hk.2 h28
                  refine lv_iload X.1 X.2.1 d_Md_job_147 (lv_at hl 4 rfl) ?_
                  refine lv_iconst (v := 4) X.1 X.2.1 d_Md_job_149 (by decide) ?_
                  refine lv_icmp_eq (tgt := 162) X.1 X.2.1 d_Md_job_150 (by decide) (fun h29 => ?_) (fun h29 => ?_)
                  · skip
                    have hk := hk.1 h29
                    refine lv_aload_n X.1 X.2.1 d_Md_job_162 rfl (lv_at hl 7 rfl) ?_
                    refine lv_iconst (v := 2) X.1 X.2.1 d_Md_job_163 (by decide) ?_
                    refine r_cV (As := [.int 2]) (rest := []) X hml hl.1 hM (k_Md_fail l D dA base M ad hR (ru r 18 34 0) 2) c_Md_161 v_Md_fail kc_Md rfl hR.1 rfl (Nat.le_of_ble_eq_true rfl) ⟨rfl, rfl, Nat.le_of_ble_eq_true rfl, Nat.le_of_ble_eq_true rfl⟩ ⟨Nat.le_of_ble_eq_true rfl, Nat.le_of_ble_eq_true rfl⟩ d_Md_job_164 ?_
                    intro rv M1 ad1 H locs hP hM hE
                    obtain ⟨e1, e2, e3⟩ := hP
                    subst rv; subst M1; subst ad1
                    show W _ _ _ _ _ _ _ _ _ _ _ _ _ _ _ (F0 m 167 ls [.int ((m_fail (ru r 18 34 0) 2).1)])
                    have heL : ((m_fail (ru r 18 34 0) 2).1, (m_fail (ru r 18 34 0) 2).2) = F := ((if_pos h6).trans ((if_neg h7).trans ((if_pos h18).trans ((if_neg h28).trans ((if_pos h29)))))).symm.trans he
                    exact m_iret X hr hlk hM d_Md_job_167 ⟨Nat.le_of_ble_eq_true rfl, Nat.le_of_ble_eq_true rfl⟩ ⟨fun _ _ _ => rfl, fun _ => Nat.le_refl _⟩ ⟨congrArg (fun z => some (Value.int z.1)) heL, congrArg (fun z => rs M z.2) heL, rfl⟩
                  · skip
                    have hk := hk.2 h29
                    refine lv_aload_n X.1 X.2.1 d_Md_job_153 rfl (lv_at hl 7 rfl) ?_
                    refine R_geti (k := 18) X hM (by decide) rfl hR.1 f_Md_158 rfl d_Md_job_154 ?_
                    show W _ _ _ _ _ _ _ _ _ _ _ _ _ _ _ (F0 m 157 ls [.int (r 18 31)])
                    refine lv_bipush (v := 60) X.1 X.2.1 d_Md_job_157 (by decide) ?_
                    refine lv_icmp_ne (tgt := 168) X.1 X.2.1 d_Md_job_159 (by decide) (fun h30 => ?_) (fun h30 => ?_)
                    · skip
                      have hk := hk.2 h30
                      refine lv_aload_n X.1 X.2.1 d_Md_job_168 rfl (lv_at hl 7 rfl) ?_
                      refine r_gets (q := 0) X hM rfl hR.1 f_Md_80 rfl (hR.2 23 (by decide)) d_Md_job_169 (fun g31 => ?_)
                      refine lv_aload_n X.1 X.2.1 d_Md_job_172 rfl (lv_at hl 7 rfl) ?_
                      refine R_geti (k := 18) X hM (by decide) rfl hR.1 f_Md_158 rfl d_Md_job_173 ?_
                      show W _ _ _ _ _ _ _ _ _ _ _ _ _ _ _ (F0 m 176 ls [.int (r 18 31), .ref (ad 42 0)])
                      refine lv_iload_n X.1 X.2.1 d_Md_job_176 rfl (lv_at hl 0 rfl) ?_
                      have o32 := hk
                      refine R_iast (k := 42) X hM (by decide) rfl g31 a_m_kind (fun _ => rfl) o32.1 o32.2 d_Md_job_177 (fun H locs hM => ?_)
                      refine lv_aload_n X.1 X.2.1 d_Md_job_178 rfl (lv_at hl 7 rfl) ?_
                      refine r_gets (q := 0) X hM rfl hR.1 f_Md_83 rfl (hR.2 24 (by decide)) d_Md_job_179 (fun g33 => ?_)
                      refine lv_aload_n X.1 X.2.1 d_Md_job_182 rfl (lv_at hl 7 rfl) ?_
                      refine R_geti (k := 18) X hM (by decide) rfl hR.1 f_Md_158 rfl d_Md_job_183 ?_
                      show W _ _ _ _ _ _ _ _ _ _ _ _ _ _ _ (F0 m 186 ls [.int (r 18 31), .ref (ad 43 0)])
                      refine lv_iload_n X.1 X.2.1 d_Md_job_186 rfl (lv_at hl 1 rfl) ?_
                      refine R_iast (k := 43) X hM (by decide) rfl g33 a_m_jobScope (fun _ => rfl) o32.1 o32.2 d_Md_job_187 (fun H locs hM => ?_)
                      refine lv_aload_n X.1 X.2.1 d_Md_job_188 rfl (lv_at hl 7 rfl) ?_
                      refine r_gets (q := 0) X hM rfl hR.1 f_Md_86 rfl (hR.2 25 (by decide)) d_Md_job_189 (fun g34 => ?_)
                      refine lv_aload_n X.1 X.2.1 d_Md_job_192 rfl (lv_at hl 7 rfl) ?_
                      refine R_geti (k := 18) X hM (by decide) rfl hR.1 f_Md_158 rfl d_Md_job_193 ?_
                      show W _ _ _ _ _ _ _ _ _ _ _ _ _ _ _ (F0 m 196 ls [.int (r 18 31), .ref (ad 44 0)])
                      refine lv_iload X.1 X.2.1 d_Md_job_196 (lv_at hl 5 rfl) ?_
                      refine R_iast (k := 44) X hM (by decide) rfl g34 a_m_jobScript (fun _ => rfl) o32.1 o32.2 d_Md_job_198 (fun H locs hM => ?_)
                      refine lv_aload_n X.1 X.2.1 d_Md_job_199 rfl (lv_at hl 7 rfl) ?_
                      refine r_gets (q := 0) X hM rfl hR.1 f_Md_89 rfl (hR.2 26 (by decide)) d_Md_job_200 (fun g35 => ?_)
                      refine lv_aload_n X.1 X.2.1 d_Md_job_203 rfl (lv_at hl 7 rfl) ?_
                      refine R_geti (k := 18) X hM (by decide) rfl hR.1 f_Md_158 rfl d_Md_job_204 ?_
                      show W _ _ _ _ _ _ _ _ _ _ _ _ _ _ _ (F0 m 207 ls [.int (r 18 31), .ref (ad 45 0)])
                      refine lv_iconst (v := 0) X.1 X.2.1 d_Md_job_207 (by decide) ?_
                      refine R_iast (k := 45) X hM (by decide) rfl g35 a_m_outcome (fun _ => rfl) o32.1 o32.2 d_Md_job_208 (fun H locs hM => ?_)
                      refine lv_aload_n X.1 X.2.1 d_Md_job_209 rfl (lv_at hl 7 rfl) ?_
                      refine r_gets (q := 0) X hM rfl hR.1 f_Md_71 rfl (hR.2 20 (by decide)) d_Md_job_210 (fun g36 => ?_)
                      refine lv_aload_n X.1 X.2.1 d_Md_job_213 rfl (lv_at hl 7 rfl) ?_
                      refine R_geti (k := 18) X hM (by decide) rfl hR.1 f_Md_158 rfl d_Md_job_214 ?_
                      show W _ _ _ _ _ _ _ _ _ _ _ _ _ _ _ (F0 m 217 ls [.int (r 18 31), .ref (ad 39 0)])
                      refine lv_iconst (v := 0) X.1 X.2.1 d_Md_job_217 (by decide) ?_
                      refine R_zast (k := 39) X hM (by decide) rfl g36 a_m_begun (fun _ => rfl) o32.1 o32.2 rfl d_Md_job_218 (fun H locs hM => ?_)
                      refine lv_aload_n X.1 X.2.1 d_Md_job_219 rfl (lv_at hl 7 rfl) ?_
                      refine lv_dup X.1 X.2.1 d_Md_job_220 rfl ?_
                      refine R_geti (k := 18) X hM (by decide) rfl hR.1 f_Md_158 rfl d_Md_job_221 ?_
                      show W _ _ _ _ _ _ _ _ _ _ _ _ _ _ _ (F0 m 224 ls [.int (r 18 31), .ref (ad 18 0)])
                      refine lv_iconst (v := 1) X.1 X.2.1 d_Md_job_224 (by decide) ?_
                      refine lv_iadd X.1 X.2.1 d_Md_job_225 ?_
                      refine R_puti (k := 18) X hM (by decide) rfl hR.1 p_Md_158 rfl rfl rfl d_Md_job_226 (fun H locs hM => ?_)
                      refine lv_aload_n X.1 X.2.1 d_Md_job_229 rfl (lv_at hl 7 rfl) ?_
                      refine R_geti (k := 18) X hM (by decide) rfl hR.1 f_Md_158 rfl d_Md_job_230 ?_
                      show W _ _ _ _ _ _ _ _ _ _ _ _ _ _ _ (F0 m 233 ls [.int ((r 18 31) + 1)])
                      refine lv_iconst (v := 1) X.1 X.2.1 d_Md_job_233 (by decide) ?_
                      refine lv_isub X.1 X.2.1 d_Md_job_234 ?_
                      have heL : (((r 18 31) + 1) - 1, (ru (ru (ru (ru (ru (ru (ru r 18 34 0) 42 ((r 18 31).toNatClampNeg) v1) 43 ((r 18 31).toNatClampNeg) v2) 44 ((r 18 31).toNatClampNeg) v6) 45 ((r 18 31).toNatClampNeg) 0) 39 ((r 18 31).toNatClampNeg) 0) 18 31 ((r 18 31) + 1))) = F := ((if_pos h6).trans ((if_neg h7).trans ((if_pos h18).trans ((if_neg h28).trans ((if_neg h29).trans ((if_neg h30))))))).symm.trans he
                      exact m_iret X hr hlk hM d_Md_job_235 ⟨Nat.le_of_ble_eq_true rfl, Nat.le_of_ble_eq_true rfl⟩ ⟨fun _ _ _ => rfl, fun _ => Nat.le_refl _⟩ ⟨congrArg (fun z => some (Value.int z.1)) heL, congrArg (fun z => rs M z.2) heL, rfl⟩
                    · skip
                      have hk := hk.1 h30
                      refine lv_aload_n X.1 X.2.1 d_Md_job_162 rfl (lv_at hl 7 rfl) ?_
                      refine lv_iconst (v := 2) X.1 X.2.1 d_Md_job_163 (by decide) ?_
                      refine r_cV (As := [.int 2]) (rest := []) X hml hl.1 hM (k_Md_fail l D dA base M ad hR (ru r 18 34 0) 2) c_Md_161 v_Md_fail kc_Md rfl hR.1 rfl (Nat.le_of_ble_eq_true rfl) ⟨rfl, rfl, Nat.le_of_ble_eq_true rfl, Nat.le_of_ble_eq_true rfl⟩ ⟨Nat.le_of_ble_eq_true rfl, Nat.le_of_ble_eq_true rfl⟩ d_Md_job_164 ?_
                      intro rv M1 ad1 H locs hP hM hE
                      obtain ⟨e1, e2, e3⟩ := hP
                      subst rv; subst M1; subst ad1
                      show W _ _ _ _ _ _ _ _ _ _ _ _ _ _ _ (F0 m 167 ls [.int ((m_fail (ru r 18 34 0) 2).1)])
                      have heL : ((m_fail (ru r 18 34 0) 2).1, (m_fail (ru r 18 34 0) 2).2) = F := ((if_pos h6).trans ((if_neg h7).trans ((if_pos h18).trans ((if_neg h28).trans ((if_neg h29).trans ((if_pos h30))))))).symm.trans he
                      exact m_iret X hr hlk hM d_Md_job_167 ⟨Nat.le_of_ble_eq_true rfl, Nat.le_of_ble_eq_true rfl⟩ ⟨fun _ _ _ => rfl, fun _ => Nat.le_refl _⟩ ⟨congrArg (fun z => some (Value.int z.1)) heL, congrArg (fun z => rs M z.2) heL, rfl⟩
                · skip
                  have hk := hk.1 h28
                  refine lv_aload_n X.1 X.2.1 d_Md_job_134 rfl (lv_at hl 7 rfl) ?_
                  refine r_gets (q := 0) X hM rfl hR.1 f_Md_71 rfl (hR.2 20 (by decide)) d_Md_job_135 (fun g37 => ?_)
                  refine lv_iload X.1 X.2.1 d_Md_job_138 (lv_at hl 3 rfl) ?_
                  refine R_zald (k := 39) X hM (by decide) rfl g37 a_m_begun (fun _ => rfl) o17.1 o17.2 d_Md_job_140 ?_
                  show W _ _ _ _ _ _ _ _ _ _ _ _ _ _ _ (F0 m 141 ls [.int (r 39 (v4.toNatClampNeg))])
                  refine lv_if_ne (tgt := 147) X.1 X.2.1 d_Md_job_141 (by decide) (fun h38 => ?_) (fun h38 => ?_)
                  · skip
                    have hk := hk.2 h38
                    refine lv_iload X.1 X.2.1 d_Md_job_147 (lv_at hl 4 rfl) ?_
                    refine lv_iconst (v := 4) X.1 X.2.1 d_Md_job_149 (by decide) ?_
                    refine lv_icmp_eq (tgt := 162) X.1 X.2.1 d_Md_job_150 (by decide) (fun h39 => ?_) (fun h39 => ?_)
                    · skip
                      have hk := hk.1 h39
                      refine lv_aload_n X.1 X.2.1 d_Md_job_162 rfl (lv_at hl 7 rfl) ?_
                      refine lv_iconst (v := 2) X.1 X.2.1 d_Md_job_163 (by decide) ?_
                      refine r_cV (As := [.int 2]) (rest := []) X hml hl.1 hM (k_Md_fail l D dA base M ad hR (ru r 18 34 0) 2) c_Md_161 v_Md_fail kc_Md rfl hR.1 rfl (Nat.le_of_ble_eq_true rfl) ⟨rfl, rfl, Nat.le_of_ble_eq_true rfl, Nat.le_of_ble_eq_true rfl⟩ ⟨Nat.le_of_ble_eq_true rfl, Nat.le_of_ble_eq_true rfl⟩ d_Md_job_164 ?_
                      intro rv M1 ad1 H locs hP hM hE
                      obtain ⟨e1, e2, e3⟩ := hP
                      subst rv; subst M1; subst ad1
                      show W _ _ _ _ _ _ _ _ _ _ _ _ _ _ _ (F0 m 167 ls [.int ((m_fail (ru r 18 34 0) 2).1)])
                      have heL : ((m_fail (ru r 18 34 0) 2).1, (m_fail (ru r 18 34 0) 2).2) = F := ((if_pos h6).trans ((if_neg h7).trans ((if_pos h18).trans ((if_pos h28).trans ((if_neg h38).trans ((if_pos h39))))))).symm.trans he
                      exact m_iret X hr hlk hM d_Md_job_167 ⟨Nat.le_of_ble_eq_true rfl, Nat.le_of_ble_eq_true rfl⟩ ⟨fun _ _ _ => rfl, fun _ => Nat.le_refl _⟩ ⟨congrArg (fun z => some (Value.int z.1)) heL, congrArg (fun z => rs M z.2) heL, rfl⟩
                    · skip
                      have hk := hk.2 h39
                      refine lv_aload_n X.1 X.2.1 d_Md_job_153 rfl (lv_at hl 7 rfl) ?_
                      refine R_geti (k := 18) X hM (by decide) rfl hR.1 f_Md_158 rfl d_Md_job_154 ?_
                      show W _ _ _ _ _ _ _ _ _ _ _ _ _ _ _ (F0 m 157 ls [.int (r 18 31)])
                      refine lv_bipush (v := 60) X.1 X.2.1 d_Md_job_157 (by decide) ?_
                      refine lv_icmp_ne (tgt := 168) X.1 X.2.1 d_Md_job_159 (by decide) (fun h40 => ?_) (fun h40 => ?_)
                      · skip
                        have hk := hk.2 h40
                        refine lv_aload_n X.1 X.2.1 d_Md_job_168 rfl (lv_at hl 7 rfl) ?_
                        refine r_gets (q := 0) X hM rfl hR.1 f_Md_80 rfl (hR.2 23 (by decide)) d_Md_job_169 (fun g41 => ?_)
                        refine lv_aload_n X.1 X.2.1 d_Md_job_172 rfl (lv_at hl 7 rfl) ?_
                        refine R_geti (k := 18) X hM (by decide) rfl hR.1 f_Md_158 rfl d_Md_job_173 ?_
                        show W _ _ _ _ _ _ _ _ _ _ _ _ _ _ _ (F0 m 176 ls [.int (r 18 31), .ref (ad 42 0)])
                        refine lv_iload_n X.1 X.2.1 d_Md_job_176 rfl (lv_at hl 0 rfl) ?_
                        have o42 := hk
                        refine R_iast (k := 42) X hM (by decide) rfl g41 a_m_kind (fun _ => rfl) o42.1 o42.2 d_Md_job_177 (fun H locs hM => ?_)
                        refine lv_aload_n X.1 X.2.1 d_Md_job_178 rfl (lv_at hl 7 rfl) ?_
                        refine r_gets (q := 0) X hM rfl hR.1 f_Md_83 rfl (hR.2 24 (by decide)) d_Md_job_179 (fun g43 => ?_)
                        refine lv_aload_n X.1 X.2.1 d_Md_job_182 rfl (lv_at hl 7 rfl) ?_
                        refine R_geti (k := 18) X hM (by decide) rfl hR.1 f_Md_158 rfl d_Md_job_183 ?_
                        show W _ _ _ _ _ _ _ _ _ _ _ _ _ _ _ (F0 m 186 ls [.int (r 18 31), .ref (ad 43 0)])
                        refine lv_iload_n X.1 X.2.1 d_Md_job_186 rfl (lv_at hl 1 rfl) ?_
                        refine R_iast (k := 43) X hM (by decide) rfl g43 a_m_jobScope (fun _ => rfl) o42.1 o42.2 d_Md_job_187 (fun H locs hM => ?_)
                        refine lv_aload_n X.1 X.2.1 d_Md_job_188 rfl (lv_at hl 7 rfl) ?_
                        refine r_gets (q := 0) X hM rfl hR.1 f_Md_86 rfl (hR.2 25 (by decide)) d_Md_job_189 (fun g44 => ?_)
                        refine lv_aload_n X.1 X.2.1 d_Md_job_192 rfl (lv_at hl 7 rfl) ?_
                        refine R_geti (k := 18) X hM (by decide) rfl hR.1 f_Md_158 rfl d_Md_job_193 ?_
                        show W _ _ _ _ _ _ _ _ _ _ _ _ _ _ _ (F0 m 196 ls [.int (r 18 31), .ref (ad 44 0)])
                        refine lv_iload X.1 X.2.1 d_Md_job_196 (lv_at hl 5 rfl) ?_
                        refine R_iast (k := 44) X hM (by decide) rfl g44 a_m_jobScript (fun _ => rfl) o42.1 o42.2 d_Md_job_198 (fun H locs hM => ?_)
                        refine lv_aload_n X.1 X.2.1 d_Md_job_199 rfl (lv_at hl 7 rfl) ?_
                        refine r_gets (q := 0) X hM rfl hR.1 f_Md_89 rfl (hR.2 26 (by decide)) d_Md_job_200 (fun g45 => ?_)
                        refine lv_aload_n X.1 X.2.1 d_Md_job_203 rfl (lv_at hl 7 rfl) ?_
                        refine R_geti (k := 18) X hM (by decide) rfl hR.1 f_Md_158 rfl d_Md_job_204 ?_
                        show W _ _ _ _ _ _ _ _ _ _ _ _ _ _ _ (F0 m 207 ls [.int (r 18 31), .ref (ad 45 0)])
                        refine lv_iconst (v := 0) X.1 X.2.1 d_Md_job_207 (by decide) ?_
                        refine R_iast (k := 45) X hM (by decide) rfl g45 a_m_outcome (fun _ => rfl) o42.1 o42.2 d_Md_job_208 (fun H locs hM => ?_)
                        refine lv_aload_n X.1 X.2.1 d_Md_job_209 rfl (lv_at hl 7 rfl) ?_
                        refine r_gets (q := 0) X hM rfl hR.1 f_Md_71 rfl (hR.2 20 (by decide)) d_Md_job_210 (fun g46 => ?_)
                        refine lv_aload_n X.1 X.2.1 d_Md_job_213 rfl (lv_at hl 7 rfl) ?_
                        refine R_geti (k := 18) X hM (by decide) rfl hR.1 f_Md_158 rfl d_Md_job_214 ?_
                        show W _ _ _ _ _ _ _ _ _ _ _ _ _ _ _ (F0 m 217 ls [.int (r 18 31), .ref (ad 39 0)])
                        refine lv_iconst (v := 0) X.1 X.2.1 d_Md_job_217 (by decide) ?_
                        refine R_zast (k := 39) X hM (by decide) rfl g46 a_m_begun (fun _ => rfl) o42.1 o42.2 rfl d_Md_job_218 (fun H locs hM => ?_)
                        refine lv_aload_n X.1 X.2.1 d_Md_job_219 rfl (lv_at hl 7 rfl) ?_
                        refine lv_dup X.1 X.2.1 d_Md_job_220 rfl ?_
                        refine R_geti (k := 18) X hM (by decide) rfl hR.1 f_Md_158 rfl d_Md_job_221 ?_
                        show W _ _ _ _ _ _ _ _ _ _ _ _ _ _ _ (F0 m 224 ls [.int (r 18 31), .ref (ad 18 0)])
                        refine lv_iconst (v := 1) X.1 X.2.1 d_Md_job_224 (by decide) ?_
                        refine lv_iadd X.1 X.2.1 d_Md_job_225 ?_
                        refine R_puti (k := 18) X hM (by decide) rfl hR.1 p_Md_158 rfl rfl rfl d_Md_job_226 (fun H locs hM => ?_)
                        refine lv_aload_n X.1 X.2.1 d_Md_job_229 rfl (lv_at hl 7 rfl) ?_
                        refine R_geti (k := 18) X hM (by decide) rfl hR.1 f_Md_158 rfl d_Md_job_230 ?_
                        show W _ _ _ _ _ _ _ _ _ _ _ _ _ _ _ (F0 m 233 ls [.int ((r 18 31) + 1)])
                        refine lv_iconst (v := 1) X.1 X.2.1 d_Md_job_233 (by decide) ?_
                        refine lv_isub X.1 X.2.1 d_Md_job_234 ?_
                        have heL : (((r 18 31) + 1) - 1, (ru (ru (ru (ru (ru (ru (ru r 18 34 0) 42 ((r 18 31).toNatClampNeg) v1) 43 ((r 18 31).toNatClampNeg) v2) 44 ((r 18 31).toNatClampNeg) v6) 45 ((r 18 31).toNatClampNeg) 0) 39 ((r 18 31).toNatClampNeg) 0) 18 31 ((r 18 31) + 1))) = F := ((if_pos h6).trans ((if_neg h7).trans ((if_pos h18).trans ((if_pos h28).trans ((if_neg h38).trans ((if_neg h39).trans ((if_neg h40)))))))).symm.trans he
                        exact m_iret X hr hlk hM d_Md_job_235 ⟨Nat.le_of_ble_eq_true rfl, Nat.le_of_ble_eq_true rfl⟩ ⟨fun _ _ _ => rfl, fun _ => Nat.le_refl _⟩ ⟨congrArg (fun z => some (Value.int z.1)) heL, congrArg (fun z => rs M z.2) heL, rfl⟩
                      · skip
                        have hk := hk.1 h40
                        refine lv_aload_n X.1 X.2.1 d_Md_job_162 rfl (lv_at hl 7 rfl) ?_
                        refine lv_iconst (v := 2) X.1 X.2.1 d_Md_job_163 (by decide) ?_
                        refine r_cV (As := [.int 2]) (rest := []) X hml hl.1 hM (k_Md_fail l D dA base M ad hR (ru r 18 34 0) 2) c_Md_161 v_Md_fail kc_Md rfl hR.1 rfl (Nat.le_of_ble_eq_true rfl) ⟨rfl, rfl, Nat.le_of_ble_eq_true rfl, Nat.le_of_ble_eq_true rfl⟩ ⟨Nat.le_of_ble_eq_true rfl, Nat.le_of_ble_eq_true rfl⟩ d_Md_job_164 ?_
                        intro rv M1 ad1 H locs hP hM hE
                        obtain ⟨e1, e2, e3⟩ := hP
                        subst rv; subst M1; subst ad1
                        show W _ _ _ _ _ _ _ _ _ _ _ _ _ _ _ (F0 m 167 ls [.int ((m_fail (ru r 18 34 0) 2).1)])
                        have heL : ((m_fail (ru r 18 34 0) 2).1, (m_fail (ru r 18 34 0) 2).2) = F := ((if_pos h6).trans ((if_neg h7).trans ((if_pos h18).trans ((if_pos h28).trans ((if_neg h38).trans ((if_neg h39).trans ((if_pos h40)))))))).symm.trans he
                        exact m_iret X hr hlk hM d_Md_job_167 ⟨Nat.le_of_ble_eq_true rfl, Nat.le_of_ble_eq_true rfl⟩ ⟨fun _ _ _ => rfl, fun _ => Nat.le_refl _⟩ ⟨congrArg (fun z => some (Value.int z.1)) heL, congrArg (fun z => rs M z.2) heL, rfl⟩
                  · skip
                    have hk := hk.1 h38
                    refine lv_iload X.1 X.2.1 d_Md_job_144 (lv_at hl 3 rfl) ?_
                    have heL : (v4, (ru r 18 34 0)) = F := ((if_pos h6).trans ((if_neg h7).trans ((if_pos h18).trans ((if_pos h28).trans ((if_pos h38)))))).symm.trans he
                    exact m_iret X hr hlk hM d_Md_job_146 ⟨Nat.le_of_ble_eq_true rfl, Nat.le_of_ble_eq_true rfl⟩ ⟨fun _ _ _ => rfl, fun _ => Nat.le_refl _⟩ ⟨congrArg (fun z => some (Value.int z.1)) heL, congrArg (fun z => rs M z.2) heL, rfl⟩
          · skip
            have hk := hk.2 h6
            refine lv_aload_n X.1 X.2.1 d_Md_job_64 rfl (lv_at hl 7 rfl) ?_
            refine r_gets (q := 0) X hM rfl hR.1 f_Md_83 rfl (hR.2 24 (by decide)) d_Md_job_65 (fun g47 => ?_)
            refine lv_iload X.1 X.2.1 d_Md_job_68 (lv_at hl 6 rfl) ?_
            obtain ⟨o48, hk⟩ := hk
            refine R_iald (k := 43) X hM (by decide) rfl g47 a_m_jobScope (fun _ => rfl) o48.1 o48.2 d_Md_job_70 ?_
            refine lv_iload_n X.1 X.2.1 d_Md_job_71 rfl (lv_at hl 1 rfl) ?_
            refine lv_icmp_ne (tgt := 95) X.1 X.2.1 d_Md_job_72 (by decide) (fun h49 => ?_) (fun h49 => ?_)
            · skip
              have hk := hk.2 h49
              refine lv_iinc (v := v7 + 1) (lv' := [(7, .int (v7 + 1)), (1, .int v1), (2, .int v2), (3, .int v3), (4, .int v4), (5, .int v5), (6, .int v6), (0, .ref (ad 18 0))]) X.1 X.2.1 d_Md_job_95 hl (k := 6) rfl rfl (by decide) rfl (fun ls hl => ?_)
              refine lv_goto (tgt := 55) X.1 X.2.1 d_Md_job_98 (by decide) ?_
              exact ih _ _ ls ⟨_, _, _, _, _, _, _, _, hM, lv_sub hl [1, 2, 3, 4, 5, 6, 0, 7] rfl, hk, ((if_neg h6).trans ((if_neg h49))).symm.trans he⟩
            · skip
              have hk := hk.1 h49
              refine lv_aload_n X.1 X.2.1 d_Md_job_75 rfl (lv_at hl 7 rfl) ?_
              refine r_gets (q := 0) X hM rfl hR.1 f_Md_89 rfl (hR.2 26 (by decide)) d_Md_job_76 (fun g50 => ?_)
              refine lv_iload X.1 X.2.1 d_Md_job_79 (lv_at hl 6 rfl) ?_
              refine R_iald (k := 45) X hM (by decide) rfl g50 a_m_outcome (fun _ => rfl) o48.1 o48.2 d_Md_job_81 ?_
              refine lv_if_eq (tgt := 88) X.1 X.2.1 d_Md_job_82 (by decide) (fun h51 => ?_) (fun h51 => ?_)
              · skip
                have hk := hk.1 h51
                refine lv_iload X.1 X.2.1 d_Md_job_88 (lv_at hl 6 rfl) ?_
                refine lv_istore (lv' := [(4, .int v7), (1, .int v1), (2, .int v2), (3, .int v3), (5, .int v5), (6, .int v6), (7, .int v7), (0, .ref (ad 18 0))]) X.1 X.2.1 d_Md_job_90 hl (by decide) rfl (fun ls hl => ?_)
                refine lv_iinc (v := v5 + 1) (lv' := [(5, .int (v5 + 1)), (4, .int v7), (1, .int v1), (2, .int v2), (3, .int v3), (6, .int v6), (7, .int v7), (0, .ref (ad 18 0))]) X.1 X.2.1 d_Md_job_92 hl (k := 4) rfl rfl (by decide) rfl (fun ls hl => ?_)
                refine lv_iinc (v := v7 + 1) (lv' := [(7, .int (v7 + 1)), (5, .int (v5 + 1)), (4, .int v7), (1, .int v1), (2, .int v2), (3, .int v3), (6, .int v6), (0, .ref (ad 18 0))]) X.1 X.2.1 d_Md_job_95 hl (k := 6) rfl rfl (by decide) rfl (fun ls hl => ?_)
                refine lv_goto (tgt := 55) X.1 X.2.1 d_Md_job_98 (by decide) ?_
                exact ih _ _ ls ⟨_, _, _, _, _, _, _, _, hM, lv_sub hl [3, 4, 5, 2, 1, 6, 0, 7] rfl, hk, ((if_neg h6).trans ((if_pos h49).trans ((if_pos h51)))).symm.trans he⟩
              · skip
                have hk := hk.2 h51
                refine lv_goto (tgt := 95) X.1 X.2.1 d_Md_job_85 (by decide) ?_
                refine lv_iinc (v := v7 + 1) (lv' := [(7, .int (v7 + 1)), (1, .int v1), (2, .int v2), (3, .int v3), (4, .int v4), (5, .int v5), (6, .int v6), (0, .ref (ad 18 0))]) X.1 X.2.1 d_Md_job_95 hl (k := 6) rfl rfl (by decide) rfl (fun ls hl => ?_)
                refine lv_goto (tgt := 55) X.1 X.2.1 d_Md_job_98 (by decide) ?_
                exact ih _ _ ls ⟨_, _, _, _, _, _, _, _, hM, lv_sub hl [1, 2, 3, 4, 5, 6, 0, 7] rfl, hk, ((if_neg h6).trans ((if_pos h49).trans ((if_neg h51)))).symm.trans he⟩
      · skip
        have hk := hk.1 h4
        refine lv_iload_n X.1 X.2.1 d_Md_job_20 rfl (lv_at hl 3 rfl) ?_
        refine lv_iconst (v := 0) X.1 X.2.1 d_Md_job_21 (by decide) ?_
        refine lv_iconst (v := 3) X.1 X.2.1 d_Md_job_22 (by decide) ?_
        refine r_cS (As := [.int a2, .int 0, .int 3]) (rest := []) X hml hl.1 hM (k_Md_in l D dA base (rs M r) ad a2 0 3) c_Md_103 v_Md_in rfl (Nat.le_of_ble_eq_true rfl) ⟨rfl, rfl, Nat.le_of_ble_eq_true rfl, Nat.le_of_ble_eq_true rfl⟩ ⟨Nat.le_of_ble_eq_true rfl, Nat.le_of_ble_eq_true rfl⟩ d_Md_job_23 ?_
        intro rv M1 ad1 H locs hP hM hE
        obtain ⟨e1, e2, e3⟩ := hP
        subst rv; subst M1; subst ad1
        show W _ _ _ _ _ _ _ _ _ _ _ _ _ _ _ (F0 m 26 ls [.int (m_in a2 0 3)])
        refine lv_if_ne (tgt := 35) X.1 X.2.1 d_Md_job_26 (by decide) (fun h52 => ?_) (fun h52 => ?_)
        · skip
          have hk := hk.2 h52
          refine lv_iconst (v := (-1)) X.1 X.2.1 d_Md_job_35 (by decide) ?_
          refine lv_istore (lv' := [(4, .int (-1)), (0, .ref (ad 18 0)), (1, .int a0), (2, .int a1), (3, .int a2)]) X.1 X.2.1 d_Md_job_36 hl (by decide) rfl (fun ls hl => ?_)
          refine lv_iconst (v := 0) X.1 X.2.1 d_Md_job_38 (by decide) ?_
          refine lv_istore (lv' := [(5, .int 0), (4, .int (-1)), (0, .ref (ad 18 0)), (1, .int a0), (2, .int a1), (3, .int a2)]) X.1 X.2.1 d_Md_job_39 hl (by decide) rfl (fun ls hl => ?_)
          refine lv_iload_n X.1 X.2.1 d_Md_job_41 rfl (lv_at hl 3 rfl) ?_
          refine lv_if_ne (tgt := 49) X.1 X.2.1 d_Md_job_42 (by decide) (fun h53 => absurd h4 h53) (fun h53 => ?_)
          refine lv_iload_n X.1 X.2.1 d_Md_job_45 rfl (lv_at hl 5 rfl) ?_
          refine lv_goto (tgt := 50) X.1 X.2.1 d_Md_job_46 (by decide) ?_
          refine lv_istore (lv' := [(6, .int a2), (5, .int 0), (4, .int (-1)), (0, .ref (ad 18 0)), (1, .int a0), (2, .int a1), (3, .int a2)]) X.1 X.2.1 d_Md_job_50 hl (by decide) rfl (fun ls hl => ?_)
          refine lv_iconst (v := 0) X.1 X.2.1 d_Md_job_52 (by decide) ?_
          refine lv_istore (lv' := [(7, .int 0), (6, .int a2), (5, .int 0), (4, .int (-1)), (0, .ref (ad 18 0)), (1, .int a0), (2, .int a1), (3, .int a2)]) X.1 X.2.1 d_Md_job_53 hl (by decide) rfl (fun ls hl => ?_)
          refine w_downW (fun ls => F0 m 55 ls []) (fun n H L ls => ∃ (r : rR) (v1 : Int32) (v2 : Int32) (v3 : Int32) (v4 : Int32) (v5 : Int32) (v6 : Int32) (v7 : Int32), mSt D dA base (rs M r) ad s.heap H L ∧ lv_has ls 8 [(1, .int v1), (2, .int v2), (3, .int v3), (4, .int v4), (5, .int v5), (6, .int v6), (7, .int v7), (0, .ref (ad 18 0))] ∧ m_job_L55_ok n r v1 v2 v3 v4 v5 v6 v7 ∧ m_job_L55 n r v1 v2 v3 v4 v5 v6 v7 = F) ?_ ?_ 61 _ _ ls ⟨r, a0, a1, a2, (-1), 0, a2, 0, hM, lv_sub hl [5, 6, 7, 3, 2, 1, 0, 4] rfl, hk, ((if_neg h1).trans ((if_neg h3).trans ((if_pos h4).trans ((if_neg h52))))).symm.trans he⟩
          · rintro H locs ls ⟨r, v1, v2, v3, v4, v5, v6, v7, hM, hl, hk, he⟩
            exact hk.elim
          · rintro n ih H locs ls ⟨r, v1, v2, v3, v4, v5, v6, v7, hM, hl, hk, he⟩
            refine lv_iload X.1 X.2.1 d_Md_job_55 (lv_at hl 6 rfl) ?_
            refine lv_aload_n X.1 X.2.1 d_Md_job_57 rfl (lv_at hl 7 rfl) ?_
            refine R_geti (k := 18) X hM (by decide) rfl hR.1 f_Md_158 rfl d_Md_job_58 ?_
            refine lv_icmp_ge (tgt := 101) X.1 X.2.1 d_Md_job_61 (by decide) (fun h54 => ?_) (fun h54 => ?_)
            · skip
              have hk := hk.1 h54
              refine lv_aload_n X.1 X.2.1 d_Md_job_101 rfl (lv_at hl 7 rfl) ?_
              refine lv_iconst (v := 0) X.1 X.2.1 d_Md_job_102 (by decide) ?_
              refine R_puti (k := 18) X hM (by decide) rfl hR.1 p_Md_98 rfl rfl rfl d_Md_job_103 (fun H locs hM => ?_)
              refine lv_iload X.1 X.2.1 d_Md_job_106 (lv_at hl 3 rfl) ?_
              refine lv_if_lt (tgt := 147) X.1 X.2.1 d_Md_job_108 (by decide) (fun h55 => ?_) (fun h55 => ?_)
              · skip
                have hk := hk.1 h55
                refine lv_iload X.1 X.2.1 d_Md_job_147 (lv_at hl 4 rfl) ?_
                refine lv_iconst (v := 4) X.1 X.2.1 d_Md_job_149 (by decide) ?_
                refine lv_icmp_eq (tgt := 162) X.1 X.2.1 d_Md_job_150 (by decide) (fun h56 => ?_) (fun h56 => ?_)
                · skip
                  have hk := hk.1 h56
                  refine lv_aload_n X.1 X.2.1 d_Md_job_162 rfl (lv_at hl 7 rfl) ?_
                  refine lv_iconst (v := 2) X.1 X.2.1 d_Md_job_163 (by decide) ?_
                  refine r_cV (As := [.int 2]) (rest := []) X hml hl.1 hM (k_Md_fail l D dA base M ad hR (ru r 18 34 0) 2) c_Md_161 v_Md_fail kc_Md rfl hR.1 rfl (Nat.le_of_ble_eq_true rfl) ⟨rfl, rfl, Nat.le_of_ble_eq_true rfl, Nat.le_of_ble_eq_true rfl⟩ ⟨Nat.le_of_ble_eq_true rfl, Nat.le_of_ble_eq_true rfl⟩ d_Md_job_164 ?_
                  intro rv M1 ad1 H locs hP hM hE
                  obtain ⟨e1, e2, e3⟩ := hP
                  subst rv; subst M1; subst ad1
                  show W _ _ _ _ _ _ _ _ _ _ _ _ _ _ _ (F0 m 167 ls [.int ((m_fail (ru r 18 34 0) 2).1)])
                  have heL : ((m_fail (ru r 18 34 0) 2).1, (m_fail (ru r 18 34 0) 2).2) = F := ((if_pos h54).trans ((if_pos h55).trans ((if_pos h56)))).symm.trans he
                  exact m_iret X hr hlk hM d_Md_job_167 ⟨Nat.le_of_ble_eq_true rfl, Nat.le_of_ble_eq_true rfl⟩ ⟨fun _ _ _ => rfl, fun _ => Nat.le_refl _⟩ ⟨congrArg (fun z => some (Value.int z.1)) heL, congrArg (fun z => rs M z.2) heL, rfl⟩
                · skip
                  have hk := hk.2 h56
                  refine lv_aload_n X.1 X.2.1 d_Md_job_153 rfl (lv_at hl 7 rfl) ?_
                  refine R_geti (k := 18) X hM (by decide) rfl hR.1 f_Md_158 rfl d_Md_job_154 ?_
                  show W _ _ _ _ _ _ _ _ _ _ _ _ _ _ _ (F0 m 157 ls [.int (r 18 31)])
                  refine lv_bipush (v := 60) X.1 X.2.1 d_Md_job_157 (by decide) ?_
                  refine lv_icmp_ne (tgt := 168) X.1 X.2.1 d_Md_job_159 (by decide) (fun h57 => ?_) (fun h57 => ?_)
                  · skip
                    have hk := hk.2 h57
                    refine lv_aload_n X.1 X.2.1 d_Md_job_168 rfl (lv_at hl 7 rfl) ?_
                    refine r_gets (q := 0) X hM rfl hR.1 f_Md_80 rfl (hR.2 23 (by decide)) d_Md_job_169 (fun g58 => ?_)
                    refine lv_aload_n X.1 X.2.1 d_Md_job_172 rfl (lv_at hl 7 rfl) ?_
                    refine R_geti (k := 18) X hM (by decide) rfl hR.1 f_Md_158 rfl d_Md_job_173 ?_
                    show W _ _ _ _ _ _ _ _ _ _ _ _ _ _ _ (F0 m 176 ls [.int (r 18 31), .ref (ad 42 0)])
                    refine lv_iload_n X.1 X.2.1 d_Md_job_176 rfl (lv_at hl 0 rfl) ?_
                    have o59 := hk
                    refine R_iast (k := 42) X hM (by decide) rfl g58 a_m_kind (fun _ => rfl) o59.1 o59.2 d_Md_job_177 (fun H locs hM => ?_)
                    refine lv_aload_n X.1 X.2.1 d_Md_job_178 rfl (lv_at hl 7 rfl) ?_
                    refine r_gets (q := 0) X hM rfl hR.1 f_Md_83 rfl (hR.2 24 (by decide)) d_Md_job_179 (fun g60 => ?_)
                    refine lv_aload_n X.1 X.2.1 d_Md_job_182 rfl (lv_at hl 7 rfl) ?_
                    refine R_geti (k := 18) X hM (by decide) rfl hR.1 f_Md_158 rfl d_Md_job_183 ?_
                    show W _ _ _ _ _ _ _ _ _ _ _ _ _ _ _ (F0 m 186 ls [.int (r 18 31), .ref (ad 43 0)])
                    refine lv_iload_n X.1 X.2.1 d_Md_job_186 rfl (lv_at hl 1 rfl) ?_
                    refine R_iast (k := 43) X hM (by decide) rfl g60 a_m_jobScope (fun _ => rfl) o59.1 o59.2 d_Md_job_187 (fun H locs hM => ?_)
                    refine lv_aload_n X.1 X.2.1 d_Md_job_188 rfl (lv_at hl 7 rfl) ?_
                    refine r_gets (q := 0) X hM rfl hR.1 f_Md_86 rfl (hR.2 25 (by decide)) d_Md_job_189 (fun g61 => ?_)
                    refine lv_aload_n X.1 X.2.1 d_Md_job_192 rfl (lv_at hl 7 rfl) ?_
                    refine R_geti (k := 18) X hM (by decide) rfl hR.1 f_Md_158 rfl d_Md_job_193 ?_
                    show W _ _ _ _ _ _ _ _ _ _ _ _ _ _ _ (F0 m 196 ls [.int (r 18 31), .ref (ad 44 0)])
                    refine lv_iload X.1 X.2.1 d_Md_job_196 (lv_at hl 5 rfl) ?_
                    refine R_iast (k := 44) X hM (by decide) rfl g61 a_m_jobScript (fun _ => rfl) o59.1 o59.2 d_Md_job_198 (fun H locs hM => ?_)
                    refine lv_aload_n X.1 X.2.1 d_Md_job_199 rfl (lv_at hl 7 rfl) ?_
                    refine r_gets (q := 0) X hM rfl hR.1 f_Md_89 rfl (hR.2 26 (by decide)) d_Md_job_200 (fun g62 => ?_)
                    refine lv_aload_n X.1 X.2.1 d_Md_job_203 rfl (lv_at hl 7 rfl) ?_
                    refine R_geti (k := 18) X hM (by decide) rfl hR.1 f_Md_158 rfl d_Md_job_204 ?_
                    show W _ _ _ _ _ _ _ _ _ _ _ _ _ _ _ (F0 m 207 ls [.int (r 18 31), .ref (ad 45 0)])
                    refine lv_iconst (v := 0) X.1 X.2.1 d_Md_job_207 (by decide) ?_
                    refine R_iast (k := 45) X hM (by decide) rfl g62 a_m_outcome (fun _ => rfl) o59.1 o59.2 d_Md_job_208 (fun H locs hM => ?_)
                    refine lv_aload_n X.1 X.2.1 d_Md_job_209 rfl (lv_at hl 7 rfl) ?_
                    refine r_gets (q := 0) X hM rfl hR.1 f_Md_71 rfl (hR.2 20 (by decide)) d_Md_job_210 (fun g63 => ?_)
                    refine lv_aload_n X.1 X.2.1 d_Md_job_213 rfl (lv_at hl 7 rfl) ?_
                    refine R_geti (k := 18) X hM (by decide) rfl hR.1 f_Md_158 rfl d_Md_job_214 ?_
                    show W _ _ _ _ _ _ _ _ _ _ _ _ _ _ _ (F0 m 217 ls [.int (r 18 31), .ref (ad 39 0)])
                    refine lv_iconst (v := 0) X.1 X.2.1 d_Md_job_217 (by decide) ?_
                    refine R_zast (k := 39) X hM (by decide) rfl g63 a_m_begun (fun _ => rfl) o59.1 o59.2 rfl d_Md_job_218 (fun H locs hM => ?_)
                    refine lv_aload_n X.1 X.2.1 d_Md_job_219 rfl (lv_at hl 7 rfl) ?_
                    refine lv_dup X.1 X.2.1 d_Md_job_220 rfl ?_
                    refine R_geti (k := 18) X hM (by decide) rfl hR.1 f_Md_158 rfl d_Md_job_221 ?_
                    show W _ _ _ _ _ _ _ _ _ _ _ _ _ _ _ (F0 m 224 ls [.int (r 18 31), .ref (ad 18 0)])
                    refine lv_iconst (v := 1) X.1 X.2.1 d_Md_job_224 (by decide) ?_
                    refine lv_iadd X.1 X.2.1 d_Md_job_225 ?_
                    refine R_puti (k := 18) X hM (by decide) rfl hR.1 p_Md_158 rfl rfl rfl d_Md_job_226 (fun H locs hM => ?_)
                    refine lv_aload_n X.1 X.2.1 d_Md_job_229 rfl (lv_at hl 7 rfl) ?_
                    refine R_geti (k := 18) X hM (by decide) rfl hR.1 f_Md_158 rfl d_Md_job_230 ?_
                    show W _ _ _ _ _ _ _ _ _ _ _ _ _ _ _ (F0 m 233 ls [.int ((r 18 31) + 1)])
                    refine lv_iconst (v := 1) X.1 X.2.1 d_Md_job_233 (by decide) ?_
                    refine lv_isub X.1 X.2.1 d_Md_job_234 ?_
                    have heL : (((r 18 31) + 1) - 1, (ru (ru (ru (ru (ru (ru (ru r 18 34 0) 42 ((r 18 31).toNatClampNeg) v1) 43 ((r 18 31).toNatClampNeg) v2) 44 ((r 18 31).toNatClampNeg) v6) 45 ((r 18 31).toNatClampNeg) 0) 39 ((r 18 31).toNatClampNeg) 0) 18 31 ((r 18 31) + 1))) = F := ((if_pos h54).trans ((if_pos h55).trans ((if_neg h56).trans ((if_neg h57))))).symm.trans he
                    exact m_iret X hr hlk hM d_Md_job_235 ⟨Nat.le_of_ble_eq_true rfl, Nat.le_of_ble_eq_true rfl⟩ ⟨fun _ _ _ => rfl, fun _ => Nat.le_refl _⟩ ⟨congrArg (fun z => some (Value.int z.1)) heL, congrArg (fun z => rs M z.2) heL, rfl⟩
                  · skip
                    have hk := hk.1 h57
                    refine lv_aload_n X.1 X.2.1 d_Md_job_162 rfl (lv_at hl 7 rfl) ?_
                    refine lv_iconst (v := 2) X.1 X.2.1 d_Md_job_163 (by decide) ?_
                    refine r_cV (As := [.int 2]) (rest := []) X hml hl.1 hM (k_Md_fail l D dA base M ad hR (ru r 18 34 0) 2) c_Md_161 v_Md_fail kc_Md rfl hR.1 rfl (Nat.le_of_ble_eq_true rfl) ⟨rfl, rfl, Nat.le_of_ble_eq_true rfl, Nat.le_of_ble_eq_true rfl⟩ ⟨Nat.le_of_ble_eq_true rfl, Nat.le_of_ble_eq_true rfl⟩ d_Md_job_164 ?_
                    intro rv M1 ad1 H locs hP hM hE
                    obtain ⟨e1, e2, e3⟩ := hP
                    subst rv; subst M1; subst ad1
                    show W _ _ _ _ _ _ _ _ _ _ _ _ _ _ _ (F0 m 167 ls [.int ((m_fail (ru r 18 34 0) 2).1)])
                    have heL : ((m_fail (ru r 18 34 0) 2).1, (m_fail (ru r 18 34 0) 2).2) = F := ((if_pos h54).trans ((if_pos h55).trans ((if_neg h56).trans ((if_pos h57))))).symm.trans he
                    exact m_iret X hr hlk hM d_Md_job_167 ⟨Nat.le_of_ble_eq_true rfl, Nat.le_of_ble_eq_true rfl⟩ ⟨fun _ _ _ => rfl, fun _ => Nat.le_refl _⟩ ⟨congrArg (fun z => some (Value.int z.1)) heL, congrArg (fun z => rs M z.2) heL, rfl⟩
              · skip
                have hk := hk.2 h55
                refine lv_aload_n X.1 X.2.1 d_Md_job_111 rfl (lv_at hl 7 rfl) ?_
                refine r_gets (q := 0) X hM rfl hR.1 f_Md_80 rfl (hR.2 23 (by decide)) d_Md_job_112 (fun g64 => ?_)
                refine lv_iload X.1 X.2.1 d_Md_job_115 (lv_at hl 3 rfl) ?_
                obtain ⟨o65, hk⟩ := hk
                refine R_iald (k := 42) X hM (by decide) rfl g64 a_m_kind (fun _ => rfl) o65.1 o65.2 d_Md_job_117 ?_
                show W _ _ _ _ _ _ _ _ _ _ _ _ _ _ _ (F0 m 118 ls [.int (r 42 (v4.toNatClampNeg))])
                refine lv_iload_n X.1 X.2.1 d_Md_job_118 rfl (lv_at hl 0 rfl) ?_
                refine lv_icmp_ne (tgt := 147) X.1 X.2.1 d_Md_job_119 (by decide) (fun h66 => ?_) (fun h66 => ?_)
                · skip
                  have hk := hk.2 h66
                  refine lv_iload X.1 X.2.1 d_Md_job_147 (lv_at hl 4 rfl) ?_
                  refine lv_iconst (v := 4) X.1 X.2.1 d_Md_job_149 (by decide) ?_
                  refine lv_icmp_eq (tgt := 162) X.1 X.2.1 d_Md_job_150 (by decide) (fun h67 => ?_) (fun h67 => ?_)
                  · skip
                    have hk := hk.1 h67
                    refine lv_aload_n X.1 X.2.1 d_Md_job_162 rfl (lv_at hl 7 rfl) ?_
                    refine lv_iconst (v := 2) X.1 X.2.1 d_Md_job_163 (by decide) ?_
                    refine r_cV (As := [.int 2]) (rest := []) X hml hl.1 hM (k_Md_fail l D dA base M ad hR (ru r 18 34 0) 2) c_Md_161 v_Md_fail kc_Md rfl hR.1 rfl (Nat.le_of_ble_eq_true rfl) ⟨rfl, rfl, Nat.le_of_ble_eq_true rfl, Nat.le_of_ble_eq_true rfl⟩ ⟨Nat.le_of_ble_eq_true rfl, Nat.le_of_ble_eq_true rfl⟩ d_Md_job_164 ?_
                    intro rv M1 ad1 H locs hP hM hE
                    obtain ⟨e1, e2, e3⟩ := hP
                    subst rv; subst M1; subst ad1
                    show W _ _ _ _ _ _ _ _ _ _ _ _ _ _ _ (F0 m 167 ls [.int ((m_fail (ru r 18 34 0) 2).1)])
                    have heL : ((m_fail (ru r 18 34 0) 2).1, (m_fail (ru r 18 34 0) 2).2) = F := ((if_pos h54).trans ((if_neg h55).trans ((if_neg h66).trans ((if_pos h67))))).symm.trans he
                    exact m_iret X hr hlk hM d_Md_job_167 ⟨Nat.le_of_ble_eq_true rfl, Nat.le_of_ble_eq_true rfl⟩ ⟨fun _ _ _ => rfl, fun _ => Nat.le_refl _⟩ ⟨congrArg (fun z => some (Value.int z.1)) heL, congrArg (fun z => rs M z.2) heL, rfl⟩
                  · skip
                    have hk := hk.2 h67
                    refine lv_aload_n X.1 X.2.1 d_Md_job_153 rfl (lv_at hl 7 rfl) ?_
                    refine R_geti (k := 18) X hM (by decide) rfl hR.1 f_Md_158 rfl d_Md_job_154 ?_
                    show W _ _ _ _ _ _ _ _ _ _ _ _ _ _ _ (F0 m 157 ls [.int (r 18 31)])
                    refine lv_bipush (v := 60) X.1 X.2.1 d_Md_job_157 (by decide) ?_
                    refine lv_icmp_ne (tgt := 168) X.1 X.2.1 d_Md_job_159 (by decide) (fun h68 => ?_) (fun h68 => ?_)
                    · skip
                      have hk := hk.2 h68
                      refine lv_aload_n X.1 X.2.1 d_Md_job_168 rfl (lv_at hl 7 rfl) ?_
                      refine r_gets (q := 0) X hM rfl hR.1 f_Md_80 rfl (hR.2 23 (by decide)) d_Md_job_169 (fun g69 => ?_)
                      refine lv_aload_n X.1 X.2.1 d_Md_job_172 rfl (lv_at hl 7 rfl) ?_
                      refine R_geti (k := 18) X hM (by decide) rfl hR.1 f_Md_158 rfl d_Md_job_173 ?_
                      show W _ _ _ _ _ _ _ _ _ _ _ _ _ _ _ (F0 m 176 ls [.int (r 18 31), .ref (ad 42 0)])
                      refine lv_iload_n X.1 X.2.1 d_Md_job_176 rfl (lv_at hl 0 rfl) ?_
                      have o70 := hk
                      refine R_iast (k := 42) X hM (by decide) rfl g69 a_m_kind (fun _ => rfl) o70.1 o70.2 d_Md_job_177 (fun H locs hM => ?_)
                      refine lv_aload_n X.1 X.2.1 d_Md_job_178 rfl (lv_at hl 7 rfl) ?_
                      refine r_gets (q := 0) X hM rfl hR.1 f_Md_83 rfl (hR.2 24 (by decide)) d_Md_job_179 (fun g71 => ?_)
                      refine lv_aload_n X.1 X.2.1 d_Md_job_182 rfl (lv_at hl 7 rfl) ?_
                      refine R_geti (k := 18) X hM (by decide) rfl hR.1 f_Md_158 rfl d_Md_job_183 ?_
                      show W _ _ _ _ _ _ _ _ _ _ _ _ _ _ _ (F0 m 186 ls [.int (r 18 31), .ref (ad 43 0)])
                      refine lv_iload_n X.1 X.2.1 d_Md_job_186 rfl (lv_at hl 1 rfl) ?_
                      refine R_iast (k := 43) X hM (by decide) rfl g71 a_m_jobScope (fun _ => rfl) o70.1 o70.2 d_Md_job_187 (fun H locs hM => ?_)
                      refine lv_aload_n X.1 X.2.1 d_Md_job_188 rfl (lv_at hl 7 rfl) ?_
                      refine r_gets (q := 0) X hM rfl hR.1 f_Md_86 rfl (hR.2 25 (by decide)) d_Md_job_189 (fun g72 => ?_)
                      refine lv_aload_n X.1 X.2.1 d_Md_job_192 rfl (lv_at hl 7 rfl) ?_
                      refine R_geti (k := 18) X hM (by decide) rfl hR.1 f_Md_158 rfl d_Md_job_193 ?_
                      show W _ _ _ _ _ _ _ _ _ _ _ _ _ _ _ (F0 m 196 ls [.int (r 18 31), .ref (ad 44 0)])
                      refine lv_iload X.1 X.2.1 d_Md_job_196 (lv_at hl 5 rfl) ?_
                      refine R_iast (k := 44) X hM (by decide) rfl g72 a_m_jobScript (fun _ => rfl) o70.1 o70.2 d_Md_job_198 (fun H locs hM => ?_)
                      refine lv_aload_n X.1 X.2.1 d_Md_job_199 rfl (lv_at hl 7 rfl) ?_
                      refine r_gets (q := 0) X hM rfl hR.1 f_Md_89 rfl (hR.2 26 (by decide)) d_Md_job_200 (fun g73 => ?_)
                      refine lv_aload_n X.1 X.2.1 d_Md_job_203 rfl (lv_at hl 7 rfl) ?_
                      refine R_geti (k := 18) X hM (by decide) rfl hR.1 f_Md_158 rfl d_Md_job_204 ?_
                      show W _ _ _ _ _ _ _ _ _ _ _ _ _ _ _ (F0 m 207 ls [.int (r 18 31), .ref (ad 45 0)])
                      refine lv_iconst (v := 0) X.1 X.2.1 d_Md_job_207 (by decide) ?_
                      refine R_iast (k := 45) X hM (by decide) rfl g73 a_m_outcome (fun _ => rfl) o70.1 o70.2 d_Md_job_208 (fun H locs hM => ?_)
                      refine lv_aload_n X.1 X.2.1 d_Md_job_209 rfl (lv_at hl 7 rfl) ?_
                      refine r_gets (q := 0) X hM rfl hR.1 f_Md_71 rfl (hR.2 20 (by decide)) d_Md_job_210 (fun g74 => ?_)
                      refine lv_aload_n X.1 X.2.1 d_Md_job_213 rfl (lv_at hl 7 rfl) ?_
                      refine R_geti (k := 18) X hM (by decide) rfl hR.1 f_Md_158 rfl d_Md_job_214 ?_
                      show W _ _ _ _ _ _ _ _ _ _ _ _ _ _ _ (F0 m 217 ls [.int (r 18 31), .ref (ad 39 0)])
                      refine lv_iconst (v := 0) X.1 X.2.1 d_Md_job_217 (by decide) ?_
                      refine R_zast (k := 39) X hM (by decide) rfl g74 a_m_begun (fun _ => rfl) o70.1 o70.2 rfl d_Md_job_218 (fun H locs hM => ?_)
                      refine lv_aload_n X.1 X.2.1 d_Md_job_219 rfl (lv_at hl 7 rfl) ?_
                      refine lv_dup X.1 X.2.1 d_Md_job_220 rfl ?_
                      refine R_geti (k := 18) X hM (by decide) rfl hR.1 f_Md_158 rfl d_Md_job_221 ?_
                      show W _ _ _ _ _ _ _ _ _ _ _ _ _ _ _ (F0 m 224 ls [.int (r 18 31), .ref (ad 18 0)])
                      refine lv_iconst (v := 1) X.1 X.2.1 d_Md_job_224 (by decide) ?_
                      refine lv_iadd X.1 X.2.1 d_Md_job_225 ?_
                      refine R_puti (k := 18) X hM (by decide) rfl hR.1 p_Md_158 rfl rfl rfl d_Md_job_226 (fun H locs hM => ?_)
                      refine lv_aload_n X.1 X.2.1 d_Md_job_229 rfl (lv_at hl 7 rfl) ?_
                      refine R_geti (k := 18) X hM (by decide) rfl hR.1 f_Md_158 rfl d_Md_job_230 ?_
                      show W _ _ _ _ _ _ _ _ _ _ _ _ _ _ _ (F0 m 233 ls [.int ((r 18 31) + 1)])
                      refine lv_iconst (v := 1) X.1 X.2.1 d_Md_job_233 (by decide) ?_
                      refine lv_isub X.1 X.2.1 d_Md_job_234 ?_
                      have heL : (((r 18 31) + 1) - 1, (ru (ru (ru (ru (ru (ru (ru r 18 34 0) 42 ((r 18 31).toNatClampNeg) v1) 43 ((r 18 31).toNatClampNeg) v2) 44 ((r 18 31).toNatClampNeg) v6) 45 ((r 18 31).toNatClampNeg) 0) 39 ((r 18 31).toNatClampNeg) 0) 18 31 ((r 18 31) + 1))) = F := ((if_pos h54).trans ((if_neg h55).trans ((if_neg h66).trans ((if_neg h67).trans ((if_neg h68)))))).symm.trans he
                      exact m_iret X hr hlk hM d_Md_job_235 ⟨Nat.le_of_ble_eq_true rfl, Nat.le_of_ble_eq_true rfl⟩ ⟨fun _ _ _ => rfl, fun _ => Nat.le_refl _⟩ ⟨congrArg (fun z => some (Value.int z.1)) heL, congrArg (fun z => rs M z.2) heL, rfl⟩
                    · skip
                      have hk := hk.1 h68
                      refine lv_aload_n X.1 X.2.1 d_Md_job_162 rfl (lv_at hl 7 rfl) ?_
                      refine lv_iconst (v := 2) X.1 X.2.1 d_Md_job_163 (by decide) ?_
                      refine r_cV (As := [.int 2]) (rest := []) X hml hl.1 hM (k_Md_fail l D dA base M ad hR (ru r 18 34 0) 2) c_Md_161 v_Md_fail kc_Md rfl hR.1 rfl (Nat.le_of_ble_eq_true rfl) ⟨rfl, rfl, Nat.le_of_ble_eq_true rfl, Nat.le_of_ble_eq_true rfl⟩ ⟨Nat.le_of_ble_eq_true rfl, Nat.le_of_ble_eq_true rfl⟩ d_Md_job_164 ?_
                      intro rv M1 ad1 H locs hP hM hE
                      obtain ⟨e1, e2, e3⟩ := hP
                      subst rv; subst M1; subst ad1
                      show W _ _ _ _ _ _ _ _ _ _ _ _ _ _ _ (F0 m 167 ls [.int ((m_fail (ru r 18 34 0) 2).1)])
                      have heL : ((m_fail (ru r 18 34 0) 2).1, (m_fail (ru r 18 34 0) 2).2) = F := ((if_pos h54).trans ((if_neg h55).trans ((if_neg h66).trans ((if_neg h67).trans ((if_pos h68)))))).symm.trans he
                      exact m_iret X hr hlk hM d_Md_job_167 ⟨Nat.le_of_ble_eq_true rfl, Nat.le_of_ble_eq_true rfl⟩ ⟨fun _ _ _ => rfl, fun _ => Nat.le_refl _⟩ ⟨congrArg (fun z => some (Value.int z.1)) heL, congrArg (fun z => rs M z.2) heL, rfl⟩
                · skip
                  have hk := hk.1 h66
                  refine lv_aload_n X.1 X.2.1 d_Md_job_122 rfl (lv_at hl 7 rfl) ?_
                  refine r_gets (q := 0) X hM rfl hR.1 f_Md_86 rfl (hR.2 25 (by decide)) d_Md_job_123 (fun g75 => ?_)
                  refine lv_iload X.1 X.2.1 d_Md_job_126 (lv_at hl 3 rfl) ?_
                  refine R_iald (k := 44) X hM (by decide) rfl g75 a_m_jobScript (fun _ => rfl) o65.1 o65.2 d_Md_job_128 ?_
                  show W _ _ _ _ _ _ _ _ _ _ _ _ _ _ _ (F0 m 129 ls [.int (r 44 (v4.toNatClampNeg))])
                  refine lv_iload X.1 X.2.1 d_Md_job_129 (lv_at hl 5 rfl) ?_
                  refine lv_icmp_ne (tgt := 147) X.1 X.2.1 d_Md_job_131 (by decide) (fun h76 => ?_) (fun h76 => ?_)
                  · skip
                    have hk := hk.2 h76
                    refine lv_iload X.1 X.2.1 d_Md_job_147 (lv_at hl 4 rfl) ?_
                    refine lv_iconst (v := 4) X.1 X.2.1 d_Md_job_149 (by decide) ?_
                    refine lv_icmp_eq (tgt := 162) X.1 X.2.1 d_Md_job_150 (by decide) (fun h77 => ?_) (fun h77 => ?_)
                    · skip
                      have hk := hk.1 h77
                      refine lv_aload_n X.1 X.2.1 d_Md_job_162 rfl (lv_at hl 7 rfl) ?_
                      refine lv_iconst (v := 2) X.1 X.2.1 d_Md_job_163 (by decide) ?_
                      refine r_cV (As := [.int 2]) (rest := []) X hml hl.1 hM (k_Md_fail l D dA base M ad hR (ru r 18 34 0) 2) c_Md_161 v_Md_fail kc_Md rfl hR.1 rfl (Nat.le_of_ble_eq_true rfl) ⟨rfl, rfl, Nat.le_of_ble_eq_true rfl, Nat.le_of_ble_eq_true rfl⟩ ⟨Nat.le_of_ble_eq_true rfl, Nat.le_of_ble_eq_true rfl⟩ d_Md_job_164 ?_
                      intro rv M1 ad1 H locs hP hM hE
                      obtain ⟨e1, e2, e3⟩ := hP
                      subst rv; subst M1; subst ad1
                      show W _ _ _ _ _ _ _ _ _ _ _ _ _ _ _ (F0 m 167 ls [.int ((m_fail (ru r 18 34 0) 2).1)])
                      have heL : ((m_fail (ru r 18 34 0) 2).1, (m_fail (ru r 18 34 0) 2).2) = F := ((if_pos h54).trans ((if_neg h55).trans ((if_pos h66).trans ((if_neg h76).trans ((if_pos h77)))))).symm.trans he
                      exact m_iret X hr hlk hM d_Md_job_167 ⟨Nat.le_of_ble_eq_true rfl, Nat.le_of_ble_eq_true rfl⟩ ⟨fun _ _ _ => rfl, fun _ => Nat.le_refl _⟩ ⟨congrArg (fun z => some (Value.int z.1)) heL, congrArg (fun z => rs M z.2) heL, rfl⟩
                    · skip
                      have hk := hk.2 h77
                      refine lv_aload_n X.1 X.2.1 d_Md_job_153 rfl (lv_at hl 7 rfl) ?_
                      refine R_geti (k := 18) X hM (by decide) rfl hR.1 f_Md_158 rfl d_Md_job_154 ?_
                      show W _ _ _ _ _ _ _ _ _ _ _ _ _ _ _ (F0 m 157 ls [.int (r 18 31)])
                      refine lv_bipush (v := 60) X.1 X.2.1 d_Md_job_157 (by decide) ?_
                      refine lv_icmp_ne (tgt := 168) X.1 X.2.1 d_Md_job_159 (by decide) (fun h78 => ?_) (fun h78 => ?_)
                      · skip
                        have hk := hk.2 h78
                        refine lv_aload_n X.1 X.2.1 d_Md_job_168 rfl (lv_at hl 7 rfl) ?_
                        refine r_gets (q := 0) X hM rfl hR.1 f_Md_80 rfl (hR.2 23 (by decide)) d_Md_job_169 (fun g79 => ?_)
                        refine lv_aload_n X.1 X.2.1 d_Md_job_172 rfl (lv_at hl 7 rfl) ?_
                        refine R_geti (k := 18) X hM (by decide) rfl hR.1 f_Md_158 rfl d_Md_job_173 ?_
                        show W _ _ _ _ _ _ _ _ _ _ _ _ _ _ _ (F0 m 176 ls [.int (r 18 31), .ref (ad 42 0)])
                        refine lv_iload_n X.1 X.2.1 d_Md_job_176 rfl (lv_at hl 0 rfl) ?_
                        have o80 := hk
                        refine R_iast (k := 42) X hM (by decide) rfl g79 a_m_kind (fun _ => rfl) o80.1 o80.2 d_Md_job_177 (fun H locs hM => ?_)
                        refine lv_aload_n X.1 X.2.1 d_Md_job_178 rfl (lv_at hl 7 rfl) ?_
                        refine r_gets (q := 0) X hM rfl hR.1 f_Md_83 rfl (hR.2 24 (by decide)) d_Md_job_179 (fun g81 => ?_)
                        refine lv_aload_n X.1 X.2.1 d_Md_job_182 rfl (lv_at hl 7 rfl) ?_
                        refine R_geti (k := 18) X hM (by decide) rfl hR.1 f_Md_158 rfl d_Md_job_183 ?_
                        show W _ _ _ _ _ _ _ _ _ _ _ _ _ _ _ (F0 m 186 ls [.int (r 18 31), .ref (ad 43 0)])
                        refine lv_iload_n X.1 X.2.1 d_Md_job_186 rfl (lv_at hl 1 rfl) ?_
                        refine R_iast (k := 43) X hM (by decide) rfl g81 a_m_jobScope (fun _ => rfl) o80.1 o80.2 d_Md_job_187 (fun H locs hM => ?_)
                        refine lv_aload_n X.1 X.2.1 d_Md_job_188 rfl (lv_at hl 7 rfl) ?_
                        refine r_gets (q := 0) X hM rfl hR.1 f_Md_86 rfl (hR.2 25 (by decide)) d_Md_job_189 (fun g82 => ?_)
                        refine lv_aload_n X.1 X.2.1 d_Md_job_192 rfl (lv_at hl 7 rfl) ?_
                        refine R_geti (k := 18) X hM (by decide) rfl hR.1 f_Md_158 rfl d_Md_job_193 ?_
                        show W _ _ _ _ _ _ _ _ _ _ _ _ _ _ _ (F0 m 196 ls [.int (r 18 31), .ref (ad 44 0)])
                        refine lv_iload X.1 X.2.1 d_Md_job_196 (lv_at hl 5 rfl) ?_
                        refine R_iast (k := 44) X hM (by decide) rfl g82 a_m_jobScript (fun _ => rfl) o80.1 o80.2 d_Md_job_198 (fun H locs hM => ?_)
                        refine lv_aload_n X.1 X.2.1 d_Md_job_199 rfl (lv_at hl 7 rfl) ?_
                        refine r_gets (q := 0) X hM rfl hR.1 f_Md_89 rfl (hR.2 26 (by decide)) d_Md_job_200 (fun g83 => ?_)
                        refine lv_aload_n X.1 X.2.1 d_Md_job_203 rfl (lv_at hl 7 rfl) ?_
                        refine R_geti (k := 18) X hM (by decide) rfl hR.1 f_Md_158 rfl d_Md_job_204 ?_
                        show W _ _ _ _ _ _ _ _ _ _ _ _ _ _ _ (F0 m 207 ls [.int (r 18 31), .ref (ad 45 0)])
                        refine lv_iconst (v := 0) X.1 X.2.1 d_Md_job_207 (by decide) ?_
                        refine R_iast (k := 45) X hM (by decide) rfl g83 a_m_outcome (fun _ => rfl) o80.1 o80.2 d_Md_job_208 (fun H locs hM => ?_)
                        refine lv_aload_n X.1 X.2.1 d_Md_job_209 rfl (lv_at hl 7 rfl) ?_
                        refine r_gets (q := 0) X hM rfl hR.1 f_Md_71 rfl (hR.2 20 (by decide)) d_Md_job_210 (fun g84 => ?_)
                        refine lv_aload_n X.1 X.2.1 d_Md_job_213 rfl (lv_at hl 7 rfl) ?_
                        refine R_geti (k := 18) X hM (by decide) rfl hR.1 f_Md_158 rfl d_Md_job_214 ?_
                        show W _ _ _ _ _ _ _ _ _ _ _ _ _ _ _ (F0 m 217 ls [.int (r 18 31), .ref (ad 39 0)])
                        refine lv_iconst (v := 0) X.1 X.2.1 d_Md_job_217 (by decide) ?_
                        refine R_zast (k := 39) X hM (by decide) rfl g84 a_m_begun (fun _ => rfl) o80.1 o80.2 rfl d_Md_job_218 (fun H locs hM => ?_)
                        refine lv_aload_n X.1 X.2.1 d_Md_job_219 rfl (lv_at hl 7 rfl) ?_
                        refine lv_dup X.1 X.2.1 d_Md_job_220 rfl ?_
                        refine R_geti (k := 18) X hM (by decide) rfl hR.1 f_Md_158 rfl d_Md_job_221 ?_
                        show W _ _ _ _ _ _ _ _ _ _ _ _ _ _ _ (F0 m 224 ls [.int (r 18 31), .ref (ad 18 0)])
                        refine lv_iconst (v := 1) X.1 X.2.1 d_Md_job_224 (by decide) ?_
                        refine lv_iadd X.1 X.2.1 d_Md_job_225 ?_
                        refine R_puti (k := 18) X hM (by decide) rfl hR.1 p_Md_158 rfl rfl rfl d_Md_job_226 (fun H locs hM => ?_)
                        refine lv_aload_n X.1 X.2.1 d_Md_job_229 rfl (lv_at hl 7 rfl) ?_
                        refine R_geti (k := 18) X hM (by decide) rfl hR.1 f_Md_158 rfl d_Md_job_230 ?_
                        show W _ _ _ _ _ _ _ _ _ _ _ _ _ _ _ (F0 m 233 ls [.int ((r 18 31) + 1)])
                        refine lv_iconst (v := 1) X.1 X.2.1 d_Md_job_233 (by decide) ?_
                        refine lv_isub X.1 X.2.1 d_Md_job_234 ?_
                        have heL : (((r 18 31) + 1) - 1, (ru (ru (ru (ru (ru (ru (ru r 18 34 0) 42 ((r 18 31).toNatClampNeg) v1) 43 ((r 18 31).toNatClampNeg) v2) 44 ((r 18 31).toNatClampNeg) v6) 45 ((r 18 31).toNatClampNeg) 0) 39 ((r 18 31).toNatClampNeg) 0) 18 31 ((r 18 31) + 1))) = F := ((if_pos h54).trans ((if_neg h55).trans ((if_pos h66).trans ((if_neg h76).trans ((if_neg h77).trans ((if_neg h78))))))).symm.trans he
                        exact m_iret X hr hlk hM d_Md_job_235 ⟨Nat.le_of_ble_eq_true rfl, Nat.le_of_ble_eq_true rfl⟩ ⟨fun _ _ _ => rfl, fun _ => Nat.le_refl _⟩ ⟨congrArg (fun z => some (Value.int z.1)) heL, congrArg (fun z => rs M z.2) heL, rfl⟩
                      · skip
                        have hk := hk.1 h78
                        refine lv_aload_n X.1 X.2.1 d_Md_job_162 rfl (lv_at hl 7 rfl) ?_
                        refine lv_iconst (v := 2) X.1 X.2.1 d_Md_job_163 (by decide) ?_
                        refine r_cV (As := [.int 2]) (rest := []) X hml hl.1 hM (k_Md_fail l D dA base M ad hR (ru r 18 34 0) 2) c_Md_161 v_Md_fail kc_Md rfl hR.1 rfl (Nat.le_of_ble_eq_true rfl) ⟨rfl, rfl, Nat.le_of_ble_eq_true rfl, Nat.le_of_ble_eq_true rfl⟩ ⟨Nat.le_of_ble_eq_true rfl, Nat.le_of_ble_eq_true rfl⟩ d_Md_job_164 ?_
                        intro rv M1 ad1 H locs hP hM hE
                        obtain ⟨e1, e2, e3⟩ := hP
                        subst rv; subst M1; subst ad1
                        show W _ _ _ _ _ _ _ _ _ _ _ _ _ _ _ (F0 m 167 ls [.int ((m_fail (ru r 18 34 0) 2).1)])
                        have heL : ((m_fail (ru r 18 34 0) 2).1, (m_fail (ru r 18 34 0) 2).2) = F := ((if_pos h54).trans ((if_neg h55).trans ((if_pos h66).trans ((if_neg h76).trans ((if_neg h77).trans ((if_pos h78))))))).symm.trans he
                        exact m_iret X hr hlk hM d_Md_job_167 ⟨Nat.le_of_ble_eq_true rfl, Nat.le_of_ble_eq_true rfl⟩ ⟨fun _ _ _ => rfl, fun _ => Nat.le_refl _⟩ ⟨congrArg (fun z => some (Value.int z.1)) heL, congrArg (fun z => rs M z.2) heL, rfl⟩
                  · skip
                    have hk := hk.1 h76
                    refine lv_aload_n X.1 X.2.1 d_Md_job_134 rfl (lv_at hl 7 rfl) ?_
                    refine r_gets (q := 0) X hM rfl hR.1 f_Md_71 rfl (hR.2 20 (by decide)) d_Md_job_135 (fun g85 => ?_)
                    refine lv_iload X.1 X.2.1 d_Md_job_138 (lv_at hl 3 rfl) ?_
                    refine R_zald (k := 39) X hM (by decide) rfl g85 a_m_begun (fun _ => rfl) o65.1 o65.2 d_Md_job_140 ?_
                    show W _ _ _ _ _ _ _ _ _ _ _ _ _ _ _ (F0 m 141 ls [.int (r 39 (v4.toNatClampNeg))])
                    refine lv_if_ne (tgt := 147) X.1 X.2.1 d_Md_job_141 (by decide) (fun h86 => ?_) (fun h86 => ?_)
                    · skip
                      have hk := hk.2 h86
                      refine lv_iload X.1 X.2.1 d_Md_job_147 (lv_at hl 4 rfl) ?_
                      refine lv_iconst (v := 4) X.1 X.2.1 d_Md_job_149 (by decide) ?_
                      refine lv_icmp_eq (tgt := 162) X.1 X.2.1 d_Md_job_150 (by decide) (fun h87 => ?_) (fun h87 => ?_)
                      · skip
                        have hk := hk.1 h87
                        refine lv_aload_n X.1 X.2.1 d_Md_job_162 rfl (lv_at hl 7 rfl) ?_
                        refine lv_iconst (v := 2) X.1 X.2.1 d_Md_job_163 (by decide) ?_
                        refine r_cV (As := [.int 2]) (rest := []) X hml hl.1 hM (k_Md_fail l D dA base M ad hR (ru r 18 34 0) 2) c_Md_161 v_Md_fail kc_Md rfl hR.1 rfl (Nat.le_of_ble_eq_true rfl) ⟨rfl, rfl, Nat.le_of_ble_eq_true rfl, Nat.le_of_ble_eq_true rfl⟩ ⟨Nat.le_of_ble_eq_true rfl, Nat.le_of_ble_eq_true rfl⟩ d_Md_job_164 ?_
                        intro rv M1 ad1 H locs hP hM hE
                        obtain ⟨e1, e2, e3⟩ := hP
                        subst rv; subst M1; subst ad1
                        show W _ _ _ _ _ _ _ _ _ _ _ _ _ _ _ (F0 m 167 ls [.int ((m_fail (ru r 18 34 0) 2).1)])
                        have heL : ((m_fail (ru r 18 34 0) 2).1, (m_fail (ru r 18 34 0) 2).2) = F := ((if_pos h54).trans ((if_neg h55).trans ((if_pos h66).trans ((if_pos h76).trans ((if_neg h86).trans ((if_pos h87))))))).symm.trans he
                        exact m_iret X hr hlk hM d_Md_job_167 ⟨Nat.le_of_ble_eq_true rfl, Nat.le_of_ble_eq_true rfl⟩ ⟨fun _ _ _ => rfl, fun _ => Nat.le_refl _⟩ ⟨congrArg (fun z => some (Value.int z.1)) heL, congrArg (fun z => rs M z.2) heL, rfl⟩
                      · skip
                        have hk := hk.2 h87
                        refine lv_aload_n X.1 X.2.1 d_Md_job_153 rfl (lv_at hl 7 rfl) ?_
                        refine R_geti (k := 18) X hM (by decide) rfl hR.1 f_Md_158 rfl d_Md_job_154 ?_
                        show W _ _ _ _ _ _ _ _ _ _ _ _ _ _ _ (F0 m 157 ls [.int (r 18 31)])
                        refine lv_bipush (v := 60) X.1 X.2.1 d_Md_job_157 (by decide) ?_
                        refine lv_icmp_ne (tgt := 168) X.1 X.2.1 d_Md_job_159 (by decide) (fun h88 => ?_) (fun h88 => ?_)
                        · skip
                          have hk := hk.2 h88
                          refine lv_aload_n X.1 X.2.1 d_Md_job_168 rfl (lv_at hl 7 rfl) ?_
                          refine r_gets (q := 0) X hM rfl hR.1 f_Md_80 rfl (hR.2 23 (by decide)) d_Md_job_169 (fun g89 => ?_)
                          refine lv_aload_n X.1 X.2.1 d_Md_job_172 rfl (lv_at hl 7 rfl) ?_
                          refine R_geti (k := 18) X hM (by decide) rfl hR.1 f_Md_158 rfl d_Md_job_173 ?_
                          show W _ _ _ _ _ _ _ _ _ _ _ _ _ _ _ (F0 m 176 ls [.int (r 18 31), .ref (ad 42 0)])
                          refine lv_iload_n X.1 X.2.1 d_Md_job_176 rfl (lv_at hl 0 rfl) ?_
                          have o90 := hk
                          refine R_iast (k := 42) X hM (by decide) rfl g89 a_m_kind (fun _ => rfl) o90.1 o90.2 d_Md_job_177 (fun H locs hM => ?_)
                          refine lv_aload_n X.1 X.2.1 d_Md_job_178 rfl (lv_at hl 7 rfl) ?_
                          refine r_gets (q := 0) X hM rfl hR.1 f_Md_83 rfl (hR.2 24 (by decide)) d_Md_job_179 (fun g91 => ?_)
                          refine lv_aload_n X.1 X.2.1 d_Md_job_182 rfl (lv_at hl 7 rfl) ?_
                          refine R_geti (k := 18) X hM (by decide) rfl hR.1 f_Md_158 rfl d_Md_job_183 ?_
                          show W _ _ _ _ _ _ _ _ _ _ _ _ _ _ _ (F0 m 186 ls [.int (r 18 31), .ref (ad 43 0)])
                          refine lv_iload_n X.1 X.2.1 d_Md_job_186 rfl (lv_at hl 1 rfl) ?_
                          refine R_iast (k := 43) X hM (by decide) rfl g91 a_m_jobScope (fun _ => rfl) o90.1 o90.2 d_Md_job_187 (fun H locs hM => ?_)
                          refine lv_aload_n X.1 X.2.1 d_Md_job_188 rfl (lv_at hl 7 rfl) ?_
                          refine r_gets (q := 0) X hM rfl hR.1 f_Md_86 rfl (hR.2 25 (by decide)) d_Md_job_189 (fun g92 => ?_)
                          refine lv_aload_n X.1 X.2.1 d_Md_job_192 rfl (lv_at hl 7 rfl) ?_
                          refine R_geti (k := 18) X hM (by decide) rfl hR.1 f_Md_158 rfl d_Md_job_193 ?_
                          show W _ _ _ _ _ _ _ _ _ _ _ _ _ _ _ (F0 m 196 ls [.int (r 18 31), .ref (ad 44 0)])
                          refine lv_iload X.1 X.2.1 d_Md_job_196 (lv_at hl 5 rfl) ?_
                          refine R_iast (k := 44) X hM (by decide) rfl g92 a_m_jobScript (fun _ => rfl) o90.1 o90.2 d_Md_job_198 (fun H locs hM => ?_)
                          refine lv_aload_n X.1 X.2.1 d_Md_job_199 rfl (lv_at hl 7 rfl) ?_
                          refine r_gets (q := 0) X hM rfl hR.1 f_Md_89 rfl (hR.2 26 (by decide)) d_Md_job_200 (fun g93 => ?_)
                          refine lv_aload_n X.1 X.2.1 d_Md_job_203 rfl (lv_at hl 7 rfl) ?_
                          refine R_geti (k := 18) X hM (by decide) rfl hR.1 f_Md_158 rfl d_Md_job_204 ?_
                          show W _ _ _ _ _ _ _ _ _ _ _ _ _ _ _ (F0 m 207 ls [.int (r 18 31), .ref (ad 45 0)])
                          refine lv_iconst (v := 0) X.1 X.2.1 d_Md_job_207 (by decide) ?_
                          refine R_iast (k := 45) X hM (by decide) rfl g93 a_m_outcome (fun _ => rfl) o90.1 o90.2 d_Md_job_208 (fun H locs hM => ?_)
                          refine lv_aload_n X.1 X.2.1 d_Md_job_209 rfl (lv_at hl 7 rfl) ?_
                          refine r_gets (q := 0) X hM rfl hR.1 f_Md_71 rfl (hR.2 20 (by decide)) d_Md_job_210 (fun g94 => ?_)
                          refine lv_aload_n X.1 X.2.1 d_Md_job_213 rfl (lv_at hl 7 rfl) ?_
                          refine R_geti (k := 18) X hM (by decide) rfl hR.1 f_Md_158 rfl d_Md_job_214 ?_
                          show W _ _ _ _ _ _ _ _ _ _ _ _ _ _ _ (F0 m 217 ls [.int (r 18 31), .ref (ad 39 0)])
                          refine lv_iconst (v := 0) X.1 X.2.1 d_Md_job_217 (by decide) ?_
                          refine R_zast (k := 39) X hM (by decide) rfl g94 a_m_begun (fun _ => rfl) o90.1 o90.2 rfl d_Md_job_218 (fun H locs hM => ?_)
                          refine lv_aload_n X.1 X.2.1 d_Md_job_219 rfl (lv_at hl 7 rfl) ?_
                          refine lv_dup X.1 X.2.1 d_Md_job_220 rfl ?_
                          refine R_geti (k := 18) X hM (by decide) rfl hR.1 f_Md_158 rfl d_Md_job_221 ?_
                          show W _ _ _ _ _ _ _ _ _ _ _ _ _ _ _ (F0 m 224 ls [.int (r 18 31), .ref (ad 18 0)])
                          refine lv_iconst (v := 1) X.1 X.2.1 d_Md_job_224 (by decide) ?_
                          refine lv_iadd X.1 X.2.1 d_Md_job_225 ?_
                          refine R_puti (k := 18) X hM (by decide) rfl hR.1 p_Md_158 rfl rfl rfl d_Md_job_226 (fun H locs hM => ?_)
                          refine lv_aload_n X.1 X.2.1 d_Md_job_229 rfl (lv_at hl 7 rfl) ?_
                          refine R_geti (k := 18) X hM (by decide) rfl hR.1 f_Md_158 rfl d_Md_job_230 ?_
                          show W _ _ _ _ _ _ _ _ _ _ _ _ _ _ _ (F0 m 233 ls [.int ((r 18 31) + 1)])
                          refine lv_iconst (v := 1) X.1 X.2.1 d_Md_job_233 (by decide) ?_
                          refine lv_isub X.1 X.2.1 d_Md_job_234 ?_
                          have heL : (((r 18 31) + 1) - 1, (ru (ru (ru (ru (ru (ru (ru r 18 34 0) 42 ((r 18 31).toNatClampNeg) v1) 43 ((r 18 31).toNatClampNeg) v2) 44 ((r 18 31).toNatClampNeg) v6) 45 ((r 18 31).toNatClampNeg) 0) 39 ((r 18 31).toNatClampNeg) 0) 18 31 ((r 18 31) + 1))) = F := ((if_pos h54).trans ((if_neg h55).trans ((if_pos h66).trans ((if_pos h76).trans ((if_neg h86).trans ((if_neg h87).trans ((if_neg h88)))))))).symm.trans he
                          exact m_iret X hr hlk hM d_Md_job_235 ⟨Nat.le_of_ble_eq_true rfl, Nat.le_of_ble_eq_true rfl⟩ ⟨fun _ _ _ => rfl, fun _ => Nat.le_refl _⟩ ⟨congrArg (fun z => some (Value.int z.1)) heL, congrArg (fun z => rs M z.2) heL, rfl⟩
                        · skip
                          have hk := hk.1 h88
                          refine lv_aload_n X.1 X.2.1 d_Md_job_162 rfl (lv_at hl 7 rfl) ?_
                          refine lv_iconst (v := 2) X.1 X.2.1 d_Md_job_163 (by decide) ?_
                          refine r_cV (As := [.int 2]) (rest := []) X hml hl.1 hM (k_Md_fail l D dA base M ad hR (ru r 18 34 0) 2) c_Md_161 v_Md_fail kc_Md rfl hR.1 rfl (Nat.le_of_ble_eq_true rfl) ⟨rfl, rfl, Nat.le_of_ble_eq_true rfl, Nat.le_of_ble_eq_true rfl⟩ ⟨Nat.le_of_ble_eq_true rfl, Nat.le_of_ble_eq_true rfl⟩ d_Md_job_164 ?_
                          intro rv M1 ad1 H locs hP hM hE
                          obtain ⟨e1, e2, e3⟩ := hP
                          subst rv; subst M1; subst ad1
                          show W _ _ _ _ _ _ _ _ _ _ _ _ _ _ _ (F0 m 167 ls [.int ((m_fail (ru r 18 34 0) 2).1)])
                          have heL : ((m_fail (ru r 18 34 0) 2).1, (m_fail (ru r 18 34 0) 2).2) = F := ((if_pos h54).trans ((if_neg h55).trans ((if_pos h66).trans ((if_pos h76).trans ((if_neg h86).trans ((if_neg h87).trans ((if_pos h88)))))))).symm.trans he
                          exact m_iret X hr hlk hM d_Md_job_167 ⟨Nat.le_of_ble_eq_true rfl, Nat.le_of_ble_eq_true rfl⟩ ⟨fun _ _ _ => rfl, fun _ => Nat.le_refl _⟩ ⟨congrArg (fun z => some (Value.int z.1)) heL, congrArg (fun z => rs M z.2) heL, rfl⟩
                    · skip
                      have hk := hk.1 h86
                      refine lv_iload X.1 X.2.1 d_Md_job_144 (lv_at hl 3 rfl) ?_
                      have heL : (v4, (ru r 18 34 0)) = F := ((if_pos h54).trans ((if_neg h55).trans ((if_pos h66).trans ((if_pos h76).trans ((if_pos h86)))))).symm.trans he
                      exact m_iret X hr hlk hM d_Md_job_146 ⟨Nat.le_of_ble_eq_true rfl, Nat.le_of_ble_eq_true rfl⟩ ⟨fun _ _ _ => rfl, fun _ => Nat.le_refl _⟩ ⟨congrArg (fun z => some (Value.int z.1)) heL, congrArg (fun z => rs M z.2) heL, rfl⟩
            · skip
              have hk := hk.2 h54
              refine lv_aload_n X.1 X.2.1 d_Md_job_64 rfl (lv_at hl 7 rfl) ?_
              refine r_gets (q := 0) X hM rfl hR.1 f_Md_83 rfl (hR.2 24 (by decide)) d_Md_job_65 (fun g95 => ?_)
              refine lv_iload X.1 X.2.1 d_Md_job_68 (lv_at hl 6 rfl) ?_
              obtain ⟨o96, hk⟩ := hk
              refine R_iald (k := 43) X hM (by decide) rfl g95 a_m_jobScope (fun _ => rfl) o96.1 o96.2 d_Md_job_70 ?_
              refine lv_iload_n X.1 X.2.1 d_Md_job_71 rfl (lv_at hl 1 rfl) ?_
              refine lv_icmp_ne (tgt := 95) X.1 X.2.1 d_Md_job_72 (by decide) (fun h97 => ?_) (fun h97 => ?_)
              · skip
                have hk := hk.2 h97
                refine lv_iinc (v := v7 + 1) (lv' := [(7, .int (v7 + 1)), (1, .int v1), (2, .int v2), (3, .int v3), (4, .int v4), (5, .int v5), (6, .int v6), (0, .ref (ad 18 0))]) X.1 X.2.1 d_Md_job_95 hl (k := 6) rfl rfl (by decide) rfl (fun ls hl => ?_)
                refine lv_goto (tgt := 55) X.1 X.2.1 d_Md_job_98 (by decide) ?_
                exact ih _ _ ls ⟨_, _, _, _, _, _, _, _, hM, lv_sub hl [1, 2, 3, 4, 5, 6, 0, 7] rfl, hk, ((if_neg h54).trans ((if_neg h97))).symm.trans he⟩
              · skip
                have hk := hk.1 h97
                refine lv_aload_n X.1 X.2.1 d_Md_job_75 rfl (lv_at hl 7 rfl) ?_
                refine r_gets (q := 0) X hM rfl hR.1 f_Md_89 rfl (hR.2 26 (by decide)) d_Md_job_76 (fun g98 => ?_)
                refine lv_iload X.1 X.2.1 d_Md_job_79 (lv_at hl 6 rfl) ?_
                refine R_iald (k := 45) X hM (by decide) rfl g98 a_m_outcome (fun _ => rfl) o96.1 o96.2 d_Md_job_81 ?_
                refine lv_if_eq (tgt := 88) X.1 X.2.1 d_Md_job_82 (by decide) (fun h99 => ?_) (fun h99 => ?_)
                · skip
                  have hk := hk.1 h99
                  refine lv_iload X.1 X.2.1 d_Md_job_88 (lv_at hl 6 rfl) ?_
                  refine lv_istore (lv' := [(4, .int v7), (1, .int v1), (2, .int v2), (3, .int v3), (5, .int v5), (6, .int v6), (7, .int v7), (0, .ref (ad 18 0))]) X.1 X.2.1 d_Md_job_90 hl (by decide) rfl (fun ls hl => ?_)
                  refine lv_iinc (v := v5 + 1) (lv' := [(5, .int (v5 + 1)), (4, .int v7), (1, .int v1), (2, .int v2), (3, .int v3), (6, .int v6), (7, .int v7), (0, .ref (ad 18 0))]) X.1 X.2.1 d_Md_job_92 hl (k := 4) rfl rfl (by decide) rfl (fun ls hl => ?_)
                  refine lv_iinc (v := v7 + 1) (lv' := [(7, .int (v7 + 1)), (5, .int (v5 + 1)), (4, .int v7), (1, .int v1), (2, .int v2), (3, .int v3), (6, .int v6), (0, .ref (ad 18 0))]) X.1 X.2.1 d_Md_job_95 hl (k := 6) rfl rfl (by decide) rfl (fun ls hl => ?_)
                  refine lv_goto (tgt := 55) X.1 X.2.1 d_Md_job_98 (by decide) ?_
                  exact ih _ _ ls ⟨_, _, _, _, _, _, _, _, hM, lv_sub hl [3, 4, 5, 2, 1, 6, 0, 7] rfl, hk, ((if_neg h54).trans ((if_pos h97).trans ((if_pos h99)))).symm.trans he⟩
                · skip
                  have hk := hk.2 h99
                  refine lv_goto (tgt := 95) X.1 X.2.1 d_Md_job_85 (by decide) ?_
                  refine lv_iinc (v := v7 + 1) (lv' := [(7, .int (v7 + 1)), (1, .int v1), (2, .int v2), (3, .int v3), (4, .int v4), (5, .int v5), (6, .int v6), (0, .ref (ad 18 0))]) X.1 X.2.1 d_Md_job_95 hl (k := 6) rfl rfl (by decide) rfl (fun ls hl => ?_)
                  refine lv_goto (tgt := 55) X.1 X.2.1 d_Md_job_98 (by decide) ?_
                  exact ih _ _ ls ⟨_, _, _, _, _, _, _, _, hM, lv_sub hl [1, 2, 3, 4, 5, 6, 0, 7] rfl, hk, ((if_neg h54).trans ((if_pos h97).trans ((if_neg h99)))).symm.trans he⟩
        · skip
          have hk := hk.1 h52
          refine lv_aload_n X.1 X.2.1 d_Md_job_29 rfl (lv_at hl 0 rfl) ?_
          refine lv_iconst (v := 1) X.1 X.2.1 d_Md_job_30 (by decide) ?_
          refine r_cV (As := [.int 1]) (rest := []) X hml hl.1 hM (k_Md_fail l D dA base M ad hR r 1) c_Md_161 v_Md_fail kc_Md rfl hR.1 rfl (Nat.le_of_ble_eq_true rfl) ⟨rfl, rfl, Nat.le_of_ble_eq_true rfl, Nat.le_of_ble_eq_true rfl⟩ ⟨Nat.le_of_ble_eq_true rfl, Nat.le_of_ble_eq_true rfl⟩ d_Md_job_31 ?_
          intro rv M1 ad1 H locs hP hM hE
          obtain ⟨e1, e2, e3⟩ := hP
          subst rv; subst M1; subst ad1
          show W _ _ _ _ _ _ _ _ _ _ _ _ _ _ _ (F0 m 34 ls [.int ((m_fail r 1).1)])
          have heL : ((m_fail r 1).1, (m_fail r 1).2) = F := ((if_neg h1).trans ((if_neg h3).trans ((if_pos h4).trans ((if_pos h52))))).symm.trans he
          exact m_iret X hr hlk hM d_Md_job_34 ⟨Nat.le_of_ble_eq_true rfl, Nat.le_of_ble_eq_true rfl⟩ ⟨fun _ _ _ => rfl, fun _ => Nat.le_refl _⟩ ⟨congrArg (fun z => some (Value.int z.1)) heL, congrArg (fun z => rs M z.2) heL, rfl⟩
def m_install (r : rR) (a0 : Int32) (a1 : Int32) : rR := (m_come (ru (ru (ru (ru (ru (ru (ru (ru r 18 30 ((r 18 30) + 1)) 23 (((r 18 30) + 1).toNatClampNeg) a1) 25 (((r 18 30) + 1).toNatClampNeg) (r 19 (a1.toNatClampNeg))) 26 (((r 18 30) + 1).toNatClampNeg) (r 21 (a1.toNatClampNeg))) 27 (((r 18 30) + 1).toNatClampNeg) (r 22 (a1.toNatClampNeg))) 28 (((r 18 30) + 1).toNatClampNeg) 0) 31 (((r 18 30) + 1).toNatClampNeg) 0) 34 (a0.toNatClampNeg) ((r 18 30) + 1)) ((r 18 30) + 1) 1)
def m_install_ok (r : rR) (a0 : Int32) (a1 : Int32) : Prop := (ixk ((r 18 30) + 1) 41) ∧ ((ixk a1 4) ∧ ((ixk a0 6) ∧ (m_come_ok (ru (ru (ru (ru (ru (ru (ru (ru r 18 30 ((r 18 30) + 1)) 23 (((r 18 30) + 1).toNatClampNeg) a1) 25 (((r 18 30) + 1).toNatClampNeg) (r 19 (a1.toNatClampNeg))) 26 (((r 18 30) + 1).toNatClampNeg) (r 21 (a1.toNatClampNeg))) 27 (((r 18 30) + 1).toNatClampNeg) (r 22 (a1.toNatClampNeg))) 28 (((r 18 30) + 1).toNatClampNeg) 0) 31 (((r 18 30) + 1).toNatClampNeg) 0) 34 (a0.toNatClampNeg) ((r 18 30) + 1)) ((r 18 30) + 1) 1)))
set_option maxHeartbeats 4000000 in
set_option maxRecDepth 100000 in
theorem k_Md_install (l : Launch) (D : va_G) (dA : Nat → ClassId) (base : Nat) (M : mM) (ad : Nat → Nat → Nat) (hR : wR M) (r : rR) (a0 : Int32) (a1 : Int32) (hk : m_install_ok r a0 a1) : mMet l y_Md_install b_Md_install 4 none ({ frames := 2, cells := 0, slots := 0, locals := 43 } : Room) 0 0 D dA base (rs M r) ad [.ref (ad 18 0), .int a0, .int a1] (fun rv M' ad' => rv = none ∧ M' = rs M (m_install r a0 a1) ∧ ad' = ad) := by
  refine m_start (lvs := [(0, .ref (ad 18 0)), (1, .int a0), (2, .int a1)]) (by decide) (Nat.le_of_ble_eq_true rfl) rfl ?_
  intro p e s m below meth c ls X hr hlk hin hml hM hl
  generalize he : m_install r a0 a1 = F
  refine lv_aload_n X.1 X.2.1 d_Md_install_0 rfl (lv_at hl 0 rfl) ?_
  refine lv_dup X.1 X.2.1 d_Md_install_1 rfl ?_
  refine R_geti (k := 18) X hM (by decide) rfl hR.1 f_Md_164 rfl d_Md_install_2 ?_
  refine lv_iconst (v := 1) X.1 X.2.1 d_Md_install_5 (by decide) ?_
  refine lv_iadd X.1 X.2.1 d_Md_install_6 ?_
  refine R_puti (k := 18) X hM (by decide) rfl hR.1 p_Md_164 rfl rfl rfl d_Md_install_7 (fun H locs hM => ?_)
  refine lv_aload_n X.1 X.2.1 d_Md_install_10 rfl (lv_at hl 0 rfl) ?_
  refine R_geti (k := 18) X hM (by decide) rfl hR.1 f_Md_164 rfl d_Md_install_11 ?_
  show W _ _ _ _ _ _ _ _ _ _ _ _ _ _ _ (F0 m 14 ls [.int ((r 18 30) + 1)])
  refine lv_istore_n (lv' := [(3, .int ((r 18 30) + 1)), (0, .ref (ad 18 0)), (1, .int a0), (2, .int a1)]) X.1 X.2.1 d_Md_install_14 rfl hl (by decide) rfl (fun ls hl => ?_)
  refine lv_aload_n X.1 X.2.1 d_Md_install_15 rfl (lv_at hl 1 rfl) ?_
  refine r_gets (q := 0) X hM rfl hR.1 f_Md_22 rfl (hR.2 4 (by decide)) d_Md_install_16 (fun g1 => ?_)
  refine lv_iload_n X.1 X.2.1 d_Md_install_19 rfl (lv_at hl 0 rfl) ?_
  refine lv_iload_n X.1 X.2.1 d_Md_install_20 rfl (lv_at hl 3 rfl) ?_
  obtain ⟨o2, hk⟩ := hk
  refine R_iast (k := 23) X hM (by decide) rfl g1 a_m_madeOf (fun _ => rfl) o2.1 o2.2 d_Md_install_21 (fun H locs hM => ?_)
  refine lv_aload_n X.1 X.2.1 d_Md_install_22 rfl (lv_at hl 1 rfl) ?_
  refine r_gets (q := 0) X hM rfl hR.1 f_Md_28 rfl (hR.2 6 (by decide)) d_Md_install_23 (fun g3 => ?_)
  refine lv_iload_n X.1 X.2.1 d_Md_install_26 rfl (lv_at hl 0 rfl) ?_
  refine lv_aload_n X.1 X.2.1 d_Md_install_27 rfl (lv_at hl 1 rfl) ?_
  refine r_gets (q := 0) X hM rfl hR.1 f_Md_7 rfl (hR.2 0 (by decide)) d_Md_install_28 (fun g4 => ?_)
  refine lv_iload_n X.1 X.2.1 d_Md_install_31 rfl (lv_at hl 3 rfl) ?_
  obtain ⟨o5, hk⟩ := hk
  refine R_iald (k := 19) X hM (by decide) rfl g4 a_m_content (fun _ => rfl) o5.1 o5.2 d_Md_install_32 ?_
  show W _ _ _ _ _ _ _ _ _ _ _ _ _ _ _ (F0 m 33 ls [.int (r 19 (a1.toNatClampNeg)), .int ((r 18 30) + 1), .ref (ad 25 0)])
  refine R_iast (k := 25) X hM (by decide) rfl g3 a_m_told (fun _ => rfl) o2.1 o2.2 d_Md_install_33 (fun H locs hM => ?_)
  refine lv_aload_n X.1 X.2.1 d_Md_install_34 rfl (lv_at hl 1 rfl) ?_
  refine r_gets (q := 0) X hM rfl hR.1 f_Md_31 rfl (hR.2 7 (by decide)) d_Md_install_35 (fun g6 => ?_)
  refine lv_iload_n X.1 X.2.1 d_Md_install_38 rfl (lv_at hl 0 rfl) ?_
  refine lv_aload_n X.1 X.2.1 d_Md_install_39 rfl (lv_at hl 1 rfl) ?_
  refine r_gets (q := 0) X hM rfl hR.1 f_Md_16 rfl (hR.2 2 (by decide)) d_Md_install_40 (fun g7 => ?_)
  refine lv_iload_n X.1 X.2.1 d_Md_install_43 rfl (lv_at hl 3 rfl) ?_
  refine R_iald (k := 21) X hM (by decide) rfl g7 a_m_flaw (fun _ => rfl) o5.1 o5.2 d_Md_install_44 ?_
  show W _ _ _ _ _ _ _ _ _ _ _ _ _ _ _ (F0 m 45 ls [.int (r 21 (a1.toNatClampNeg)), .int ((r 18 30) + 1), .ref (ad 26 0)])
  refine R_iast (k := 26) X hM (by decide) rfl g6 a_m_spoilt (fun _ => rfl) o2.1 o2.2 d_Md_install_45 (fun H locs hM => ?_)
  refine lv_aload_n X.1 X.2.1 d_Md_install_46 rfl (lv_at hl 1 rfl) ?_
  refine r_gets (q := 0) X hM rfl hR.1 f_Md_34 rfl (hR.2 8 (by decide)) d_Md_install_47 (fun g8 => ?_)
  refine lv_iload_n X.1 X.2.1 d_Md_install_50 rfl (lv_at hl 0 rfl) ?_
  refine lv_aload_n X.1 X.2.1 d_Md_install_51 rfl (lv_at hl 1 rfl) ?_
  refine r_gets (q := 0) X hM rfl hR.1 f_Md_19 rfl (hR.2 3 (by decide)) d_Md_install_52 (fun g9 => ?_)
  refine lv_iload_n X.1 X.2.1 d_Md_install_55 rfl (lv_at hl 3 rfl) ?_
  refine R_iald (k := 22) X hM (by decide) rfl g9 a_m_mode (fun _ => rfl) o5.1 o5.2 d_Md_install_56 ?_
  show W _ _ _ _ _ _ _ _ _ _ _ _ _ _ _ (F0 m 57 ls [.int (r 22 (a1.toNatClampNeg)), .int ((r 18 30) + 1), .ref (ad 27 0)])
  refine R_iast (k := 27) X hM (by decide) rfl g8 a_m_way (fun _ => rfl) o2.1 o2.2 d_Md_install_57 (fun H locs hM => ?_)
  refine lv_aload_n X.1 X.2.1 d_Md_install_58 rfl (lv_at hl 1 rfl) ?_
  refine r_gets (q := 0) X hM rfl hR.1 f_Md_37 rfl (hR.2 9 (by decide)) d_Md_install_59 (fun g10 => ?_)
  refine lv_iload_n X.1 X.2.1 d_Md_install_62 rfl (lv_at hl 0 rfl) ?_
  refine lv_iconst (v := 0) X.1 X.2.1 d_Md_install_63 (by decide) ?_
  refine R_iast (k := 28) X hM (by decide) rfl g10 a_m_kept (fun _ => rfl) o2.1 o2.2 d_Md_install_64 (fun H locs hM => ?_)
  refine lv_aload_n X.1 X.2.1 d_Md_install_65 rfl (lv_at hl 1 rfl) ?_
  refine r_gets (q := 0) X hM rfl hR.1 f_Md_46 rfl (hR.2 12 (by decide)) d_Md_install_66 (fun g11 => ?_)
  refine lv_iload_n X.1 X.2.1 d_Md_install_69 rfl (lv_at hl 0 rfl) ?_
  refine lv_iconst (v := 0) X.1 X.2.1 d_Md_install_70 (by decide) ?_
  refine R_zast (k := 31) X hM (by decide) rfl g11 a_m_skips (fun _ => rfl) o2.1 o2.2 rfl d_Md_install_71 (fun H locs hM => ?_)
  refine lv_aload_n X.1 X.2.1 d_Md_install_72 rfl (lv_at hl 1 rfl) ?_
  refine r_gets (q := 0) X hM rfl hR.1 f_Md_56 rfl (hR.2 15 (by decide)) d_Md_install_73 (fun g12 => ?_)
  refine lv_iload_n X.1 X.2.1 d_Md_install_76 rfl (lv_at hl 2 rfl) ?_
  refine lv_iload_n X.1 X.2.1 d_Md_install_77 rfl (lv_at hl 0 rfl) ?_
  obtain ⟨o13, hk⟩ := hk
  refine R_iast (k := 34) X hM (by decide) rfl g12 a_m_installing (fun _ => rfl) o13.1 o13.2 d_Md_install_78 (fun H locs hM => ?_)
  refine lv_aload_n X.1 X.2.1 d_Md_install_79 rfl (lv_at hl 1 rfl) ?_
  refine lv_iload_n X.1 X.2.1 d_Md_install_80 rfl (lv_at hl 0 rfl) ?_
  refine lv_iconst (v := 1) X.1 X.2.1 d_Md_install_81 (by decide) ?_
  have o14 := hk
  refine r_cV (As := [.int ((r 18 30) + 1), .int 1]) (rest := []) X hml hl.1 hM (k_Md_come l D dA base M ad hR (ru (ru (ru (ru (ru (ru (ru (ru r 18 30 ((r 18 30) + 1)) 23 (((r 18 30) + 1).toNatClampNeg) a1) 25 (((r 18 30) + 1).toNatClampNeg) (r 19 (a1.toNatClampNeg))) 26 (((r 18 30) + 1).toNatClampNeg) (r 21 (a1.toNatClampNeg))) 27 (((r 18 30) + 1).toNatClampNeg) (r 22 (a1.toNatClampNeg))) 28 (((r 18 30) + 1).toNatClampNeg) 0) 31 (((r 18 30) + 1).toNatClampNeg) 0) 34 (a0.toNatClampNeg) ((r 18 30) + 1)) ((r 18 30) + 1) 1 o14) c_Md_139 v_Md_come kc_Md rfl hR.1 rfl (Nat.le_of_ble_eq_true rfl) ⟨rfl, rfl, Nat.le_of_ble_eq_true rfl, Nat.le_of_ble_eq_true rfl⟩ ⟨Nat.le_of_ble_eq_true rfl, Nat.le_of_ble_eq_true rfl⟩ d_Md_install_82 ?_
  intro rv M1 ad1 H locs hP hM hE
  obtain ⟨e1, e2, e3⟩ := hP
  subst rv; subst M1; subst ad1
  show W _ _ _ _ _ _ _ _ _ _ _ _ _ _ _ (F0 m 85 ls [])
  have heL : (m_come (ru (ru (ru (ru (ru (ru (ru (ru r 18 30 ((r 18 30) + 1)) 23 (((r 18 30) + 1).toNatClampNeg) a1) 25 (((r 18 30) + 1).toNatClampNeg) (r 19 (a1.toNatClampNeg))) 26 (((r 18 30) + 1).toNatClampNeg) (r 21 (a1.toNatClampNeg))) 27 (((r 18 30) + 1).toNatClampNeg) (r 22 (a1.toNatClampNeg))) 28 (((r 18 30) + 1).toNatClampNeg) 0) 31 (((r 18 30) + 1).toNatClampNeg) 0) 34 (a0.toNatClampNeg) ((r 18 30) + 1)) ((r 18 30) + 1) 1) = F := (rfl).symm.trans he
  exact m_vret X hr hlk hM d_Md_install_85 ⟨Nat.le_of_ble_eq_true rfl, Nat.le_of_ble_eq_true rfl⟩ ⟨fun _ _ _ => rfl, fun _ => Nat.le_refl _⟩ ⟨rfl, congrArg (rs M) heL, rfl⟩
def m_isSame (r : rR) (a0 : Int32) (a1 : Int32) : Int32 := (if (r 34 (a0.toNatClampNeg)) ≤ 0 then (if (r 35 (a0.toNatClampNeg)) ≤ 0 then (if (r 33 (a0.toNatClampNeg)) = a1 then (if (r 36 (a0.toNatClampNeg)) ≤ 0 then 0 else (if (r 25 ((r 36 (a0.toNatClampNeg)).toNatClampNeg)) = (r 19 (a1.toNatClampNeg)) then 1 else 0)) else 0) else (if (r 33 (a0.toNatClampNeg)) = a1 then (if (r 25 ((r 35 (a0.toNatClampNeg)).toNatClampNeg)) = (r 19 (a1.toNatClampNeg)) then 1 else 0) else 0)) else (if (r 33 (a0.toNatClampNeg)) = a1 then (if (r 25 ((r 34 (a0.toNatClampNeg)).toNatClampNeg)) = (r 19 (a1.toNatClampNeg)) then 1 else 0) else 0))
def m_isSame_ok (r : rR) (a0 : Int32) (a1 : Int32) : Prop := (ixk a0 6) ∧ ((((r 34 (a0.toNatClampNeg)) ≤ 0) → ((((r 35 (a0.toNatClampNeg)) ≤ 0) → ((((r 33 (a0.toNatClampNeg)) = a1) → ((((r 36 (a0.toNatClampNeg)) ≤ 0) → (True)) ∧ (¬ ((r 36 (a0.toNatClampNeg)) ≤ 0) → ((ixk (r 36 (a0.toNatClampNeg)) 41) ∧ (ixk a1 4))))) ∧ (¬ ((r 33 (a0.toNatClampNeg)) = a1) → (True)))) ∧ (¬ ((r 35 (a0.toNatClampNeg)) ≤ 0) → ((((r 33 (a0.toNatClampNeg)) = a1) → ((ixk (r 35 (a0.toNatClampNeg)) 41) ∧ (ixk a1 4))) ∧ (¬ ((r 33 (a0.toNatClampNeg)) = a1) → (True)))))) ∧ (¬ ((r 34 (a0.toNatClampNeg)) ≤ 0) → ((((r 33 (a0.toNatClampNeg)) = a1) → ((ixk (r 34 (a0.toNatClampNeg)) 41) ∧ (ixk a1 4))) ∧ (¬ ((r 33 (a0.toNatClampNeg)) = a1) → (True)))))
set_option maxHeartbeats 4000000 in
set_option maxRecDepth 100000 in
theorem k_Md_isSame (l : Launch) (D : va_G) (dA : Nat → ClassId) (base : Nat) (M : mM) (ad : Nat → Nat → Nat) (hR : wR M) (r : rR) (a0 : Int32) (a1 : Int32) (hk : m_isSame_ok r a0 a1) : mMet l y_Md_isSame b_Md_isSame 4 (some FieldType.boolean) ({ frames := 0, cells := 0, slots := 0, locals := 0 } : Room) 0 0 D dA base (rs M r) ad [.ref (ad 18 0), .int a0, .int a1] (fun rv M' ad' => rv = some (.int (m_isSame r a0 a1)) ∧ M' = rs M r ∧ ad' = ad) := by
  refine m_start (lvs := [(0, .ref (ad 18 0)), (1, .int a0), (2, .int a1)]) (by decide) (Nat.le_of_ble_eq_true rfl) rfl ?_
  intro p e s m below meth c ls X hr hlk hin hml hM hl
  generalize he : m_isSame r a0 a1 = F
  refine lv_aload_n X.1 X.2.1 d_Md_isSame_0 rfl (lv_at hl 0 rfl) ?_
  refine r_gets (q := 0) X hM rfl hR.1 f_Md_56 rfl (hR.2 15 (by decide)) d_Md_isSame_1 (fun g1 => ?_)
  refine lv_iload_n X.1 X.2.1 d_Md_isSame_4 rfl (lv_at hl 1 rfl) ?_
  obtain ⟨o2, hk⟩ := hk
  refine R_iald (k := 34) X hM (by decide) rfl g1 a_m_installing (fun _ => rfl) o2.1 o2.2 d_Md_isSame_5 ?_
  refine lv_if_le (tgt := 18) X.1 X.2.1 d_Md_isSame_6 (by decide) (fun h3 => ?_) (fun h3 => ?_)
  · skip
    have hk := hk.1 h3
    refine lv_aload_n X.1 X.2.1 d_Md_isSame_18 rfl (lv_at hl 0 rfl) ?_
    refine r_gets (q := 0) X hM rfl hR.1 f_Md_59 rfl (hR.2 16 (by decide)) d_Md_isSame_19 (fun g4 => ?_)
    refine lv_iload_n X.1 X.2.1 d_Md_isSame_22 rfl (lv_at hl 1 rfl) ?_
    refine R_iald (k := 35) X hM (by decide) rfl g4 a_m_waiting (fun _ => rfl) o2.1 o2.2 d_Md_isSame_23 ?_
    refine lv_if_le (tgt := 36) X.1 X.2.1 d_Md_isSame_24 (by decide) (fun h5 => ?_) (fun h5 => ?_)
    · skip
      have hk := hk.1 h5
      refine lv_aload_n X.1 X.2.1 d_Md_isSame_36 rfl (lv_at hl 0 rfl) ?_
      refine r_gets (q := 0) X hM rfl hR.1 f_Md_62 rfl (hR.2 17 (by decide)) d_Md_isSame_37 (fun g6 => ?_)
      refine lv_iload_n X.1 X.2.1 d_Md_isSame_40 rfl (lv_at hl 1 rfl) ?_
      refine R_iald (k := 36) X hM (by decide) rfl g6 a_m_active (fun _ => rfl) o2.1 o2.2 d_Md_isSame_41 ?_
      refine lv_istore_n (lv' := [(3, .int (r 36 (a0.toNatClampNeg))), (0, .ref (ad 18 0)), (1, .int a0), (2, .int a1)]) X.1 X.2.1 d_Md_isSame_42 rfl hl (by decide) rfl (fun ls hl => ?_)
      refine lv_aload_n X.1 X.2.1 d_Md_isSame_43 rfl (lv_at hl 1 rfl) ?_
      refine r_gets (q := 0) X hM rfl hR.1 f_Md_53 rfl (hR.2 14 (by decide)) d_Md_isSame_44 (fun g7 => ?_)
      refine lv_iload_n X.1 X.2.1 d_Md_isSame_47 rfl (lv_at hl 2 rfl) ?_
      refine R_iald (k := 33) X hM (by decide) rfl g7 a_m_script (fun _ => rfl) o2.1 o2.2 d_Md_isSame_48 ?_
      refine lv_iload_n X.1 X.2.1 d_Md_isSame_49 rfl (lv_at hl 3 rfl) ?_
      refine lv_icmp_ne (tgt := 76) X.1 X.2.1 d_Md_isSame_50 (by decide) (fun h8 => ?_) (fun h8 => ?_)
      · skip
        have hk := hk.2 h8
        refine lv_iconst (v := 0) X.1 X.2.1 d_Md_isSame_76 (by decide) ?_
        have heL : 0 = F := ((if_pos h3).trans ((if_pos h5).trans ((if_neg h8)))).symm.trans he
        exact m_zret X hr hlk hM (by first | rfl | decide) d_Md_isSame_77 ⟨Nat.le_of_ble_eq_true rfl, Nat.le_of_ble_eq_true rfl⟩ ⟨fun _ _ _ => rfl, fun _ => Nat.le_refl _⟩ ⟨congrArg (fun z => some (Value.int z)) heL, rfl, rfl⟩
      · skip
        have hk := hk.1 h8
        refine lv_iload_n X.1 X.2.1 d_Md_isSame_53 rfl (lv_at hl 0 rfl) ?_
        refine lv_if_le (tgt := 76) X.1 X.2.1 d_Md_isSame_54 (by decide) (fun h9 => ?_) (fun h9 => ?_)
        · skip
          have hk := hk.1 h9
          refine lv_iconst (v := 0) X.1 X.2.1 d_Md_isSame_76 (by decide) ?_
          have heL : 0 = F := ((if_pos h3).trans ((if_pos h5).trans ((if_pos h8).trans ((if_pos h9))))).symm.trans he
          exact m_zret X hr hlk hM (by first | rfl | decide) d_Md_isSame_77 ⟨Nat.le_of_ble_eq_true rfl, Nat.le_of_ble_eq_true rfl⟩ ⟨fun _ _ _ => rfl, fun _ => Nat.le_refl _⟩ ⟨congrArg (fun z => some (Value.int z)) heL, rfl, rfl⟩
        · skip
          have hk := hk.2 h9
          refine lv_aload_n X.1 X.2.1 d_Md_isSame_57 rfl (lv_at hl 1 rfl) ?_
          refine r_gets (q := 0) X hM rfl hR.1 f_Md_28 rfl (hR.2 6 (by decide)) d_Md_isSame_58 (fun g10 => ?_)
          refine lv_iload_n X.1 X.2.1 d_Md_isSame_61 rfl (lv_at hl 0 rfl) ?_
          obtain ⟨o11, hk⟩ := hk
          refine R_iald (k := 25) X hM (by decide) rfl g10 a_m_told (fun _ => rfl) o11.1 o11.2 d_Md_isSame_62 ?_
          refine lv_aload_n X.1 X.2.1 d_Md_isSame_63 rfl (lv_at hl 1 rfl) ?_
          refine r_gets (q := 0) X hM rfl hR.1 f_Md_7 rfl (hR.2 0 (by decide)) d_Md_isSame_64 (fun g12 => ?_)
          refine lv_iload_n X.1 X.2.1 d_Md_isSame_67 rfl (lv_at hl 3 rfl) ?_
          have o13 := hk
          refine R_iald (k := 19) X hM (by decide) rfl g12 a_m_content (fun _ => rfl) o13.1 o13.2 d_Md_isSame_68 ?_
          refine lv_icmp_ne (tgt := 76) X.1 X.2.1 d_Md_isSame_69 (by decide) (fun h14 => ?_) (fun h14 => ?_)
          · skip
            skip
            refine lv_iconst (v := 0) X.1 X.2.1 d_Md_isSame_76 (by decide) ?_
            have heL : 0 = F := ((if_pos h3).trans ((if_pos h5).trans ((if_pos h8).trans ((if_neg h9).trans ((if_neg h14)))))).symm.trans he
            exact m_zret X hr hlk hM (by first | rfl | decide) d_Md_isSame_77 ⟨Nat.le_of_ble_eq_true rfl, Nat.le_of_ble_eq_true rfl⟩ ⟨fun _ _ _ => rfl, fun _ => Nat.le_refl _⟩ ⟨congrArg (fun z => some (Value.int z)) heL, rfl, rfl⟩
          · skip
            skip
            refine lv_iconst (v := 1) X.1 X.2.1 d_Md_isSame_72 (by decide) ?_
            refine lv_goto (tgt := 77) X.1 X.2.1 d_Md_isSame_73 (by decide) ?_
            have heL : 1 = F := ((if_pos h3).trans ((if_pos h5).trans ((if_pos h8).trans ((if_neg h9).trans ((if_pos h14)))))).symm.trans he
            exact m_zret X hr hlk hM (by first | rfl | decide) d_Md_isSame_77 ⟨Nat.le_of_ble_eq_true rfl, Nat.le_of_ble_eq_true rfl⟩ ⟨fun _ _ _ => rfl, fun _ => Nat.le_refl _⟩ ⟨congrArg (fun z => some (Value.int z)) heL, rfl, rfl⟩
    · skip
      have hk := hk.2 h5
      refine lv_aload_n X.1 X.2.1 d_Md_isSame_27 rfl (lv_at hl 0 rfl) ?_
      refine r_gets (q := 0) X hM rfl hR.1 f_Md_59 rfl (hR.2 16 (by decide)) d_Md_isSame_28 (fun g15 => ?_)
      refine lv_iload_n X.1 X.2.1 d_Md_isSame_31 rfl (lv_at hl 1 rfl) ?_
      refine R_iald (k := 35) X hM (by decide) rfl g15 a_m_waiting (fun _ => rfl) o2.1 o2.2 d_Md_isSame_32 ?_
      refine lv_goto (tgt := 42) X.1 X.2.1 d_Md_isSame_33 (by decide) ?_
      refine lv_istore_n (lv' := [(3, .int (r 35 (a0.toNatClampNeg))), (0, .ref (ad 18 0)), (1, .int a0), (2, .int a1)]) X.1 X.2.1 d_Md_isSame_42 rfl hl (by decide) rfl (fun ls hl => ?_)
      refine lv_aload_n X.1 X.2.1 d_Md_isSame_43 rfl (lv_at hl 1 rfl) ?_
      refine r_gets (q := 0) X hM rfl hR.1 f_Md_53 rfl (hR.2 14 (by decide)) d_Md_isSame_44 (fun g16 => ?_)
      refine lv_iload_n X.1 X.2.1 d_Md_isSame_47 rfl (lv_at hl 2 rfl) ?_
      refine R_iald (k := 33) X hM (by decide) rfl g16 a_m_script (fun _ => rfl) o2.1 o2.2 d_Md_isSame_48 ?_
      refine lv_iload_n X.1 X.2.1 d_Md_isSame_49 rfl (lv_at hl 3 rfl) ?_
      refine lv_icmp_ne (tgt := 76) X.1 X.2.1 d_Md_isSame_50 (by decide) (fun h17 => ?_) (fun h17 => ?_)
      · skip
        have hk := hk.2 h17
        refine lv_iconst (v := 0) X.1 X.2.1 d_Md_isSame_76 (by decide) ?_
        have heL : 0 = F := ((if_pos h3).trans ((if_neg h5).trans ((if_neg h17)))).symm.trans he
        exact m_zret X hr hlk hM (by first | rfl | decide) d_Md_isSame_77 ⟨Nat.le_of_ble_eq_true rfl, Nat.le_of_ble_eq_true rfl⟩ ⟨fun _ _ _ => rfl, fun _ => Nat.le_refl _⟩ ⟨congrArg (fun z => some (Value.int z)) heL, rfl, rfl⟩
      · skip
        have hk := hk.1 h17
        refine lv_iload_n X.1 X.2.1 d_Md_isSame_53 rfl (lv_at hl 0 rfl) ?_
        refine lv_if_le (tgt := 76) X.1 X.2.1 d_Md_isSame_54 (by decide) (fun h18 => absurd h18 h5) (fun h18 => ?_)
        refine lv_aload_n X.1 X.2.1 d_Md_isSame_57 rfl (lv_at hl 1 rfl) ?_
        refine r_gets (q := 0) X hM rfl hR.1 f_Md_28 rfl (hR.2 6 (by decide)) d_Md_isSame_58 (fun g19 => ?_)
        refine lv_iload_n X.1 X.2.1 d_Md_isSame_61 rfl (lv_at hl 0 rfl) ?_
        obtain ⟨o20, hk⟩ := hk
        refine R_iald (k := 25) X hM (by decide) rfl g19 a_m_told (fun _ => rfl) o20.1 o20.2 d_Md_isSame_62 ?_
        refine lv_aload_n X.1 X.2.1 d_Md_isSame_63 rfl (lv_at hl 1 rfl) ?_
        refine r_gets (q := 0) X hM rfl hR.1 f_Md_7 rfl (hR.2 0 (by decide)) d_Md_isSame_64 (fun g21 => ?_)
        refine lv_iload_n X.1 X.2.1 d_Md_isSame_67 rfl (lv_at hl 3 rfl) ?_
        have o22 := hk
        refine R_iald (k := 19) X hM (by decide) rfl g21 a_m_content (fun _ => rfl) o22.1 o22.2 d_Md_isSame_68 ?_
        refine lv_icmp_ne (tgt := 76) X.1 X.2.1 d_Md_isSame_69 (by decide) (fun h23 => ?_) (fun h23 => ?_)
        · skip
          skip
          refine lv_iconst (v := 0) X.1 X.2.1 d_Md_isSame_76 (by decide) ?_
          have heL : 0 = F := ((if_pos h3).trans ((if_neg h5).trans ((if_pos h17).trans ((if_neg h23))))).symm.trans he
          exact m_zret X hr hlk hM (by first | rfl | decide) d_Md_isSame_77 ⟨Nat.le_of_ble_eq_true rfl, Nat.le_of_ble_eq_true rfl⟩ ⟨fun _ _ _ => rfl, fun _ => Nat.le_refl _⟩ ⟨congrArg (fun z => some (Value.int z)) heL, rfl, rfl⟩
        · skip
          skip
          refine lv_iconst (v := 1) X.1 X.2.1 d_Md_isSame_72 (by decide) ?_
          refine lv_goto (tgt := 77) X.1 X.2.1 d_Md_isSame_73 (by decide) ?_
          have heL : 1 = F := ((if_pos h3).trans ((if_neg h5).trans ((if_pos h17).trans ((if_pos h23))))).symm.trans he
          exact m_zret X hr hlk hM (by first | rfl | decide) d_Md_isSame_77 ⟨Nat.le_of_ble_eq_true rfl, Nat.le_of_ble_eq_true rfl⟩ ⟨fun _ _ _ => rfl, fun _ => Nat.le_refl _⟩ ⟨congrArg (fun z => some (Value.int z)) heL, rfl, rfl⟩
  · skip
    have hk := hk.2 h3
    refine lv_aload_n X.1 X.2.1 d_Md_isSame_9 rfl (lv_at hl 0 rfl) ?_
    refine r_gets (q := 0) X hM rfl hR.1 f_Md_56 rfl (hR.2 15 (by decide)) d_Md_isSame_10 (fun g24 => ?_)
    refine lv_iload_n X.1 X.2.1 d_Md_isSame_13 rfl (lv_at hl 1 rfl) ?_
    refine R_iald (k := 34) X hM (by decide) rfl g24 a_m_installing (fun _ => rfl) o2.1 o2.2 d_Md_isSame_14 ?_
    refine lv_goto (tgt := 42) X.1 X.2.1 d_Md_isSame_15 (by decide) ?_
    refine lv_istore_n (lv' := [(3, .int (r 34 (a0.toNatClampNeg))), (0, .ref (ad 18 0)), (1, .int a0), (2, .int a1)]) X.1 X.2.1 d_Md_isSame_42 rfl hl (by decide) rfl (fun ls hl => ?_)
    refine lv_aload_n X.1 X.2.1 d_Md_isSame_43 rfl (lv_at hl 1 rfl) ?_
    refine r_gets (q := 0) X hM rfl hR.1 f_Md_53 rfl (hR.2 14 (by decide)) d_Md_isSame_44 (fun g25 => ?_)
    refine lv_iload_n X.1 X.2.1 d_Md_isSame_47 rfl (lv_at hl 2 rfl) ?_
    refine R_iald (k := 33) X hM (by decide) rfl g25 a_m_script (fun _ => rfl) o2.1 o2.2 d_Md_isSame_48 ?_
    refine lv_iload_n X.1 X.2.1 d_Md_isSame_49 rfl (lv_at hl 3 rfl) ?_
    refine lv_icmp_ne (tgt := 76) X.1 X.2.1 d_Md_isSame_50 (by decide) (fun h26 => ?_) (fun h26 => ?_)
    · skip
      have hk := hk.2 h26
      refine lv_iconst (v := 0) X.1 X.2.1 d_Md_isSame_76 (by decide) ?_
      have heL : 0 = F := ((if_neg h3).trans ((if_neg h26))).symm.trans he
      exact m_zret X hr hlk hM (by first | rfl | decide) d_Md_isSame_77 ⟨Nat.le_of_ble_eq_true rfl, Nat.le_of_ble_eq_true rfl⟩ ⟨fun _ _ _ => rfl, fun _ => Nat.le_refl _⟩ ⟨congrArg (fun z => some (Value.int z)) heL, rfl, rfl⟩
    · skip
      have hk := hk.1 h26
      refine lv_iload_n X.1 X.2.1 d_Md_isSame_53 rfl (lv_at hl 0 rfl) ?_
      refine lv_if_le (tgt := 76) X.1 X.2.1 d_Md_isSame_54 (by decide) (fun h27 => absurd h27 h3) (fun h27 => ?_)
      refine lv_aload_n X.1 X.2.1 d_Md_isSame_57 rfl (lv_at hl 1 rfl) ?_
      refine r_gets (q := 0) X hM rfl hR.1 f_Md_28 rfl (hR.2 6 (by decide)) d_Md_isSame_58 (fun g28 => ?_)
      refine lv_iload_n X.1 X.2.1 d_Md_isSame_61 rfl (lv_at hl 0 rfl) ?_
      obtain ⟨o29, hk⟩ := hk
      refine R_iald (k := 25) X hM (by decide) rfl g28 a_m_told (fun _ => rfl) o29.1 o29.2 d_Md_isSame_62 ?_
      refine lv_aload_n X.1 X.2.1 d_Md_isSame_63 rfl (lv_at hl 1 rfl) ?_
      refine r_gets (q := 0) X hM rfl hR.1 f_Md_7 rfl (hR.2 0 (by decide)) d_Md_isSame_64 (fun g30 => ?_)
      refine lv_iload_n X.1 X.2.1 d_Md_isSame_67 rfl (lv_at hl 3 rfl) ?_
      have o31 := hk
      refine R_iald (k := 19) X hM (by decide) rfl g30 a_m_content (fun _ => rfl) o31.1 o31.2 d_Md_isSame_68 ?_
      refine lv_icmp_ne (tgt := 76) X.1 X.2.1 d_Md_isSame_69 (by decide) (fun h32 => ?_) (fun h32 => ?_)
      · skip
        skip
        refine lv_iconst (v := 0) X.1 X.2.1 d_Md_isSame_76 (by decide) ?_
        have heL : 0 = F := ((if_neg h3).trans ((if_pos h26).trans ((if_neg h32)))).symm.trans he
        exact m_zret X hr hlk hM (by first | rfl | decide) d_Md_isSame_77 ⟨Nat.le_of_ble_eq_true rfl, Nat.le_of_ble_eq_true rfl⟩ ⟨fun _ _ _ => rfl, fun _ => Nat.le_refl _⟩ ⟨congrArg (fun z => some (Value.int z)) heL, rfl, rfl⟩
      · skip
        skip
        refine lv_iconst (v := 1) X.1 X.2.1 d_Md_isSame_72 (by decide) ?_
        refine lv_goto (tgt := 77) X.1 X.2.1 d_Md_isSame_73 (by decide) ?_
        have heL : 1 = F := ((if_neg h3).trans ((if_pos h26).trans ((if_pos h32)))).symm.trans he
        exact m_zret X hr hlk hM (by first | rfl | decide) d_Md_isSame_77 ⟨Nat.le_of_ble_eq_true rfl, Nat.le_of_ble_eq_true rfl⟩ ⟨fun _ _ _ => rfl, fun _ => Nat.le_refl _⟩ ⟨congrArg (fun z => some (Value.int z)) heL, rfl, rfl⟩
