/-- the clients of b are handed to n, the first i looked at -/
def hnd (M : mM) (b n : Nat) : Nat → mM
  | 0 => M
  | i + 1 => if gr (hnd M b n i) 2 i 2 = some b then ctM (hnd M b n i) i (some n) else hnd M b n i
theorem hnd_t {M : mM} {b n i : Nat} (h : gr (hnd M b n i) 2 i 2 = some b) : hnd M b n (i + 1) = ctM (hnd M b n i) i (some n) := if_pos h
theorem hnd_f {M : mM} {b n i : Nat} (h : ¬ gr (hnd M b n i) 2 i 2 = some b) : hnd M b n (i + 1) = hnd M b n i := if_neg h
theorem hnd_kp (M : mM) (b n i : Nat) : kp M (hnd M b n i) := by
  induction i with
  | zero => exact kp_rf _
  | succ i ih =>
    by_cases h : gr (hnd M b n i) 2 i 2 = some b
    · rw [hnd_t h]; exact kp_tr ih (ctM_kp _ _ _)
    · rw [hnd_f h]; exact ih
theorem hnd_wT {M : mM} (ht : wT M) (b n i : Nat) : wT (hnd M b n i) := by
  induction i with
  | zero => exact ht
  | succ i ih =>
    by_cases h : gr (hnd M b n i) 2 i 2 = some b
    · rw [hnd_t h]; exact ctM_wT ih _ _
    · rw [hnd_f h]; exact ih
def act0 (M : mM) (g n : Nat) : mM := sr (sr M 5 g 3 none) 5 g 4 (some n)
def act1 (M : mM) (g n : Nat) (b : Option Nat) : mM := brM (act0 (brM M b 4) g n) (some n) 3
theorem act0_kp (M : mM) (g n : Nat) : kp M (act0 M g n) := kp_tr (kp_sr _ _ _ _ _ (by omega)) (kp_sr _ _ _ _ _ (by omega))
theorem act0_wT {M : mM} (ht : wT M) (g n : Nat) : wT (act0 M g n) := kt_w (M := M) rfl ht
theorem act1_kp (M : mM) (g n : Nat) (b : Option Nat) : kp M (act1 M g n b) := kp_tr (kp_tr (brM_kp _ _ _) (act0_kp _ _ _)) (brM_kp _ _ _)
theorem act1_wT {M : mM} (ht : wT M) (g n : Nat) (b : Option Nat) : wT (act1 M g n b) := brM_wT (act0_wT (brM_wT ht _ _) _ _) _ _
def actM (M : mM) (g n : Nat) (b : Option Nat) : mM := match b with
  | none => act1 M g n none
  | some b => hnd (act1 M g n (some b)) b n 8
theorem actM_kp (M : mM) (g n : Nat) (b : Option Nat) : kp M (actM M g n b) := by
  cases b with
  | none => exact act1_kp _ _ _ _
  | some b => exact kp_tr (act1_kp _ _ _ _) (hnd_kp _ _ _ _)
theorem actM_wT {M : mM} (ht : wT M) (g n : Nat) (b : Option Nat) : wT (actM M g n b) := by
  cases b with
  | none => exact act1_wT ht _ _ _
  | some b => exact hnd_wT (act1_wT ht _ _ _) _ _ _
def taM (M : mM) (g : Nat) : mM := match gr M 5 g 3 with
  | none => M
  | some n => if gi M 7 n 6 ≠ 0 ∨ ctl M (gr M 5 g 4) = 0 then actM M g n (gr M 5 g 4) else M
theorem taM_0 {M : mM} {g : Nat} (h : gr M 5 g 3 = none) : taM M g = M := by unfold taM; rw [h]
theorem taM_y {M : mM} {g n : Nat} (h : gr M 5 g 3 = some n) (h2 : gi M 7 n 6 ≠ 0 ∨ ctl M (gr M 5 g 4) = 0) : taM M g = actM M g n (gr M 5 g 4) := by unfold taM; rw [h]; exact if_pos h2
theorem taM_n {M : mM} {g n : Nat} (h : gr M 5 g 3 = some n) (h2 : ¬ (gi M 7 n 6 ≠ 0 ∨ ctl M (gr M 5 g 4) = 0)) : taM M g = M := by unfold taM; rw [h]; exact if_neg h2
theorem taM_kp (M : mM) (g : Nat) : kp M (taM M g) := by
  cases h : gr M 5 g 3 with
  | none => rw [taM_0 h]; exact kp_rf _
  | some n =>
    by_cases h2 : gi M 7 n 6 ≠ 0 ∨ ctl M (gr M 5 g 4) = 0
    · rw [taM_y h h2]; exact actM_kp _ _ _ _
    · rw [taM_n h h2]; exact kp_rf _
theorem taM_wT {M : mM} (ht : wT M) (g : Nat) : wT (taM M g) := by
  cases h : gr M 5 g 3 with
  | none => rw [taM_0 h]; exact ht
  | some n =>
    by_cases h2 : gi M 7 n 6 ≠ 0 ∨ ctl M (gr M 5 g 4) = 0
    · rw [taM_y h h2]; exact actM_wT ht _ _ _
    · rw [taM_n h h2]; exact ht
theorem nI_z {n : Nat} (h : n < 2147483648) (h2 : nI n = 0) : n = 0 := by
  have e := nI_clamp (n := n) h
  rw [h2] at e
  exact e.symm
theorem ctl_le (M : mM) (r : Option Nat) : ctl M r ≤ 8 := cn_le _ _
set_option maxHeartbeats 4000000 in
set_option maxRecDepth 100000 in
theorem k_K_tryActivation (l : Launch) (D : va_G) (dA : Nat → ClassId) (base : Nat) (M : mM) (ad : Nat → Nat → Nat) (hw : wK M) (ht : wT M) (g : Nat) (hg : g < gn M 5) : mMet l y_K_tryActivation b_K_tryActivation 5 none ({ frames := 4, cells := 0, slots := 0, locals := 120 } : Room) 0 0 D dA base M ad [.ref (ad 0 0), .ref (ad 5 g)] (fun rv M' ad' => rv = none ∧ M' = taM M g ∧ ad' = ad) := by
  refine m_start (lvs := [(0, .ref (ad 0 0)), (1, .ref (ad 5 g))]) (by decide) (Nat.le_of_ble_eq_true rfl) rfl ?_
  intro p e s m below meth c ls X hr hlk hin hml hM hl
  refine lv_aload_n X.1 X.2.1 d_K_tryActivation_0 rfl (lv_at hl 1 rfl) ?_
  refine r_getr X hM rfl hg f_K_196 rfl d_K_tryActivation_1 (fun hv1 => ?_)
  refine r_astore_n (lv' := [(2, rfv ad 7 (gr M 5 g 3)), (0, .ref (ad 0 0)), (1, .ref (ad 5 g))]) X.1 X.2.1 d_K_tryActivation_4 rfl hl (by decide) rfl (fun ls hl => ?_)
  refine lv_aload_n X.1 X.2.1 d_K_tryActivation_5 rfl (lv_at hl 2 rfl) ?_
  refine r_getr X hM rfl hg f_K_169 rfl d_K_tryActivation_6 (fun hv2 => ?_)
  refine r_astore_n (lv' := [(3, rfv ad 7 (gr M 5 g 4)), (2, rfv ad 7 (gr M 5 g 3)), (0, .ref (ad 0 0)), (1, .ref (ad 5 g))]) X.1 X.2.1 d_K_tryActivation_9 rfl hl (by decide) (by simp only [List.filter_cons, List.filter_nil, rfv_cat]; rfl) (fun ls hl => ?_)
  refine r_aload_n X.1 X.2.1 d_K_tryActivation_10 rfl (lv_at hl 1 rfl) ?_
  refine r_ifnull (tgt := 29) X.1 X.2.1 d_K_tryActivation_11 (by decide) (fun h11 => ?_) (fun n h11 => ?_)
  · skip
    rw [h11] at hl
    have hl : lv_has ls 5 [(3, rfv ad 7 (gr M 5 g 4)), (2, .null), (0, .ref (ad 0 0)), (1, .ref (ad 5 g))] := hl
    exact m_vret X hr hlk hM d_K_tryActivation_29 ⟨Nat.le_of_ble_eq_true rfl, Nat.le_of_ble_eq_true rfl⟩ (mExt_rf _ _) ⟨rfl, (taM_0 h11).symm, rfl⟩
  · skip
    rw [h11] at hl
    have hl : lv_has ls 5 [(3, rfv ad 7 (gr M 5 g 4)), (2, .ref (ad 7 n)), (0, .ref (ad 0 0)), (1, .ref (ad 5 g))] := hl
    refine lv_aload_n X.1 X.2.1 d_K_tryActivation_14 rfl (lv_at hl 1 rfl) ?_
    refine r_geti X hM rfl (hv1 n h11) f_K_204 rfl d_K_tryActivation_15 ?_
    refine lv_if_ne (tgt := 30) X.1 X.2.1 d_K_tryActivation_18 (by decide) (fun h18 => ?_) (fun h18 => ?_)
    · skip
      have hc : gi M 7 n 6 ≠ 0 ∨ ctl M (gr M 5 g 4) = 0 := Or.inl h18
      refine lv_aload_n X.1 X.2.1 d_K_tryActivation_30 rfl (lv_at hl 2 rfl) ?_
      refine r_aload_n X.1 X.2.1 d_K_tryActivation_31 rfl (lv_at hl 0 rfl) ?_
      refine lv_iconst (v := 4) X.1 X.2.1 d_K_tryActivation_32 (by decide) ?_
      refine r_cV (As := [rfv ad 7 (gr M 5 g 4), .int 4]) (rest := []) X hml hl.1 hM (k_K_bring l D dA base M ad hw ht (gr M 5 g 4) hv2 4) c_K_339 v_K_bring kc_K rfl (w_k hw) rfl (Nat.le_of_ble_eq_true rfl) ⟨rfl, rfl, Nat.le_of_ble_eq_true rfl, Nat.le_of_ble_eq_true rfl⟩ ⟨Nat.le_of_ble_eq_true rfl, Nat.le_of_ble_eq_true rfl⟩ d_K_tryActivation_33 ?_
      intro rv M1 ad1 H locs hP hM hE
      obtain ⟨e1, e2, e3⟩ := hP
      subst rv; subst M1; subst ad1
      have hk1 := brM_kp M (gr M 5 g 4) 4
      have hw1 := kp_w hk1 hw
      have ht1 := brM_wT ht (gr M 5 g 4) 4
      show W _ _ _ _ _ _ _ _ _ _ _ _ _ _ _ (F0 m 36 ls [])
      refine lv_aload_n X.1 X.2.1 d_K_tryActivation_36 rfl (lv_at hl 3 rfl) ?_
      refine lv_null X.1 X.2.1 d_K_tryActivation_37 ?_
      refine r_putr X hM rfl (kp_lv hk1 hg) p_K_196 rfl (x := none) (fun z hz => by cases hz) rfl rfl rfl d_K_tryActivation_38 (fun H locs hM => ?_)
      refine lv_aload_n X.1 X.2.1 d_K_tryActivation_41 rfl (lv_at hl 3 rfl) ?_
      refine lv_aload_n X.1 X.2.1 d_K_tryActivation_42 rfl (lv_at hl 1 rfl) ?_
      refine r_putr X hM rfl (kp_lv hk1 hg) p_K_169 rfl (x := (some n)) (fun z hz => by cases hz; exact (kp_lv hk1 (hv1 n h11))) rfl rfl rfl d_K_tryActivation_43 (fun H locs hM => ?_)
      have hw2 := kp_w (act0_kp (brM M (gr M 5 g 4) 4) g n) hw1
      have ht2 := act0_wT ht1 g n
      refine lv_aload_n X.1 X.2.1 d_K_tryActivation_46 rfl (lv_at hl 2 rfl) ?_
      refine lv_aload_n X.1 X.2.1 d_K_tryActivation_47 rfl (lv_at hl 1 rfl) ?_
      refine lv_iconst (v := 3) X.1 X.2.1 d_K_tryActivation_48 (by decide) ?_
      refine r_cV (As := [.ref (ad 7 n), .int 3]) (rest := []) X hml hl.1 hM (k_K_bring_s l D dA base (act0 (brM M (gr M 5 g 4) 4) g n) ad hw2 ht2 n (kp_lv hk1 (hv1 n h11)) 3) c_K_339 v_K_bring kc_K rfl (kp_lv hk1 (w_k hw)) rfl (Nat.le_of_ble_eq_true rfl) ⟨rfl, rfl, Nat.le_of_ble_eq_true rfl, Nat.le_of_ble_eq_true rfl⟩ ⟨Nat.le_of_ble_eq_true rfl, Nat.le_of_ble_eq_true rfl⟩ d_K_tryActivation_49 ?_
      intro rv M1 ad1 H locs hP hM hE
      obtain ⟨e1, e2, e3⟩ := hP
      subst rv; subst M1; subst ad1
      show W _ _ _ _ _ _ _ _ _ _ _ _ _ _ _ (F0 m 52 ls [])
      refine r_aload_n X.1 X.2.1 d_K_tryActivation_52 rfl (lv_at hl 0 rfl) ?_
      refine r_ifnonnull (tgt := 57) X.1 X.2.1 d_K_tryActivation_53 (by decide) (fun b h53 => ?_) (fun h53 => ?_)
      · skip
        rw [h53] at hl
        have hl : lv_has ls 5 [(3, .ref (ad 7 b)), (2, .ref (ad 7 n)), (0, .ref (ad 0 0)), (1, .ref (ad 5 g))] := hl
        refine lv_iconst (v := 0) X.1 X.2.1 d_K_tryActivation_57 (by decide) ?_
        refine lv_istore (lv' := [(4, .int 0), (3, .ref (ad 7 b)), (2, .ref (ad 7 n)), (0, .ref (ad 0 0)), (1, .ref (ad 5 g))]) X.1 X.2.1 d_K_tryActivation_58 hl (by decide) rfl (fun ls hl => ?_)
        have hbA : b < gn (act1 M g n (gr M 5 g 4)) 7 := ((kp_lq (brM_kp (act0 (brM M (gr M 5 g 4) 4) g n) (some n) 3) (kp_lq hk1 hv2)) b h53)
        have hnA : n < gn (act1 M g n (gr M 5 g 4)) 7 := (kp_lv (brM_kp (act0 (brM M (gr M 5 g 4) 4) g n) (some n) 3) (kp_lv hk1 (hv1 n h11)))
        have hgA : g < gn (act1 M g n (gr M 5 g 4)) 5 := (kp_lv (brM_kp (act0 (brM M (gr M 5 g 4) 4) g n) (some n) 3) (kp_lv hk1 hg))
        have hkA := act1_kp M g n (gr M 5 g 4)
        have hwA := kp_w hkA hw
        have htA := act1_wT ht g n (gr M 5 g 4)
        have hR : taM M g = hnd (act1 M g n (gr M 5 g 4)) b n 8 := by rw [taM_y h11 hc, h53]; rfl
        have hM : mSt D dA base (act1 M g n (gr M 5 g 4)) ad s.heap H locs := hM
        generalize act1 M g n (gr M 5 g 4) = A at hM hbA hnA hgA hkA hwA htA hR
        refine w_upW 8 (fun ls => F0 m 60 ls []) (fun i H L ls => mSt D dA base (hnd A b n i) ad s.heap H L ∧ lv_has ls 5 [(4, .int (nI i)), (3, .ref (ad 7 b)), (2, .ref (ad 7 n)), (0, .ref (ad 0 0)), (1, .ref (ad 5 g))] ∧ True) ?_ ?_ 0 _ _ ls (by omega) ⟨hM, lv_sub hl [0, 1, 2, 3, 4] rfl, trivial⟩
        · rintro H locs ls ⟨hM, hl, hI⟩
          refine lv_iload X.1 X.2.1 d_K_tryActivation_60 (lv_at hl 0 rfl) ?_
          refine lv_bipush (v := 8) X.1 X.2.1 d_K_tryActivation_62 (by decide) ?_
          refine lv_icmp_ge (tgt := 94) X.1 X.2.1 d_K_tryActivation_64 (by decide) (fun hz55 => ?_) (fun hz55 => absurd (by decide) hz55)
          exact m_vret X hr hlk hM d_K_tryActivation_94 ⟨Nat.le_of_ble_eq_true rfl, Nat.le_of_ble_eq_true rfl⟩ (kp_ext (kp_tr hkA (hnd_kp _ _ _ _)) ad) ⟨rfl, hR.symm, rfl⟩
        · rintro i hi ih H locs ls ⟨hM, hl, hI⟩
          have hkI := hnd_kp A b n i
          have hw := kp_w hkI hwA
          have ht := hnd_wT htA b n i
          have hbI := kp_lv hkI hbA
          have hnI := kp_lv hkI hnA
          have hgI := kp_lv hkI hgA
          refine lv_iload X.1 X.2.1 d_K_tryActivation_60 (lv_at hl 0 rfl) ?_
          refine lv_bipush (v := 8) X.1 X.2.1 d_K_tryActivation_62 (by decide) ?_
          refine lv_icmp_ge (tgt := 94) X.1 X.2.1 d_K_tryActivation_64 (by decide) (fun hz55 => absurd hz55 (show ¬ (8 : Int32) ≤ nI i from nI_ge hi (by decide))) (fun hz55 => ?_)
          refine lv_aload_n X.1 X.2.1 d_K_tryActivation_67 rfl (lv_at hl 3 rfl) ?_
          refine r_gets (q := 0) X hM rfl (w_k hw) f_K_43 rfl (w_0_7 hw) d_K_tryActivation_68 (fun hv56 => ?_)
          refine lv_iload X.1 X.2.1 d_K_tryActivation_71 (lv_at hl 0 rfl) ?_
          refine r_aalds (q := i) X hM rfl hv56 a_clients (fun _ => rfl) (j := i) rfl (by omega) (w_cl hw hi) d_K_tryActivation_73 (fun hv57 => ?_)
          refine r_getr X hM rfl hv57 f_K_173 rfl d_K_tryActivation_74 (fun hv58 => ?_)
          refine lv_aload_n X.1 X.2.1 d_K_tryActivation_77 rfl (lv_at hl 1 rfl) ?_
          show W _ _ _ _ _ _ _ _ _ _ _ _ _ _ _ (F0 m 78 ls (rfv ad 7 (some b) :: rfv ad 7 (gr (hnd A b n i) 2 i 2) :: []))
          refine r_acmp_ne (tgt := 88) X.1 X.2.1 hM (k := 7) hv58 (fun z hz => by cases hz; exact hbI) d_K_tryActivation_78 (by decide) (fun hq0 => ?_) (fun hq0 => ?_)
          · skip
            obtain ⟨xi, e_xi⟩ : ∃ z : Int32, z = (nI i) + 1 := ⟨_, rfl⟩
            refine lv_iinc (v := xi) (lv' := [(4, .int xi), (3, .ref (ad 7 b)), (2, .ref (ad 7 n)), (0, .ref (ad 0 0)), (1, .ref (ad 5 g))]) X.1 X.2.1 d_K_tryActivation_88 hl (k := 0) rfl (by rw [e_xi]; rfl) (by decide) rfl (fun ls hl => ?_)
            refine lv_goto (tgt := 60) X.1 X.2.1 d_K_tryActivation_91 (by decide) ?_
            have e9 := e_xi.trans (nI_1 i)
            subst e9
            exact ih _ _ ls ⟨by rw [hnd_f hq0]; exact hM, lv_sub hl [0, 1, 2, 3, 4] rfl, trivial⟩
          · skip
            refine lv_aload_n X.1 X.2.1 d_K_tryActivation_81 rfl (lv_at hl 3 rfl) ?_
            refine lv_iload X.1 X.2.1 d_K_tryActivation_82 (lv_at hl 0 rfl) ?_
            refine lv_aload_n X.1 X.2.1 d_K_tryActivation_84 rfl (lv_at hl 2 rfl) ?_
            refine r_cV (As := [.int (nI i), .ref (ad 7 n)]) (rest := []) X hml hl.1 hM (k_K_control l D dA base (hnd A b n i) ad hw ht i hi (some n) (fun q z => by cases z; exact hnI)) c_K_192 v_K_control kc_K rfl (w_k hw) rfl (Nat.le_of_ble_eq_true rfl) ⟨rfl, rfl, Nat.le_of_ble_eq_true rfl, Nat.le_of_ble_eq_true rfl⟩ ⟨Nat.le_of_ble_eq_true rfl, Nat.le_of_ble_eq_true rfl⟩ d_K_tryActivation_85 ?_
            intro rv M1 ad1 H locs hP hM hE
            obtain ⟨e1, e2, e3⟩ := hP
            subst rv; subst M1; subst ad1
            show W _ _ _ _ _ _ _ _ _ _ _ _ _ _ _ (F0 m 88 ls [])
            obtain ⟨xi, e_xi⟩ : ∃ z : Int32, z = (nI i) + 1 := ⟨_, rfl⟩
            refine lv_iinc (v := xi) (lv' := [(4, .int xi), (3, .ref (ad 7 b)), (2, .ref (ad 7 n)), (0, .ref (ad 0 0)), (1, .ref (ad 5 g))]) X.1 X.2.1 d_K_tryActivation_88 hl (k := 0) rfl (by rw [e_xi]; rfl) (by decide) rfl (fun ls hl => ?_)
            refine lv_goto (tgt := 60) X.1 X.2.1 d_K_tryActivation_91 (by decide) ?_
            have e9 := e_xi.trans (nI_1 i)
            subst e9
            exact ih _ _ ls ⟨by rw [hnd_t hq0]; exact hM, lv_sub hl [0, 1, 2, 3, 4] rfl, trivial⟩
      · skip
        rw [h53] at hl
        have hl : lv_has ls 5 [(3, .null), (2, .ref (ad 7 n)), (0, .ref (ad 0 0)), (1, .ref (ad 5 g))] := hl
        exact m_vret X hr hlk hM d_K_tryActivation_56 ⟨Nat.le_of_ble_eq_true rfl, Nat.le_of_ble_eq_true rfl⟩ (kp_ext (act1_kp _ _ _ _) ad) ⟨rfl, by rw [taM_y h11 hc, h53]; rfl, rfl⟩
    · skip
      refine lv_aload_n X.1 X.2.1 d_K_tryActivation_21 rfl (lv_at hl 2 rfl) ?_
      refine r_aload_n X.1 X.2.1 d_K_tryActivation_22 rfl (lv_at hl 0 rfl) ?_
      refine r_cV (As := [rfv ad 7 (gr M 5 g 4)]) (rest := []) X hml hl.1 hM (k_K_controlledBy l D dA base M ad hw (gr M 5 g 4) hv2) c_K_251 v_K_controlledBy kc_K rfl (w_k hw) rfl (Nat.le_of_ble_eq_true rfl) ⟨rfl, rfl, Nat.le_of_ble_eq_true rfl, Nat.le_of_ble_eq_true rfl⟩ ⟨Nat.le_of_ble_eq_true rfl, Nat.le_of_ble_eq_true rfl⟩ d_K_tryActivation_23 ?_
      intro rv M1 ad1 H locs hP hM hE
      obtain ⟨e1, e2, e3⟩ := hP
      subst rv; subst M1; subst ad1
      show W _ _ _ _ _ _ _ _ _ _ _ _ _ _ _ (F0 m 26 ls [.int (nI (ctl M (gr M 5 g 4)))])
      refine lv_if_eq (tgt := 30) X.1 X.2.1 d_K_tryActivation_26 (by decide) (fun h26 => ?_) (fun h26 => ?_)
      · skip
        have hc : gi M 7 n 6 ≠ 0 ∨ ctl M (gr M 5 g 4) = 0 := Or.inr (by have z8 := ctl_le M (gr M 5 g 4); exact nI_z (by omega) h26)
        refine lv_aload_n X.1 X.2.1 d_K_tryActivation_30 rfl (lv_at hl 2 rfl) ?_
        refine r_aload_n X.1 X.2.1 d_K_tryActivation_31 rfl (lv_at hl 0 rfl) ?_
        refine lv_iconst (v := 4) X.1 X.2.1 d_K_tryActivation_32 (by decide) ?_
        refine r_cV (As := [rfv ad 7 (gr M 5 g 4), .int 4]) (rest := []) X hml hl.1 hM (k_K_bring l D dA base M ad hw ht (gr M 5 g 4) hv2 4) c_K_339 v_K_bring kc_K rfl (w_k hw) rfl (Nat.le_of_ble_eq_true rfl) ⟨rfl, rfl, Nat.le_of_ble_eq_true rfl, Nat.le_of_ble_eq_true rfl⟩ ⟨Nat.le_of_ble_eq_true rfl, Nat.le_of_ble_eq_true rfl⟩ d_K_tryActivation_33 ?_
        intro rv M1 ad1 H locs hP hM hE
        obtain ⟨e1, e2, e3⟩ := hP
        subst rv; subst M1; subst ad1
        have hk1 := brM_kp M (gr M 5 g 4) 4
        have hw1 := kp_w hk1 hw
        have ht1 := brM_wT ht (gr M 5 g 4) 4
        show W _ _ _ _ _ _ _ _ _ _ _ _ _ _ _ (F0 m 36 ls [])
        refine lv_aload_n X.1 X.2.1 d_K_tryActivation_36 rfl (lv_at hl 3 rfl) ?_
        refine lv_null X.1 X.2.1 d_K_tryActivation_37 ?_
        refine r_putr X hM rfl (kp_lv hk1 hg) p_K_196 rfl (x := none) (fun z hz => by cases hz) rfl rfl rfl d_K_tryActivation_38 (fun H locs hM => ?_)
        refine lv_aload_n X.1 X.2.1 d_K_tryActivation_41 rfl (lv_at hl 3 rfl) ?_
        refine lv_aload_n X.1 X.2.1 d_K_tryActivation_42 rfl (lv_at hl 1 rfl) ?_
        refine r_putr X hM rfl (kp_lv hk1 hg) p_K_169 rfl (x := (some n)) (fun z hz => by cases hz; exact (kp_lv hk1 (hv1 n h11))) rfl rfl rfl d_K_tryActivation_43 (fun H locs hM => ?_)
        have hw2 := kp_w (act0_kp (brM M (gr M 5 g 4) 4) g n) hw1
        have ht2 := act0_wT ht1 g n
        refine lv_aload_n X.1 X.2.1 d_K_tryActivation_46 rfl (lv_at hl 2 rfl) ?_
        refine lv_aload_n X.1 X.2.1 d_K_tryActivation_47 rfl (lv_at hl 1 rfl) ?_
        refine lv_iconst (v := 3) X.1 X.2.1 d_K_tryActivation_48 (by decide) ?_
        refine r_cV (As := [.ref (ad 7 n), .int 3]) (rest := []) X hml hl.1 hM (k_K_bring_s l D dA base (act0 (brM M (gr M 5 g 4) 4) g n) ad hw2 ht2 n (kp_lv hk1 (hv1 n h11)) 3) c_K_339 v_K_bring kc_K rfl (kp_lv hk1 (w_k hw)) rfl (Nat.le_of_ble_eq_true rfl) ⟨rfl, rfl, Nat.le_of_ble_eq_true rfl, Nat.le_of_ble_eq_true rfl⟩ ⟨Nat.le_of_ble_eq_true rfl, Nat.le_of_ble_eq_true rfl⟩ d_K_tryActivation_49 ?_
        intro rv M1 ad1 H locs hP hM hE
        obtain ⟨e1, e2, e3⟩ := hP
        subst rv; subst M1; subst ad1
        show W _ _ _ _ _ _ _ _ _ _ _ _ _ _ _ (F0 m 52 ls [])
        refine r_aload_n X.1 X.2.1 d_K_tryActivation_52 rfl (lv_at hl 0 rfl) ?_
        refine r_ifnonnull (tgt := 57) X.1 X.2.1 d_K_tryActivation_53 (by decide) (fun b h53 => ?_) (fun h53 => ?_)
        · skip
          rw [h53] at hl
          have hl : lv_has ls 5 [(3, .ref (ad 7 b)), (2, .ref (ad 7 n)), (0, .ref (ad 0 0)), (1, .ref (ad 5 g))] := hl
          refine lv_iconst (v := 0) X.1 X.2.1 d_K_tryActivation_57 (by decide) ?_
          refine lv_istore (lv' := [(4, .int 0), (3, .ref (ad 7 b)), (2, .ref (ad 7 n)), (0, .ref (ad 0 0)), (1, .ref (ad 5 g))]) X.1 X.2.1 d_K_tryActivation_58 hl (by decide) rfl (fun ls hl => ?_)
          have hbA : b < gn (act1 M g n (gr M 5 g 4)) 7 := ((kp_lq (brM_kp (act0 (brM M (gr M 5 g 4) 4) g n) (some n) 3) (kp_lq hk1 hv2)) b h53)
          have hnA : n < gn (act1 M g n (gr M 5 g 4)) 7 := (kp_lv (brM_kp (act0 (brM M (gr M 5 g 4) 4) g n) (some n) 3) (kp_lv hk1 (hv1 n h11)))
          have hgA : g < gn (act1 M g n (gr M 5 g 4)) 5 := (kp_lv (brM_kp (act0 (brM M (gr M 5 g 4) 4) g n) (some n) 3) (kp_lv hk1 hg))
          have hkA := act1_kp M g n (gr M 5 g 4)
          have hwA := kp_w hkA hw
          have htA := act1_wT ht g n (gr M 5 g 4)
          have hR : taM M g = hnd (act1 M g n (gr M 5 g 4)) b n 8 := by rw [taM_y h11 hc, h53]; rfl
          have hM : mSt D dA base (act1 M g n (gr M 5 g 4)) ad s.heap H locs := hM
          generalize act1 M g n (gr M 5 g 4) = A at hM hbA hnA hgA hkA hwA htA hR
          refine w_upW 8 (fun ls => F0 m 60 ls []) (fun i H L ls => mSt D dA base (hnd A b n i) ad s.heap H L ∧ lv_has ls 5 [(4, .int (nI i)), (3, .ref (ad 7 b)), (2, .ref (ad 7 n)), (0, .ref (ad 0 0)), (1, .ref (ad 5 g))] ∧ True) ?_ ?_ 0 _ _ ls (by omega) ⟨hM, lv_sub hl [0, 1, 2, 3, 4] rfl, trivial⟩
          · rintro H locs ls ⟨hM, hl, hI⟩
            refine lv_iload X.1 X.2.1 d_K_tryActivation_60 (lv_at hl 0 rfl) ?_
            refine lv_bipush (v := 8) X.1 X.2.1 d_K_tryActivation_62 (by decide) ?_
            refine lv_icmp_ge (tgt := 94) X.1 X.2.1 d_K_tryActivation_64 (by decide) (fun hz58 => ?_) (fun hz58 => absurd (by decide) hz58)
            exact m_vret X hr hlk hM d_K_tryActivation_94 ⟨Nat.le_of_ble_eq_true rfl, Nat.le_of_ble_eq_true rfl⟩ (kp_ext (kp_tr hkA (hnd_kp _ _ _ _)) ad) ⟨rfl, hR.symm, rfl⟩
          · rintro i hi ih H locs ls ⟨hM, hl, hI⟩
            have hkI := hnd_kp A b n i
            have hw := kp_w hkI hwA
            have ht := hnd_wT htA b n i
            have hbI := kp_lv hkI hbA
            have hnI := kp_lv hkI hnA
            have hgI := kp_lv hkI hgA
            refine lv_iload X.1 X.2.1 d_K_tryActivation_60 (lv_at hl 0 rfl) ?_
            refine lv_bipush (v := 8) X.1 X.2.1 d_K_tryActivation_62 (by decide) ?_
            refine lv_icmp_ge (tgt := 94) X.1 X.2.1 d_K_tryActivation_64 (by decide) (fun hz58 => absurd hz58 (show ¬ (8 : Int32) ≤ nI i from nI_ge hi (by decide))) (fun hz58 => ?_)
            refine lv_aload_n X.1 X.2.1 d_K_tryActivation_67 rfl (lv_at hl 3 rfl) ?_
            refine r_gets (q := 0) X hM rfl (w_k hw) f_K_43 rfl (w_0_7 hw) d_K_tryActivation_68 (fun hv59 => ?_)
            refine lv_iload X.1 X.2.1 d_K_tryActivation_71 (lv_at hl 0 rfl) ?_
            refine r_aalds (q := i) X hM rfl hv59 a_clients (fun _ => rfl) (j := i) rfl (by omega) (w_cl hw hi) d_K_tryActivation_73 (fun hv60 => ?_)
            refine r_getr X hM rfl hv60 f_K_173 rfl d_K_tryActivation_74 (fun hv61 => ?_)
            refine lv_aload_n X.1 X.2.1 d_K_tryActivation_77 rfl (lv_at hl 1 rfl) ?_
            show W _ _ _ _ _ _ _ _ _ _ _ _ _ _ _ (F0 m 78 ls (rfv ad 7 (some b) :: rfv ad 7 (gr (hnd A b n i) 2 i 2) :: []))
            refine r_acmp_ne (tgt := 88) X.1 X.2.1 hM (k := 7) hv61 (fun z hz => by cases hz; exact hbI) d_K_tryActivation_78 (by decide) (fun hq0 => ?_) (fun hq0 => ?_)
            · skip
              obtain ⟨xi, e_xi⟩ : ∃ z : Int32, z = (nI i) + 1 := ⟨_, rfl⟩
              refine lv_iinc (v := xi) (lv' := [(4, .int xi), (3, .ref (ad 7 b)), (2, .ref (ad 7 n)), (0, .ref (ad 0 0)), (1, .ref (ad 5 g))]) X.1 X.2.1 d_K_tryActivation_88 hl (k := 0) rfl (by rw [e_xi]; rfl) (by decide) rfl (fun ls hl => ?_)
              refine lv_goto (tgt := 60) X.1 X.2.1 d_K_tryActivation_91 (by decide) ?_
              have e9 := e_xi.trans (nI_1 i)
              subst e9
              exact ih _ _ ls ⟨by rw [hnd_f hq0]; exact hM, lv_sub hl [0, 1, 2, 3, 4] rfl, trivial⟩
            · skip
              refine lv_aload_n X.1 X.2.1 d_K_tryActivation_81 rfl (lv_at hl 3 rfl) ?_
              refine lv_iload X.1 X.2.1 d_K_tryActivation_82 (lv_at hl 0 rfl) ?_
              refine lv_aload_n X.1 X.2.1 d_K_tryActivation_84 rfl (lv_at hl 2 rfl) ?_
              refine r_cV (As := [.int (nI i), .ref (ad 7 n)]) (rest := []) X hml hl.1 hM (k_K_control l D dA base (hnd A b n i) ad hw ht i hi (some n) (fun q z => by cases z; exact hnI)) c_K_192 v_K_control kc_K rfl (w_k hw) rfl (Nat.le_of_ble_eq_true rfl) ⟨rfl, rfl, Nat.le_of_ble_eq_true rfl, Nat.le_of_ble_eq_true rfl⟩ ⟨Nat.le_of_ble_eq_true rfl, Nat.le_of_ble_eq_true rfl⟩ d_K_tryActivation_85 ?_
              intro rv M1 ad1 H locs hP hM hE
              obtain ⟨e1, e2, e3⟩ := hP
              subst rv; subst M1; subst ad1
              show W _ _ _ _ _ _ _ _ _ _ _ _ _ _ _ (F0 m 88 ls [])
              obtain ⟨xi, e_xi⟩ : ∃ z : Int32, z = (nI i) + 1 := ⟨_, rfl⟩
              refine lv_iinc (v := xi) (lv' := [(4, .int xi), (3, .ref (ad 7 b)), (2, .ref (ad 7 n)), (0, .ref (ad 0 0)), (1, .ref (ad 5 g))]) X.1 X.2.1 d_K_tryActivation_88 hl (k := 0) rfl (by rw [e_xi]; rfl) (by decide) rfl (fun ls hl => ?_)
              refine lv_goto (tgt := 60) X.1 X.2.1 d_K_tryActivation_91 (by decide) ?_
              have e9 := e_xi.trans (nI_1 i)
              subst e9
              exact ih _ _ ls ⟨by rw [hnd_t hq0]; exact hM, lv_sub hl [0, 1, 2, 3, 4] rfl, trivial⟩
        · skip
          rw [h53] at hl
          have hl : lv_has ls 5 [(3, .null), (2, .ref (ad 7 n)), (0, .ref (ad 0 0)), (1, .ref (ad 5 g))] := hl
          exact m_vret X hr hlk hM d_K_tryActivation_56 ⟨Nat.le_of_ble_eq_true rfl, Nat.le_of_ble_eq_true rfl⟩ (kp_ext (act1_kp _ _ _ _) ad) ⟨rfl, by rw [taM_y h11 hc, h53]; rfl, rfl⟩
      · skip
        exact m_vret X hr hlk hM d_K_tryActivation_29 ⟨Nat.le_of_ble_eq_true rfl, Nat.le_of_ble_eq_true rfl⟩ (mExt_rf _ _) ⟨rfl, (taM_n h11 (by rintro (z | z); exact z h18; exact h26 (by rw [z]; rfl))).symm, rfl⟩
