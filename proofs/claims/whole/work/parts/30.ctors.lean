def scI (M : mM) (g : Nat)  : mM := si (si (si (si M 1 g 0 0) 1 g 1 0) 1 g 2 0) 1 g 3 0
set_option maxHeartbeats 4000000 in
set_option maxRecDepth 100000 in
theorem k_Sc_init (l : Launch) (D : va_G) (dA : Nat → ClassId) (base : Nat) (M : mM) (ad : Nat → Nat → Nat) (g : Nat) (hg : g < gn M 1)  : mMet l y_Sc_init b_Sc_init 1 none ({ frames := 1, cells := 0, slots := 0, locals := 12 } : Room) 0 0 D dA base M ad [.ref (ad 1 g)] (fun rv M' ad' => rv = none ∧ M' = scI M g ∧ ad' = ad) := by
  refine m_start (lvs := [(0, .ref (ad 1 g))]) (by decide) (Nat.le_of_ble_eq_true rfl) rfl ?_
  intro p e s m below meth c ls X hr hlk hin hml hM hl
  refine lv_aload_n X.1 X.2.1 d_Sc_init_0 rfl (lv_at hl 0 rfl) ?_
  refine W.objInit X.1 X.2.1 X.2.2.1 (X.2.2.2.1 _ oi_Sc) (X.2.2.2.1 _ oi_inst) (X.2.2.2.1 _ oi_code) rfl (by rw [hml]; exact hl.1) rfl d_Sc_init_1 (Nat.le_of_ble_eq_true rfl) (Nat.le_of_ble_eq_true rfl) ?_
  refine W.eq (g2 := F0 m 4 ls []) rfl ?_
  refine lv_aload_n X.1 X.2.1 d_Sc_init_4 rfl (lv_at hl 0 rfl) ?_
  refine lv_iconst (v := 0) X.1 X.2.1 d_Sc_init_5 (by decide) ?_
  refine r_puti X hM rfl hg p_Sc_9 rfl rfl rfl d_Sc_init_6 (fun H locs hM => ?_)
  refine lv_aload_n X.1 X.2.1 d_Sc_init_9 rfl (lv_at hl 0 rfl) ?_
  refine lv_iconst (v := 0) X.1 X.2.1 d_Sc_init_10 (by decide) ?_
  refine r_puti X hM rfl hg p_Sc_15 rfl rfl rfl d_Sc_init_11 (fun H locs hM => ?_)
  refine lv_aload_n X.1 X.2.1 d_Sc_init_14 rfl (lv_at hl 0 rfl) ?_
  refine lv_iconst (v := 0) X.1 X.2.1 d_Sc_init_15 (by decide) ?_
  refine r_puti X hM rfl hg p_Sc_18 rfl rfl rfl d_Sc_init_16 (fun H locs hM => ?_)
  refine lv_aload_n X.1 X.2.1 d_Sc_init_19 rfl (lv_at hl 0 rfl) ?_
  refine lv_iconst (v := 0) X.1 X.2.1 d_Sc_init_20 (by decide) ?_
  refine r_puti X hM rfl hg p_Sc_21 rfl rfl rfl d_Sc_init_21 (fun H locs hM => ?_)
  exact m_vret X hr hlk hM d_Sc_init_24 ⟨Nat.le_of_ble_eq_true rfl, Nat.le_of_ble_eq_true rfl⟩ ⟨fun _ _ _ => rfl, fun _ => Nat.le_refl _⟩ ⟨rfl, rfl, rfl⟩
def clI (M : mM) (g : Nat)  : mM := sr (si (si M 2 g 0 0) 2 g 1 0) 2 g 2 none
set_option maxHeartbeats 4000000 in
set_option maxRecDepth 100000 in
theorem k_Cl_init (l : Launch) (D : va_G) (dA : Nat → ClassId) (base : Nat) (M : mM) (ad : Nat → Nat → Nat) (g : Nat) (hg : g < gn M 2)  : mMet l y_Cl_init b_Cl_init 1 none ({ frames := 1, cells := 0, slots := 0, locals := 12 } : Room) 0 0 D dA base M ad [.ref (ad 2 g)] (fun rv M' ad' => rv = none ∧ M' = clI M g ∧ ad' = ad) := by
  refine m_start (lvs := [(0, .ref (ad 2 g))]) (by decide) (Nat.le_of_ble_eq_true rfl) rfl ?_
  intro p e s m below meth c ls X hr hlk hin hml hM hl
  refine lv_aload_n X.1 X.2.1 d_Cl_init_0 rfl (lv_at hl 0 rfl) ?_
  refine W.objInit X.1 X.2.1 X.2.2.1 (X.2.2.2.1 _ oi_Cl) (X.2.2.2.1 _ oi_inst) (X.2.2.2.1 _ oi_code) rfl (by rw [hml]; exact hl.1) rfl d_Cl_init_1 (Nat.le_of_ble_eq_true rfl) (Nat.le_of_ble_eq_true rfl) ?_
  refine W.eq (g2 := F0 m 4 ls []) rfl ?_
  refine lv_aload_n X.1 X.2.1 d_Cl_init_4 rfl (lv_at hl 0 rfl) ?_
  refine lv_iconst (v := 0) X.1 X.2.1 d_Cl_init_5 (by decide) ?_
  refine r_puti X hM rfl hg p_Cl_7 rfl rfl (by decide) d_Cl_init_6 (fun H locs hM => ?_)
  refine lv_aload_n X.1 X.2.1 d_Cl_init_9 rfl (lv_at hl 0 rfl) ?_
  refine lv_iconst (v := 0) X.1 X.2.1 d_Cl_init_10 (by decide) ?_
  refine r_puti X hM rfl hg p_Cl_13 rfl rfl rfl d_Cl_init_11 (fun H locs hM => ?_)
  refine lv_aload_n X.1 X.2.1 d_Cl_init_14 rfl (lv_at hl 0 rfl) ?_
  refine lv_null X.1 X.2.1 d_Cl_init_15 ?_
  refine r_putr X hM rfl hg p_Cl_17 rfl (x := none) (fun z hz => by cases hz) rfl rfl rfl d_Cl_init_16 (fun H locs hM => ?_)
  exact m_vret X hr hlk hM d_Cl_init_19 ⟨Nat.le_of_ble_eq_true rfl, Nat.le_of_ble_eq_true rfl⟩ ⟨fun _ _ _ => rfl, fun _ => Nat.le_refl _⟩ ⟨rfl, rfl, rfl⟩
def jbI (M : mM) (g : Nat) (a b x y : Int32) : mM := si (si (si (si (si (si M 4 g 4 0) 4 g 5 0) 4 g 0 a) 4 g 1 b) 4 g 2 x) 4 g 3 y
set_option maxHeartbeats 4000000 in
set_option maxRecDepth 100000 in
theorem k_Jb_init (l : Launch) (D : va_G) (dA : Nat → ClassId) (base : Nat) (M : mM) (ad : Nat → Nat → Nat) (g : Nat) (hg : g < gn M 4) (a b x y : Int32) : mMet l y_Jb_init b_Jb_init 5 none ({ frames := 1, cells := 0, slots := 0, locals := 12 } : Room) 0 0 D dA base M ad [.ref (ad 4 g), .int a, .int b, .int x, .int y] (fun rv M' ad' => rv = none ∧ M' = jbI M g a b x y ∧ ad' = ad) := by
  refine m_start (lvs := [(0, .ref (ad 4 g)), (1, .int a), (2, .int b), (3, .int x), (4, .int y)]) (by decide) (Nat.le_of_ble_eq_true rfl) rfl ?_
  intro p e s m below meth c ls X hr hlk hin hml hM hl
  refine lv_aload_n X.1 X.2.1 d_Jb_init_0 rfl (lv_at hl 0 rfl) ?_
  refine W.objInit X.1 X.2.1 X.2.2.1 (X.2.2.2.1 _ oi_Jb) (X.2.2.2.1 _ oi_inst) (X.2.2.2.1 _ oi_code) rfl (by rw [hml]; exact hl.1) rfl d_Jb_init_1 (Nat.le_of_ble_eq_true rfl) (Nat.le_of_ble_eq_true rfl) ?_
  refine W.eq (g2 := F0 m 4 ls []) rfl ?_
  refine lv_aload_n X.1 X.2.1 d_Jb_init_4 rfl (lv_at hl 0 rfl) ?_
  refine lv_iconst (v := 0) X.1 X.2.1 d_Jb_init_5 (by decide) ?_
  refine r_puti X hM rfl hg p_Jb_9 rfl rfl (by decide) d_Jb_init_6 (fun H locs hM => ?_)
  refine lv_aload_n X.1 X.2.1 d_Jb_init_9 rfl (lv_at hl 0 rfl) ?_
  refine lv_iconst (v := 0) X.1 X.2.1 d_Jb_init_10 (by decide) ?_
  refine r_puti X hM rfl hg p_Jb_15 rfl rfl rfl d_Jb_init_11 (fun H locs hM => ?_)
  refine lv_aload_n X.1 X.2.1 d_Jb_init_14 rfl (lv_at hl 0 rfl) ?_
  refine lv_iload_n X.1 X.2.1 d_Jb_init_15 rfl (lv_at hl 1 rfl) ?_
  refine r_putfi X hin hM rfl hg p_Jb_19 rfl rfl rfl d_Jb_init_16 (fun H locs hM => ?_)
  refine lv_aload_n X.1 X.2.1 d_Jb_init_19 rfl (lv_at hl 0 rfl) ?_
  refine lv_iload_n X.1 X.2.1 d_Jb_init_20 rfl (lv_at hl 2 rfl) ?_
  refine r_putfi X hin hM rfl hg p_Jb_22 rfl rfl rfl d_Jb_init_21 (fun H locs hM => ?_)
  refine lv_aload_n X.1 X.2.1 d_Jb_init_24 rfl (lv_at hl 0 rfl) ?_
  refine lv_iload_n X.1 X.2.1 d_Jb_init_25 rfl (lv_at hl 3 rfl) ?_
  refine r_putfi X hin hM rfl hg p_Jb_25 rfl rfl rfl d_Jb_init_26 (fun H locs hM => ?_)
  refine lv_aload_n X.1 X.2.1 d_Jb_init_29 rfl (lv_at hl 0 rfl) ?_
  refine lv_iload X.1 X.2.1 d_Jb_init_30 (lv_at hl 4 rfl) ?_
  refine r_putfi X hin hM rfl hg p_Jb_28 rfl rfl rfl d_Jb_init_32 (fun H locs hM => ?_)
  exact m_vret X hr hlk hM d_Jb_init_35 ⟨Nat.le_of_ble_eq_true rfl, Nat.le_of_ble_eq_true rfl⟩ ⟨fun _ _ _ => rfl, fun _ => Nat.le_refl _⟩ ⟨rfl, rfl, rfl⟩
def rgI (M : mM) (g : Nat) (x : Int32) : mM := si (si (sr (sr (sr (si M 5 g 1 0) 5 g 2 none) 5 g 3 none) 5 g 4 none) 5 g 5 0) 5 g 0 x
set_option maxHeartbeats 4000000 in
set_option maxRecDepth 100000 in
theorem k_Rg_init (l : Launch) (D : va_G) (dA : Nat → ClassId) (base : Nat) (M : mM) (ad : Nat → Nat → Nat) (g : Nat) (hg : g < gn M 5) (x : Int32) : mMet l y_Rg_init b_Rg_init 2 none ({ frames := 1, cells := 0, slots := 0, locals := 12 } : Room) 0 0 D dA base M ad [.ref (ad 5 g), .int x] (fun rv M' ad' => rv = none ∧ M' = rgI M g x ∧ ad' = ad) := by
  refine m_start (lvs := [(0, .ref (ad 5 g)), (1, .int x)]) (by decide) (Nat.le_of_ble_eq_true rfl) rfl ?_
  intro p e s m below meth c ls X hr hlk hin hml hM hl
  refine lv_aload_n X.1 X.2.1 d_Rg_init_0 rfl (lv_at hl 0 rfl) ?_
  refine W.objInit X.1 X.2.1 X.2.2.1 (X.2.2.2.1 _ oi_Rg) (X.2.2.2.1 _ oi_inst) (X.2.2.2.1 _ oi_code) rfl (by rw [hml]; exact hl.1) rfl d_Rg_init_1 (Nat.le_of_ble_eq_true rfl) (Nat.le_of_ble_eq_true rfl) ?_
  refine W.eq (g2 := F0 m 4 ls []) rfl ?_
  refine lv_aload_n X.1 X.2.1 d_Rg_init_4 rfl (lv_at hl 0 rfl) ?_
  refine lv_iconst (v := 0) X.1 X.2.1 d_Rg_init_5 (by decide) ?_
  refine r_puti X hM rfl hg p_Rg_7 rfl rfl rfl d_Rg_init_6 (fun H locs hM => ?_)
  refine lv_aload_n X.1 X.2.1 d_Rg_init_9 rfl (lv_at hl 0 rfl) ?_
  refine lv_null X.1 X.2.1 d_Rg_init_10 ?_
  refine r_putr X hM rfl hg p_Rg_13 rfl (x := none) (fun z hz => by cases hz) rfl rfl rfl d_Rg_init_11 (fun H locs hM => ?_)
  refine lv_aload_n X.1 X.2.1 d_Rg_init_14 rfl (lv_at hl 0 rfl) ?_
  refine lv_null X.1 X.2.1 d_Rg_init_15 ?_
  refine r_putr X hM rfl hg p_Rg_17 rfl (x := none) (fun z hz => by cases hz) rfl rfl rfl d_Rg_init_16 (fun H locs hM => ?_)
  refine lv_aload_n X.1 X.2.1 d_Rg_init_19 rfl (lv_at hl 0 rfl) ?_
  refine lv_null X.1 X.2.1 d_Rg_init_20 ?_
  refine r_putr X hM rfl hg p_Rg_20 rfl (x := none) (fun z hz => by cases hz) rfl rfl rfl d_Rg_init_21 (fun H locs hM => ?_)
  refine lv_aload_n X.1 X.2.1 d_Rg_init_24 rfl (lv_at hl 0 rfl) ?_
  refine lv_iconst (v := 0) X.1 X.2.1 d_Rg_init_25 (by decide) ?_
  refine r_puti X hM rfl hg p_Rg_23 rfl rfl (by decide) d_Rg_init_26 (fun H locs hM => ?_)
  refine lv_aload_n X.1 X.2.1 d_Rg_init_29 rfl (lv_at hl 0 rfl) ?_
  refine lv_iload_n X.1 X.2.1 d_Rg_init_30 rfl (lv_at hl 1 rfl) ?_
  refine r_putfi X hin hM rfl hg p_Rg_27 rfl rfl rfl d_Rg_init_31 (fun H locs hM => ?_)
  exact m_vret X hr hlk hM d_Rg_init_34 ⟨Nat.le_of_ble_eq_true rfl, Nat.le_of_ble_eq_true rfl⟩ ⟨fun _ _ _ => rfl, fun _ => Nat.le_refl _⟩ ⟨rfl, rfl, rfl⟩
