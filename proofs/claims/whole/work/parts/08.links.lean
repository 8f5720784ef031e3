/-! LINKS, by program: what each field, call, new and throw needs of the tables -/
theorem ws_K : ∀ w ∈ u_ws "ScopeKeeper" T_K 12, w ∈ gw := by
  intro w hw
  obtain ⟨k, hk, rfl⟩ := List.mem_map.mp hw
  have hk := List.mem_range.mp hk
  match k, hk with
  | 0, _ => exact gwm (lt1 111 rfl) rfl
  | 1, _ => exact gwm (lt1 113 rfl) rfl
  | 2, _ => exact gwm (lt1 115 rfl) rfl
  | 3, _ => exact gwm (lt1 117 rfl) rfl
  | 4, _ => exact gwm (lt1 119 rfl) rfl
  | 5, _ => exact gwm (lt1 121 rfl) rfl
  | 6, _ => exact gwm (lt1 123 rfl) rfl
  | 7, _ => exact gwm (lt1 125 rfl) rfl
  | 8, _ => exact gwm (lt1 127 rfl) rfl
  | 9, _ => exact gwm (lt1 129 rfl) rfl
  | 10, _ => exact gwm (lt1 131 rfl) rfl
  | 11, _ => exact gwm (lt1 133 rfl) rfl
  | k + 12, h => omega
theorem kc_K : kcls 0 "ScopeKeeper" := ⟨0, _, rfl, rfl, rfl⟩
theorem ws_Sc : ∀ w ∈ u_ws "ScopeKeeper$Script" T_Sc 4, w ∈ gw := by
  intro w hw
  obtain ⟨k, hk, rfl⟩ := List.mem_map.mp hw
  have hk := List.mem_range.mp hk
  match k, hk with
  | 0, _ => exact gwm (lt1 72 rfl) rfl
  | 1, _ => exact gwm (lt1 74 rfl) rfl
  | 2, _ => exact gwm (lt1 76 rfl) rfl
  | 3, _ => exact gwm (lt1 78 rfl) rfl
  | k + 4, h => omega
theorem kc_Sc : kcls 1 "ScopeKeeper$Script" := ⟨1, _, rfl, rfl, rfl⟩
theorem ws_Cl : ∀ w ∈ u_ws "ScopeKeeper$Client" T_Cl 3, w ∈ gw := by
  intro w hw
  obtain ⟨k, hk, rfl⟩ := List.mem_map.mp hw
  have hk := List.mem_range.mp hk
  match k, hk with
  | 0, _ => exact gwm (lt1 92 rfl) rfl
  | 1, _ => exact gwm (lt1 94 rfl) rfl
  | 2, _ => exact gwm (lt1 96 rfl) rfl
  | k + 3, h => omega
theorem kc_Cl : kcls 2 "ScopeKeeper$Client" := ⟨2, _, rfl, rfl, rfl⟩
theorem ws_Tr : ∀ w ∈ u_ws "ScopeKeeper$Trace" T_Tr 3, w ∈ gw := by
  intro w hw
  obtain ⟨k, hk, rfl⟩ := List.mem_map.mp hw
  have hk := List.mem_range.mp hk
  match k, hk with
  | 0, _ => exact gwm (lt1 48 rfl) rfl
  | 1, _ => exact gwm (lt1 50 rfl) rfl
  | 2, _ => exact gwm (lt1 52 rfl) rfl
  | k + 3, h => omega
theorem kc_Tr : kcls 3 "ScopeKeeper$Trace" := ⟨3, _, rfl, rfl, rfl⟩
theorem ws_Jb : ∀ w ∈ u_ws "ScopeKeeper$Job" T_Jb 6, w ∈ gw := by
  intro w hw
  obtain ⟨k, hk, rfl⟩ := List.mem_map.mp hw
  have hk := List.mem_range.mp hk
  match k, hk with
  | 0, _ => exact gwm (lt2 44 rfl) rfl
  | 1, _ => exact gwm (lt2 46 rfl) rfl
  | 2, _ => exact gwm (lt2 48 rfl) rfl
  | 3, _ => exact gwm (lt2 50 rfl) rfl
  | 4, _ => exact gwm (lt2 52 rfl) rfl
  | 5, _ => exact gwm (lt2 54 rfl) rfl
  | k + 6, h => omega
theorem kc_Jb : kcls 4 "ScopeKeeper$Job" := ⟨4, _, rfl, rfl, rfl⟩
theorem ws_Rg : ∀ w ∈ u_ws "ScopeKeeper$Registration" T_Rg 6, w ∈ gw := by
  intro w hw
  obtain ⟨k, hk, rfl⟩ := List.mem_map.mp hw
  have hk := List.mem_range.mp hk
  match k, hk with
  | 0, _ => exact gwm (lt2 164 rfl) rfl
  | 1, _ => exact gwm (lt2 166 rfl) rfl
  | 2, _ => exact gwm (lt2 168 rfl) rfl
  | 3, _ => exact gwm (lt2 170 rfl) rfl
  | 4, _ => exact gwm (lt2 172 rfl) rfl
  | 5, _ => exact gwm (lt2 174 rfl) rfl
  | k + 6, h => omega
theorem kc_Rg : kcls 5 "ScopeKeeper$Registration" := ⟨5, _, rfl, rfl, rfl⟩
theorem ws_Ca : ∀ w ∈ u_ws "ScopeKeeper$Cache" T_Ca 3, w ∈ gw := by
  intro w hw
  obtain ⟨k, hk, rfl⟩ := List.mem_map.mp hw
  have hk := List.mem_range.mp hk
  match k, hk with
  | 0, _ => exact gwm (lt2 200 rfl) rfl
  | 1, _ => exact gwm (lt2 202 rfl) rfl
  | 2, _ => exact gwm (lt2 204 rfl) rfl
  | k + 3, h => omega
theorem kc_Ca : kcls 6 "ScopeKeeper$Cache" := ⟨6, _, rfl, rfl, rfl⟩
theorem ws_Wk : ∀ w ∈ u_ws "ScopeKeeper$Worker" T_Wk 7, w ∈ gw := by
  intro w hw
  obtain ⟨k, hk, rfl⟩ := List.mem_map.mp hw
  have hk := List.mem_range.mp hk
  match k, hk with
  | 0, _ => exact gwm (lt2 221 rfl) rfl
  | 1, _ => exact gwm (lt2 223 rfl) rfl
  | 2, _ => exact gwm (lt2 225 rfl) rfl
  | 3, _ => exact gwm (lt2 227 rfl) rfl
  | 4, _ => exact gwm (lt2 229 rfl) rfl
  | 5, _ => exact gwm (lt2 231 rfl) rfl
  | 6, _ => exact gwm (lt2 233 rfl) rfl
  | k + 7, h => omega
theorem kc_Wk : kcls 7 "ScopeKeeper$Worker" := ⟨7, _, rfl, rfl, rfl⟩
theorem ws_Md : ∀ w ∈ u_ws "ScopeKeeperModel" T_Md 36, w ∈ gw := by
  intro w hw
  obtain ⟨k, hk, rfl⟩ := List.mem_map.mp hw
  have hk := List.mem_range.mp hk
  match k, hk with
  | 0, _ => exact gwm (lt3 235 rfl) rfl
  | 1, _ => exact gwm (lt3 237 rfl) rfl
  | 2, _ => exact gwm (lt3 239 rfl) rfl
  | 3, _ => exact gwm (lt4 1 rfl) rfl
  | 4, _ => exact gwm (lt4 3 rfl) rfl
  | 5, _ => exact gwm (lt4 5 rfl) rfl
  | 6, _ => exact gwm (lt4 7 rfl) rfl
  | 7, _ => exact gwm (lt4 9 rfl) rfl
  | 8, _ => exact gwm (lt4 11 rfl) rfl
  | 9, _ => exact gwm (lt4 13 rfl) rfl
  | 10, _ => exact gwm (lt4 15 rfl) rfl
  | 11, _ => exact gwm (lt4 17 rfl) rfl
  | 12, _ => exact gwm (lt4 19 rfl) rfl
  | 13, _ => exact gwm (lt4 21 rfl) rfl
  | 14, _ => exact gwm (lt4 23 rfl) rfl
  | 15, _ => exact gwm (lt4 25 rfl) rfl
  | 16, _ => exact gwm (lt4 27 rfl) rfl
  | 17, _ => exact gwm (lt4 29 rfl) rfl
  | 18, _ => exact gwm (lt4 31 rfl) rfl
  | 19, _ => exact gwm (lt4 33 rfl) rfl
  | 20, _ => exact gwm (lt4 35 rfl) rfl
  | 21, _ => exact gwm (lt4 37 rfl) rfl
  | 22, _ => exact gwm (lt4 39 rfl) rfl
  | 23, _ => exact gwm (lt4 41 rfl) rfl
  | 24, _ => exact gwm (lt4 43 rfl) rfl
  | 25, _ => exact gwm (lt4 45 rfl) rfl
  | 26, _ => exact gwm (lt4 47 rfl) rfl
  | 27, _ => exact gwm (lt4 49 rfl) rfl
  | 28, _ => exact gwm (lt4 51 rfl) rfl
  | 29, _ => exact gwm (lt4 53 rfl) rfl
  | 30, _ => exact gwm (lt4 55 rfl) rfl
  | 31, _ => exact gwm (lt4 57 rfl) rfl
  | 32, _ => exact gwm (lt4 59 rfl) rfl
  | 33, _ => exact gwm (lt4 61 rfl) rfl
  | 34, _ => exact gwm (lt4 63 rfl) rfl
  | 35, _ => exact gwm (lt4 65 rfl) rfl
  | k + 36, h => omega
theorem kc_Md : kcls 18 "ScopeKeeperModel" := ⟨8, _, rfl, rfl, rfl⟩
theorem f_Tr_9 : fLk "ScopeKeeper$Trace" 9 3 0 := ⟨3, _, _, 3, rfl, rfl, by decide, rfl, ws_Tr, Or.inl (gwm (lt1 42 rfl) rfl)⟩
theorem p_Tr_9 : fFk "ScopeKeeper$Trace" 9 3 0 (.array .int) := ⟨3, _, _, 3, ty_Tr, rfl, rfl, by decide, rfl, ws_Tr, tyk_Tr, nm_Tr, rfl, rfl, rfl, gwm (lt1 42 rfl) rfl⟩
theorem f_K_270 : fLk "ScopeKeeper" 270 3 0 := ⟨3, _, _, 3, rfl, rfl, by decide, rfl, ws_Tr, Or.inr ⟨"ScopeKeeper", gwm (lt1 43 rfl) rfl⟩⟩
theorem f_Tr_15 : fLk "ScopeKeeper$Trace" 15 3 1 := ⟨3, _, _, 3, rfl, rfl, by decide, rfl, ws_Tr, Or.inl (gwm (lt1 44 rfl) rfl)⟩
theorem p_Tr_15 : fPk "ScopeKeeper$Trace" 15 3 1 (.int) := ⟨3, _, _, 3, ty_Tr, rfl, rfl, by decide, rfl, ws_Tr, tyk_Tr, nm_Tr, rfl, rfl, Or.inl (gwm (lt1 44 rfl) rfl)⟩
theorem f_K_265 : fLk "ScopeKeeper" 265 3 1 := ⟨3, _, _, 3, rfl, rfl, by decide, rfl, ws_Tr, Or.inr ⟨"ScopeKeeper", gwm (lt1 45 rfl) rfl⟩⟩
theorem p_K_265 : fPk "ScopeKeeper" 265 3 1 (.int) := ⟨3, _, _, 3, ty_Tr, rfl, rfl, by decide, rfl, ws_Tr, tyk_Tr, nm_Tr, rfl, rfl, Or.inr ⟨"ScopeKeeper", gwm (lt1 45 rfl) rfl⟩⟩
theorem f_Tr_19 : fLk "ScopeKeeper$Trace" 19 3 2 := ⟨3, _, _, 3, rfl, rfl, by decide, rfl, ws_Tr, Or.inl (gwm (lt1 46 rfl) rfl)⟩
theorem p_Tr_19 : fPk "ScopeKeeper$Trace" 19 3 2 (.int) := ⟨3, _, _, 3, ty_Tr, rfl, rfl, by decide, rfl, ws_Tr, tyk_Tr, nm_Tr, rfl, rfl, Or.inl (gwm (lt1 46 rfl) rfl)⟩
theorem f_K_283 : fLk "ScopeKeeper" 283 3 2 := ⟨3, _, _, 3, rfl, rfl, by decide, rfl, ws_Tr, Or.inr ⟨"ScopeKeeper", gwm (lt1 47 rfl) rfl⟩⟩
theorem p_K_283 : fPk "ScopeKeeper" 283 3 2 (.int) := ⟨3, _, _, 3, ty_Tr, rfl, rfl, by decide, rfl, ws_Tr, tyk_Tr, nm_Tr, rfl, rfl, Or.inr ⟨"ScopeKeeper", gwm (lt1 47 rfl) rfl⟩⟩
theorem f_Sc_9 : fLk "ScopeKeeper$Script" 9 1 0 := ⟨1, _, _, 4, rfl, rfl, by decide, rfl, ws_Sc, Or.inl (gwm (lt1 61 rfl) rfl)⟩
theorem p_Sc_9 : fPk "ScopeKeeper$Script" 9 1 0 (.int) := ⟨1, _, _, 4, ty_Sc, rfl, rfl, by decide, rfl, ws_Sc, tyk_Sc, nm_Sc, rfl, rfl, Or.inl (gwm (lt1 61 rfl) rfl)⟩
theorem f_Wk_29 : fLk "ScopeKeeper$Worker" 29 1 0 := ⟨1, _, _, 4, rfl, rfl, by decide, rfl, ws_Sc, Or.inr ⟨"ScopeKeeper", gwm (lt1 62 rfl) rfl⟩⟩
theorem p_Wk_29 : fPk "ScopeKeeper$Worker" 29 1 0 (.int) := ⟨1, _, _, 4, ty_Sc, rfl, rfl, by decide, rfl, ws_Sc, tyk_Sc, nm_Sc, rfl, rfl, Or.inr ⟨"ScopeKeeper", gwm (lt1 62 rfl) rfl⟩⟩
theorem f_K_84 : fLk "ScopeKeeper" 84 1 0 := ⟨1, _, _, 4, rfl, rfl, by decide, rfl, ws_Sc, Or.inr ⟨"ScopeKeeper", gwm (lt1 63 rfl) rfl⟩⟩
theorem p_K_84 : fPk "ScopeKeeper" 84 1 0 (.int) := ⟨1, _, _, 4, ty_Sc, rfl, rfl, by decide, rfl, ws_Sc, tyk_Sc, nm_Sc, rfl, rfl, Or.inr ⟨"ScopeKeeper", gwm (lt1 63 rfl) rfl⟩⟩
theorem f_Sc_15 : fLk "ScopeKeeper$Script" 15 1 1 := ⟨1, _, _, 4, rfl, rfl, by decide, rfl, ws_Sc, Or.inl (gwm (lt1 64 rfl) rfl)⟩
theorem p_Sc_15 : fPk "ScopeKeeper$Script" 15 1 1 (.int) := ⟨1, _, _, 4, ty_Sc, rfl, rfl, by decide, rfl, ws_Sc, tyk_Sc, nm_Sc, rfl, rfl, Or.inl (gwm (lt1 64 rfl) rfl)⟩
theorem f_K_87 : fLk "ScopeKeeper" 87 1 1 := ⟨1, _, _, 4, rfl, rfl, by decide, rfl, ws_Sc, Or.inr ⟨"ScopeKeeper", gwm (lt1 65 rfl) rfl⟩⟩
theorem p_K_87 : fPk "ScopeKeeper" 87 1 1 (.int) := ⟨1, _, _, 4, ty_Sc, rfl, rfl, by decide, rfl, ws_Sc, tyk_Sc, nm_Sc, rfl, rfl, Or.inr ⟨"ScopeKeeper", gwm (lt1 65 rfl) rfl⟩⟩
theorem f_Sc_18 : fLk "ScopeKeeper$Script" 18 1 2 := ⟨1, _, _, 4, rfl, rfl, by decide, rfl, ws_Sc, Or.inl (gwm (lt1 66 rfl) rfl)⟩
theorem p_Sc_18 : fPk "ScopeKeeper$Script" 18 1 2 (.int) := ⟨1, _, _, 4, ty_Sc, rfl, rfl, by decide, rfl, ws_Sc, tyk_Sc, nm_Sc, rfl, rfl, Or.inl (gwm (lt1 66 rfl) rfl)⟩
theorem f_Wk_35 : fLk "ScopeKeeper$Worker" 35 1 2 := ⟨1, _, _, 4, rfl, rfl, by decide, rfl, ws_Sc, Or.inr ⟨"ScopeKeeper", gwm (lt1 67 rfl) rfl⟩⟩
theorem p_Wk_35 : fPk "ScopeKeeper$Worker" 35 1 2 (.int) := ⟨1, _, _, 4, ty_Sc, rfl, rfl, by decide, rfl, ws_Sc, tyk_Sc, nm_Sc, rfl, rfl, Or.inr ⟨"ScopeKeeper", gwm (lt1 67 rfl) rfl⟩⟩
theorem f_K_90 : fLk "ScopeKeeper" 90 1 2 := ⟨1, _, _, 4, rfl, rfl, by decide, rfl, ws_Sc, Or.inr ⟨"ScopeKeeper", gwm (lt1 68 rfl) rfl⟩⟩
theorem p_K_90 : fPk "ScopeKeeper" 90 1 2 (.int) := ⟨1, _, _, 4, ty_Sc, rfl, rfl, by decide, rfl, ws_Sc, tyk_Sc, nm_Sc, rfl, rfl, Or.inr ⟨"ScopeKeeper", gwm (lt1 68 rfl) rfl⟩⟩
theorem f_Sc_21 : fLk "ScopeKeeper$Script" 21 1 3 := ⟨1, _, _, 4, rfl, rfl, by decide, rfl, ws_Sc, Or.inl (gwm (lt1 69 rfl) rfl)⟩
theorem p_Sc_21 : fPk "ScopeKeeper$Script" 21 1 3 (.int) := ⟨1, _, _, 4, ty_Sc, rfl, rfl, by decide, rfl, ws_Sc, tyk_Sc, nm_Sc, rfl, rfl, Or.inl (gwm (lt1 69 rfl) rfl)⟩
theorem f_Wk_39 : fLk "ScopeKeeper$Worker" 39 1 3 := ⟨1, _, _, 4, rfl, rfl, by decide, rfl, ws_Sc, Or.inr ⟨"ScopeKeeper", gwm (lt1 70 rfl) rfl⟩⟩
theorem p_Wk_39 : fPk "ScopeKeeper$Worker" 39 1 3 (.int) := ⟨1, _, _, 4, ty_Sc, rfl, rfl, by decide, rfl, ws_Sc, tyk_Sc, nm_Sc, rfl, rfl, Or.inr ⟨"ScopeKeeper", gwm (lt1 70 rfl) rfl⟩⟩
theorem f_K_93 : fLk "ScopeKeeper" 93 1 3 := ⟨1, _, _, 4, rfl, rfl, by decide, rfl, ws_Sc, Or.inr ⟨"ScopeKeeper", gwm (lt1 71 rfl) rfl⟩⟩
theorem p_K_93 : fPk "ScopeKeeper" 93 1 3 (.int) := ⟨1, _, _, 4, ty_Sc, rfl, rfl, by decide, rfl, ws_Sc, tyk_Sc, nm_Sc, rfl, rfl, Or.inr ⟨"ScopeKeeper", gwm (lt1 71 rfl) rfl⟩⟩
theorem f_Cl_7 : fLk "ScopeKeeper$Client" 7 2 0 := ⟨2, _, _, 3, rfl, rfl, by decide, rfl, ws_Cl, Or.inl (gwm (lt1 86 rfl) rfl)⟩
theorem p_Cl_7 : fPk "ScopeKeeper$Client" 7 2 0 (.boolean) := ⟨2, _, _, 3, ty_Cl, rfl, rfl, by decide, rfl, ws_Cl, tyk_Cl, nm_Cl, rfl, rfl, Or.inl (gwm (lt1 86 rfl) rfl)⟩
theorem f_K_163 : fLk "ScopeKeeper" 163 2 0 := ⟨2, _, _, 3, rfl, rfl, by decide, rfl, ws_Cl, Or.inr ⟨"ScopeKeeper", gwm (lt1 87 rfl) rfl⟩⟩
theorem p_K_163 : fPk "ScopeKeeper" 163 2 0 (.boolean) := ⟨2, _, _, 3, ty_Cl, rfl, rfl, by decide, rfl, ws_Cl, tyk_Cl, nm_Cl, rfl, rfl, Or.inr ⟨"ScopeKeeper", gwm (lt1 87 rfl) rfl⟩⟩
theorem f_Cl_13 : fLk "ScopeKeeper$Client" 13 2 1 := ⟨2, _, _, 3, rfl, rfl, by decide, rfl, ws_Cl, Or.inl (gwm (lt1 88 rfl) rfl)⟩
theorem p_Cl_13 : fPk "ScopeKeeper$Client" 13 2 1 (.int) := ⟨2, _, _, 3, ty_Cl, rfl, rfl, by decide, rfl, ws_Cl, tyk_Cl, nm_Cl, rfl, rfl, Or.inl (gwm (lt1 88 rfl) rfl)⟩
theorem f_K_166 : fLk "ScopeKeeper" 166 2 1 := ⟨2, _, _, 3, rfl, rfl, by decide, rfl, ws_Cl, Or.inr ⟨"ScopeKeeper", gwm (lt1 89 rfl) rfl⟩⟩
theorem p_K_166 : fPk "ScopeKeeper" 166 2 1 (.int) := ⟨2, _, _, 3, ty_Cl, rfl, rfl, by decide, rfl, ws_Cl, tyk_Cl, nm_Cl, rfl, rfl, Or.inr ⟨"ScopeKeeper", gwm (lt1 89 rfl) rfl⟩⟩
theorem f_Cl_17 : fLk "ScopeKeeper$Client" 17 2 2 := ⟨2, _, _, 3, rfl, rfl, by decide, rfl, ws_Cl, Or.inl (gwm (lt1 90 rfl) rfl)⟩
theorem p_Cl_17 : fPk "ScopeKeeper$Client" 17 2 2 (.object "ScopeKeeper$Worker") := ⟨2, _, _, 3, ty_Cl, rfl, rfl, by decide, rfl, ws_Cl, tyk_Cl, nm_Cl, rfl, rfl, Or.inl (gwm (lt1 90 rfl) rfl)⟩
theorem f_K_173 : fLk "ScopeKeeper" 173 2 2 := ⟨2, _, _, 3, rfl, rfl, by decide, rfl, ws_Cl, Or.inr ⟨"ScopeKeeper", gwm (lt1 91 rfl) rfl⟩⟩
theorem p_K_173 : fPk "ScopeKeeper" 173 2 2 (.object "ScopeKeeper$Worker") := ⟨2, _, _, 3, ty_Cl, rfl, rfl, by decide, rfl, ws_Cl, tyk_Cl, nm_Cl, rfl, rfl, Or.inr ⟨"ScopeKeeper", gwm (lt1 91 rfl) rfl⟩⟩
theorem f_K_11 : fLk "ScopeKeeper" 11 0 0 := ⟨0, _, _, 12, rfl, rfl, by decide, rfl, ws_K, Or.inl (gwm (lt1 99 rfl) rfl)⟩
theorem p_K_11 : fFk "ScopeKeeper" 11 0 0 (.array (.object "ScopeKeeper$Script")) := ⟨0, _, _, 12, ty_K, rfl, rfl, by decide, rfl, ws_K, tyk_K, nm_K, rfl, rfl, rfl, gwm (lt1 99 rfl) rfl⟩
theorem f_K_15 : fLk "ScopeKeeper" 15 0 1 := ⟨0, _, _, 12, rfl, rfl, by decide, rfl, ws_K, Or.inl (gwm (lt1 100 rfl) rfl)⟩
theorem p_K_15 : fPk "ScopeKeeper" 15 0 1 (.boolean) := ⟨0, _, _, 12, ty_K, rfl, rfl, by decide, rfl, ws_K, tyk_K, nm_K, rfl, rfl, Or.inl (gwm (lt1 100 rfl) rfl)⟩
theorem f_K_19 : fLk "ScopeKeeper" 19 0 2 := ⟨0, _, _, 12, rfl, rfl, by decide, rfl, ws_K, Or.inl (gwm (lt1 101 rfl) rfl)⟩
theorem p_K_19 : fPk "ScopeKeeper" 19 0 2 (.int) := ⟨0, _, _, 12, ty_K, rfl, rfl, by decide, rfl, ws_K, tyk_K, nm_K, rfl, rfl, Or.inl (gwm (lt1 101 rfl) rfl)⟩
theorem f_K_25 : fLk "ScopeKeeper" 25 0 3 := ⟨0, _, _, 12, rfl, rfl, by decide, rfl, ws_K, Or.inl (gwm (lt1 102 rfl) rfl)⟩
theorem p_K_25 : fFk "ScopeKeeper" 25 0 3 (.array (.object "ScopeKeeper$Worker")) := ⟨0, _, _, 12, ty_K, rfl, rfl, by decide, rfl, ws_K, tyk_K, nm_K, rfl, rfl, rfl, gwm (lt1 102 rfl) rfl⟩
theorem f_K_29 : fLk "ScopeKeeper" 29 0 4 := ⟨0, _, _, 12, rfl, rfl, by decide, rfl, ws_K, Or.inl (gwm (lt1 103 rfl) rfl)⟩
theorem p_K_29 : fPk "ScopeKeeper" 29 0 4 (.int) := ⟨0, _, _, 12, ty_K, rfl, rfl, by decide, rfl, ws_K, tyk_K, nm_K, rfl, rfl, Or.inl (gwm (lt1 103 rfl) rfl)⟩
theorem f_K_34 : fLk "ScopeKeeper" 34 0 5 := ⟨0, _, _, 12, rfl, rfl, by decide, rfl, ws_K, Or.inl (gwm (lt1 104 rfl) rfl)⟩
theorem p_K_34 : fFk "ScopeKeeper" 34 0 5 (.array (.object "ScopeKeeper$Registration")) := ⟨0, _, _, 12, ty_K, rfl, rfl, by decide, rfl, ws_K, tyk_K, nm_K, rfl, rfl, rfl, gwm (lt1 104 rfl) rfl⟩
theorem f_K_38 : fLk "ScopeKeeper" 38 0 6 := ⟨0, _, _, 12, rfl, rfl, by decide, rfl, ws_K, Or.inl (gwm (lt1 105 rfl) rfl)⟩
theorem p_K_38 : fPk "ScopeKeeper" 38 0 6 (.int) := ⟨0, _, _, 12, ty_K, rfl, rfl, by decide, rfl, ws_K, tyk_K, nm_K, rfl, rfl, Or.inl (gwm (lt1 105 rfl) rfl)⟩
theorem f_K_43 : fLk "ScopeKeeper" 43 0 7 := ⟨0, _, _, 12, rfl, rfl, by decide, rfl, ws_K, Or.inl (gwm (lt1 106 rfl) rfl)⟩
theorem p_K_43 : fFk "ScopeKeeper" 43 0 7 (.array (.object "ScopeKeeper$Client")) := ⟨0, _, _, 12, ty_K, rfl, rfl, by decide, rfl, ws_K, tyk_K, nm_K, rfl, rfl, rfl, gwm (lt1 106 rfl) rfl⟩
theorem f_K_47 : fLk "ScopeKeeper" 47 0 8 := ⟨0, _, _, 12, rfl, rfl, by decide, rfl, ws_K, Or.inl (gwm (lt1 107 rfl) rfl)⟩
theorem p_K_47 : fFk "ScopeKeeper" 47 0 8 (.array (.object "ScopeKeeper$Worker")) := ⟨0, _, _, 12, ty_K, rfl, rfl, by decide, rfl, ws_K, tyk_K, nm_K, rfl, rfl, rfl, gwm (lt1 107 rfl) rfl⟩
theorem f_K_52 : fLk "ScopeKeeper" 52 0 9 := ⟨0, _, _, 12, rfl, rfl, by decide, rfl, ws_K, Or.inl (gwm (lt1 108 rfl) rfl)⟩
theorem p_K_52 : fFk "ScopeKeeper" 52 0 9 (.array (.object "ScopeKeeper$Job")) := ⟨0, _, _, 12, ty_K, rfl, rfl, by decide, rfl, ws_K, tyk_K, nm_K, rfl, rfl, rfl, gwm (lt1 108 rfl) rfl⟩
theorem f_K_56 : fLk "ScopeKeeper" 56 0 10 := ⟨0, _, _, 12, rfl, rfl, by decide, rfl, ws_K, Or.inl (gwm (lt1 109 rfl) rfl)⟩
theorem p_K_56 : fPk "ScopeKeeper" 56 0 10 (.int) := ⟨0, _, _, 12, ty_K, rfl, rfl, by decide, rfl, ws_K, tyk_K, nm_K, rfl, rfl, Or.inl (gwm (lt1 109 rfl) rfl)⟩
theorem f_K_62 : fLk "ScopeKeeper" 62 0 11 := ⟨0, _, _, 12, rfl, rfl, by decide, rfl, ws_K, Or.inl (gwm (lt1 110 rfl) rfl)⟩
theorem p_K_62 : fFk "ScopeKeeper" 62 0 11 (.object "ScopeKeeper$Trace") := ⟨0, _, _, 12, ty_K, rfl, rfl, by decide, rfl, ws_K, tyk_K, nm_K, rfl, rfl, rfl, gwm (lt1 110 rfl) rfl⟩
theorem f_Jb_19 : fLk "ScopeKeeper$Job" 19 4 0 := ⟨4, _, _, 6, rfl, rfl, by decide, rfl, ws_Jb, Or.inl (gwm (lt2 32 rfl) rfl)⟩
theorem p_Jb_19 : fFk "ScopeKeeper$Job" 19 4 0 (.int) := ⟨4, _, _, 6, ty_Jb, rfl, rfl, by decide, rfl, ws_Jb, tyk_Jb, nm_Jb, rfl, rfl, rfl, gwm (lt2 32 rfl) rfl⟩
theorem f_K_117 : fLk "ScopeKeeper" 117 4 0 := ⟨4, _, _, 6, rfl, rfl, by decide, rfl, ws_Jb, Or.inr ⟨"ScopeKeeper", gwm (lt2 33 rfl) rfl⟩⟩
theorem f_Jb_22 : fLk "ScopeKeeper$Job" 22 4 1 := ⟨4, _, _, 6, rfl, rfl, by decide, rfl, ws_Jb, Or.inl (gwm (lt2 34 rfl) rfl)⟩
theorem p_Jb_22 : fFk "ScopeKeeper$Job" 22 4 1 (.int) := ⟨4, _, _, 6, ty_Jb, rfl, rfl, by decide, rfl, ws_Jb, tyk_Jb, nm_Jb, rfl, rfl, rfl, gwm (lt2 34 rfl) rfl⟩
theorem f_K_111 : fLk "ScopeKeeper" 111 4 1 := ⟨4, _, _, 6, rfl, rfl, by decide, rfl, ws_Jb, Or.inr ⟨"ScopeKeeper", gwm (lt2 35 rfl) rfl⟩⟩
theorem f_Jb_25 : fLk "ScopeKeeper$Job" 25 4 2 := ⟨4, _, _, 6, rfl, rfl, by decide, rfl, ws_Jb, Or.inl (gwm (lt2 36 rfl) rfl)⟩
theorem p_Jb_25 : fFk "ScopeKeeper$Job" 25 4 2 (.int) := ⟨4, _, _, 6, ty_Jb, rfl, rfl, by decide, rfl, ws_Jb, tyk_Jb, nm_Jb, rfl, rfl, rfl, gwm (lt2 36 rfl) rfl⟩
theorem f_K_301 : fLk "ScopeKeeper" 301 4 2 := ⟨4, _, _, 6, rfl, rfl, by decide, rfl, ws_Jb, Or.inr ⟨"ScopeKeeper", gwm (lt2 37 rfl) rfl⟩⟩
theorem f_Jb_28 : fLk "ScopeKeeper$Job" 28 4 3 := ⟨4, _, _, 6, rfl, rfl, by decide, rfl, ws_Jb, Or.inl (gwm (lt2 38 rfl) rfl)⟩
theorem p_Jb_28 : fFk "ScopeKeeper$Job" 28 4 3 (.int) := ⟨4, _, _, 6, ty_Jb, rfl, rfl, by decide, rfl, ws_Jb, tyk_Jb, nm_Jb, rfl, rfl, rfl, gwm (lt2 38 rfl) rfl⟩
theorem f_K_114 : fLk "ScopeKeeper" 114 4 3 := ⟨4, _, _, 6, rfl, rfl, by decide, rfl, ws_Jb, Or.inr ⟨"ScopeKeeper", gwm (lt2 39 rfl) rfl⟩⟩
theorem f_Jb_9 : fLk "ScopeKeeper$Job" 9 4 4 := ⟨4, _, _, 6, rfl, rfl, by decide, rfl, ws_Jb, Or.inl (gwm (lt2 40 rfl) rfl)⟩
theorem p_Jb_9 : fPk "ScopeKeeper$Job" 9 4 4 (.boolean) := ⟨4, _, _, 6, ty_Jb, rfl, rfl, by decide, rfl, ws_Jb, tyk_Jb, nm_Jb, rfl, rfl, Or.inl (gwm (lt2 40 rfl) rfl)⟩
theorem f_K_108 : fLk "ScopeKeeper" 108 4 4 := ⟨4, _, _, 6, rfl, rfl, by decide, rfl, ws_Jb, Or.inr ⟨"ScopeKeeper", gwm (lt2 41 rfl) rfl⟩⟩
theorem p_K_108 : fPk "ScopeKeeper" 108 4 4 (.boolean) := ⟨4, _, _, 6, ty_Jb, rfl, rfl, by decide, rfl, ws_Jb, tyk_Jb, nm_Jb, rfl, rfl, Or.inr ⟨"ScopeKeeper", gwm (lt2 41 rfl) rfl⟩⟩
theorem f_Jb_15 : fLk "ScopeKeeper$Job" 15 4 5 := ⟨4, _, _, 6, rfl, rfl, by decide, rfl, ws_Jb, Or.inl (gwm (lt2 42 rfl) rfl)⟩
theorem p_Jb_15 : fPk "ScopeKeeper$Job" 15 4 5 (.int) := ⟨4, _, _, 6, ty_Jb, rfl, rfl, by decide, rfl, ws_Jb, tyk_Jb, nm_Jb, rfl, rfl, Or.inl (gwm (lt2 42 rfl) rfl)⟩
theorem f_K_147 : fLk "ScopeKeeper" 147 4 5 := ⟨4, _, _, 6, rfl, rfl, by decide, rfl, ws_Jb, Or.inr ⟨"ScopeKeeper", gwm (lt2 43 rfl) rfl⟩⟩
theorem p_K_147 : fPk "ScopeKeeper" 147 4 5 (.int) := ⟨4, _, _, 6, ty_Jb, rfl, rfl, by decide, rfl, ws_Jb, tyk_Jb, nm_Jb, rfl, rfl, Or.inr ⟨"ScopeKeeper", gwm (lt2 43 rfl) rfl⟩⟩
theorem f_Rg_27 : fLk "ScopeKeeper$Registration" 27 5 0 := ⟨5, _, _, 6, rfl, rfl, by decide, rfl, ws_Rg, Or.inl (gwm (lt2 152 rfl) rfl)⟩
theorem p_Rg_27 : fFk "ScopeKeeper$Registration" 27 5 0 (.int) := ⟨5, _, _, 6, ty_Rg, rfl, rfl, by decide, rfl, ws_Rg, tyk_Rg, nm_Rg, rfl, rfl, rfl, gwm (lt2 152 rfl) rfl⟩
theorem f_K_274 : fLk "ScopeKeeper" 274 5 0 := ⟨5, _, _, 6, rfl, rfl, by decide, rfl, ws_Rg, Or.inr ⟨"ScopeKeeper", gwm (lt2 153 rfl) rfl⟩⟩
theorem f_Rg_7 : fLk "ScopeKeeper$Registration" 7 5 1 := ⟨5, _, _, 6, rfl, rfl, by decide, rfl, ws_Rg, Or.inl (gwm (lt2 154 rfl) rfl)⟩
theorem p_Rg_7 : fPk "ScopeKeeper$Registration" 7 5 1 (.int) := ⟨5, _, _, 6, ty_Rg, rfl, rfl, by decide, rfl, ws_Rg, tyk_Rg, nm_Rg, rfl, rfl, Or.inl (gwm (lt2 154 rfl) rfl)⟩
theorem f_K_235 : fLk "ScopeKeeper" 235 5 1 := ⟨5, _, _, 6, rfl, rfl, by decide, rfl, ws_Rg, Or.inr ⟨"ScopeKeeper", gwm (lt2 155 rfl) rfl⟩⟩
theorem p_K_235 : fPk "ScopeKeeper" 235 5 1 (.int) := ⟨5, _, _, 6, ty_Rg, rfl, rfl, by decide, rfl, ws_Rg, tyk_Rg, nm_Rg, rfl, rfl, Or.inr ⟨"ScopeKeeper", gwm (lt2 155 rfl) rfl⟩⟩
theorem f_Rg_13 : fLk "ScopeKeeper$Registration" 13 5 2 := ⟨5, _, _, 6, rfl, rfl, by decide, rfl, ws_Rg, Or.inl (gwm (lt2 156 rfl) rfl)⟩
theorem p_Rg_13 : fPk "ScopeKeeper$Registration" 13 5 2 (.object "ScopeKeeper$Worker") := ⟨5, _, _, 6, ty_Rg, rfl, rfl, by decide, rfl, ws_Rg, tyk_Rg, nm_Rg, rfl, rfl, Or.inl (gwm (lt2 156 rfl) rfl)⟩
theorem f_K_199 : fLk "ScopeKeeper" 199 5 2 := ⟨5, _, _, 6, rfl, rfl, by decide, rfl, ws_Rg, Or.inr ⟨"ScopeKeeper", gwm (lt2 157 rfl) rfl⟩⟩
theorem p_K_199 : fPk "ScopeKeeper" 199 5 2 (.object "ScopeKeeper$Worker") := ⟨5, _, _, 6, ty_Rg, rfl, rfl, by decide, rfl, ws_Rg, tyk_Rg, nm_Rg, rfl, rfl, Or.inr ⟨"ScopeKeeper", gwm (lt2 157 rfl) rfl⟩⟩
theorem f_Rg_17 : fLk "ScopeKeeper$Registration" 17 5 3 := ⟨5, _, _, 6, rfl, rfl, by decide, rfl, ws_Rg, Or.inl (gwm (lt2 158 rfl) rfl)⟩
theorem p_Rg_17 : fPk "ScopeKeeper$Registration" 17 5 3 (.object "ScopeKeeper$Worker") := ⟨5, _, _, 6, ty_Rg, rfl, rfl, by decide, rfl, ws_Rg, tyk_Rg, nm_Rg, rfl, rfl, Or.inl (gwm (lt2 158 rfl) rfl)⟩
theorem f_K_196 : fLk "ScopeKeeper" 196 5 3 := ⟨5, _, _, 6, rfl, rfl, by decide, rfl, ws_Rg, Or.inr ⟨"ScopeKeeper", gwm (lt2 159 rfl) rfl⟩⟩
theorem p_K_196 : fPk "ScopeKeeper" 196 5 3 (.object "ScopeKeeper$Worker") := ⟨5, _, _, 6, ty_Rg, rfl, rfl, by decide, rfl, ws_Rg, tyk_Rg, nm_Rg, rfl, rfl, Or.inr ⟨"ScopeKeeper", gwm (lt2 159 rfl) rfl⟩⟩
theorem f_Rg_20 : fLk "ScopeKeeper$Registration" 20 5 4 := ⟨5, _, _, 6, rfl, rfl, by decide, rfl, ws_Rg, Or.inl (gwm (lt2 160 rfl) rfl)⟩
theorem p_Rg_20 : fPk "ScopeKeeper$Registration" 20 5 4 (.object "ScopeKeeper$Worker") := ⟨5, _, _, 6, ty_Rg, rfl, rfl, by decide, rfl, ws_Rg, tyk_Rg, nm_Rg, rfl, rfl, Or.inl (gwm (lt2 160 rfl) rfl)⟩
theorem f_K_169 : fLk "ScopeKeeper" 169 5 4 := ⟨5, _, _, 6, rfl, rfl, by decide, rfl, ws_Rg, Or.inr ⟨"ScopeKeeper", gwm (lt2 161 rfl) rfl⟩⟩
theorem p_K_169 : fPk "ScopeKeeper" 169 5 4 (.object "ScopeKeeper$Worker") := ⟨5, _, _, 6, ty_Rg, rfl, rfl, by decide, rfl, ws_Rg, tyk_Rg, nm_Rg, rfl, rfl, Or.inr ⟨"ScopeKeeper", gwm (lt2 161 rfl) rfl⟩⟩
theorem f_Rg_23 : fLk "ScopeKeeper$Registration" 23 5 5 := ⟨5, _, _, 6, rfl, rfl, by decide, rfl, ws_Rg, Or.inl (gwm (lt2 162 rfl) rfl)⟩
theorem p_Rg_23 : fPk "ScopeKeeper$Registration" 23 5 5 (.boolean) := ⟨5, _, _, 6, ty_Rg, rfl, rfl, by decide, rfl, ws_Rg, tyk_Rg, nm_Rg, rfl, rfl, Or.inl (gwm (lt2 162 rfl) rfl)⟩
theorem f_K_236 : fLk "ScopeKeeper" 236 5 5 := ⟨5, _, _, 6, rfl, rfl, by decide, rfl, ws_Rg, Or.inr ⟨"ScopeKeeper", gwm (lt2 163 rfl) rfl⟩⟩
theorem p_K_236 : fPk "ScopeKeeper" 236 5 5 (.boolean) := ⟨5, _, _, 6, ty_Rg, rfl, rfl, by decide, rfl, ws_Rg, tyk_Rg, nm_Rg, rfl, rfl, Or.inr ⟨"ScopeKeeper", gwm (lt2 163 rfl) rfl⟩⟩
theorem f_Ca_9 : fLk "ScopeKeeper$Cache" 9 6 0 := ⟨6, _, _, 3, rfl, rfl, by decide, rfl, ws_Ca, Or.inl (gwm (lt2 196 rfl) rfl)⟩
theorem p_Ca_9 : fFk "ScopeKeeper$Cache" 9 6 0 (.array .int) := ⟨6, _, _, 3, ty_Ca, rfl, rfl, by decide, rfl, ws_Ca, tyk_Ca, nm_Ca, rfl, rfl, rfl, gwm (lt2 196 rfl) rfl⟩
theorem f_Ca_15 : fLk "ScopeKeeper$Cache" 15 6 1 := ⟨6, _, _, 3, rfl, rfl, by decide, rfl, ws_Ca, Or.inl (gwm (lt2 197 rfl) rfl)⟩
theorem p_Ca_15 : fFk "ScopeKeeper$Cache" 15 6 1 (.array .int) := ⟨6, _, _, 3, ty_Ca, rfl, rfl, by decide, rfl, ws_Ca, tyk_Ca, nm_Ca, rfl, rfl, rfl, gwm (lt2 197 rfl) rfl⟩
theorem f_Ca_18 : fLk "ScopeKeeper$Cache" 18 6 2 := ⟨6, _, _, 3, rfl, rfl, by decide, rfl, ws_Ca, Or.inl (gwm (lt2 198 rfl) rfl)⟩
theorem p_Ca_18 : fPk "ScopeKeeper$Cache" 18 6 2 (.int) := ⟨6, _, _, 3, ty_Ca, rfl, rfl, by decide, rfl, ws_Ca, tyk_Ca, nm_Ca, rfl, rfl, Or.inl (gwm (lt2 198 rfl) rfl)⟩
theorem f_K_254 : fLk "ScopeKeeper" 254 6 2 := ⟨6, _, _, 3, rfl, rfl, by decide, rfl, ws_Ca, Or.inr ⟨"ScopeKeeper", gwm (lt2 199 rfl) rfl⟩⟩
theorem p_K_254 : fPk "ScopeKeeper" 254 6 2 (.int) := ⟨6, _, _, 3, ty_Ca, rfl, rfl, by decide, rfl, ws_Ca, tyk_Ca, nm_Ca, rfl, rfl, Or.inr ⟨"ScopeKeeper", gwm (lt2 199 rfl) rfl⟩⟩
theorem f_Wk_26 : fLk "ScopeKeeper$Worker" 26 7 0 := ⟨7, _, _, 7, rfl, rfl, by decide, rfl, ws_Wk, Or.inl (gwm (lt2 207 rfl) rfl)⟩
theorem p_Wk_26 : fFk "ScopeKeeper$Worker" 26 7 0 (.int) := ⟨7, _, _, 7, ty_Wk, rfl, rfl, by decide, rfl, ws_Wk, tyk_Wk, nm_Wk, rfl, rfl, rfl, gwm (lt2 207 rfl) rfl⟩
theorem f_K_211 : fLk "ScopeKeeper" 211 7 0 := ⟨7, _, _, 7, rfl, rfl, by decide, rfl, ws_Wk, Or.inr ⟨"ScopeKeeper", gwm (lt2 208 rfl) rfl⟩⟩
theorem f_Wk_34 : fLk "ScopeKeeper$Worker" 34 7 1 := ⟨7, _, _, 7, rfl, rfl, by decide, rfl, ws_Wk, Or.inl (gwm (lt2 209 rfl) rfl)⟩
theorem p_Wk_34 : fFk "ScopeKeeper$Worker" 34 7 1 (.int) := ⟨7, _, _, 7, ty_Wk, rfl, rfl, by decide, rfl, ws_Wk, tyk_Wk, nm_Wk, rfl, rfl, rfl, gwm (lt2 209 rfl) rfl⟩
theorem f_K_216 : fLk "ScopeKeeper" 216 7 1 := ⟨7, _, _, 7, rfl, rfl, by decide, rfl, ws_Wk, Or.inr ⟨"ScopeKeeper", gwm (lt2 210 rfl) rfl⟩⟩
theorem f_Wk_38 : fLk "ScopeKeeper$Worker" 38 7 2 := ⟨7, _, _, 7, rfl, rfl, by decide, rfl, ws_Wk, Or.inl (gwm (lt2 211 rfl) rfl)⟩
theorem p_Wk_38 : fFk "ScopeKeeper$Worker" 38 7 2 (.int) := ⟨7, _, _, 7, ty_Wk, rfl, rfl, by decide, rfl, ws_Wk, tyk_Wk, nm_Wk, rfl, rfl, rfl, gwm (lt2 211 rfl) rfl⟩
theorem f_K_343 : fLk "ScopeKeeper" 343 7 2 := ⟨7, _, _, 7, rfl, rfl, by decide, rfl, ws_Wk, Or.inr ⟨"ScopeKeeper", gwm (lt2 212 rfl) rfl⟩⟩
theorem f_Wk_42 : fLk "ScopeKeeper$Worker" 42 7 3 := ⟨7, _, _, 7, rfl, rfl, by decide, rfl, ws_Wk, Or.inl (gwm (lt2 213 rfl) rfl)⟩
theorem p_Wk_42 : fFk "ScopeKeeper$Worker" 42 7 3 (.int) := ⟨7, _, _, 7, ty_Wk, rfl, rfl, by decide, rfl, ws_Wk, tyk_Wk, nm_Wk, rfl, rfl, rfl, gwm (lt2 213 rfl) rfl⟩
theorem f_K_212 : fLk "ScopeKeeper" 212 7 3 := ⟨7, _, _, 7, rfl, rfl, by decide, rfl, ws_Wk, Or.inr ⟨"ScopeKeeper", gwm (lt2 214 rfl) rfl⟩⟩
theorem f_Wk_12 : fLk "ScopeKeeper$Worker" 12 7 4 := ⟨7, _, _, 7, rfl, rfl, by decide, rfl, ws_Wk, Or.inl (gwm (lt2 215 rfl) rfl)⟩
theorem p_Wk_12 : fFk "ScopeKeeper$Worker" 12 7 4 (.object "ScopeKeeper$Cache") := ⟨7, _, _, 7, ty_Wk, rfl, rfl, by decide, rfl, ws_Wk, tyk_Wk, nm_Wk, rfl, rfl, rfl, gwm (lt2 215 rfl) rfl⟩
theorem f_K_217 : fLk "ScopeKeeper" 217 7 4 := ⟨7, _, _, 7, rfl, rfl, by decide, rfl, ws_Wk, Or.inr ⟨"ScopeKeeper", gwm (lt2 216 rfl) rfl⟩⟩
theorem f_Wk_18 : fLk "ScopeKeeper$Worker" 18 7 5 := ⟨7, _, _, 7, rfl, rfl, by decide, rfl, ws_Wk, Or.inl (gwm (lt2 217 rfl) rfl)⟩
theorem p_Wk_18 : fPk "ScopeKeeper$Worker" 18 7 5 (.int) := ⟨7, _, _, 7, ty_Wk, rfl, rfl, by decide, rfl, ws_Wk, tyk_Wk, nm_Wk, rfl, rfl, Or.inl (gwm (lt2 217 rfl) rfl)⟩
theorem f_K_248 : fLk "ScopeKeeper" 248 7 5 := ⟨7, _, _, 7, rfl, rfl, by decide, rfl, ws_Wk, Or.inr ⟨"ScopeKeeper", gwm (lt2 218 rfl) rfl⟩⟩
theorem p_K_248 : fPk "ScopeKeeper" 248 7 5 (.int) := ⟨7, _, _, 7, ty_Wk, rfl, rfl, by decide, rfl, ws_Wk, tyk_Wk, nm_Wk, rfl, rfl, Or.inr ⟨"ScopeKeeper", gwm (lt2 218 rfl) rfl⟩⟩
theorem f_Wk_22 : fLk "ScopeKeeper$Worker" 22 7 6 := ⟨7, _, _, 7, rfl, rfl, by decide, rfl, ws_Wk, Or.inl (gwm (lt2 219 rfl) rfl)⟩
theorem p_Wk_22 : fPk "ScopeKeeper$Worker" 22 7 6 (.boolean) := ⟨7, _, _, 7, ty_Wk, rfl, rfl, by decide, rfl, ws_Wk, tyk_Wk, nm_Wk, rfl, rfl, Or.inl (gwm (lt2 219 rfl) rfl)⟩
theorem f_K_204 : fLk "ScopeKeeper" 204 7 6 := ⟨7, _, _, 7, rfl, rfl, by decide, rfl, ws_Wk, Or.inr ⟨"ScopeKeeper", gwm (lt2 220 rfl) rfl⟩⟩
theorem p_K_204 : fPk "ScopeKeeper" 204 7 6 (.boolean) := ⟨7, _, _, 7, ty_Wk, rfl, rfl, by decide, rfl, ws_Wk, tyk_Wk, nm_Wk, rfl, rfl, Or.inr ⟨"ScopeKeeper", gwm (lt2 220 rfl) rfl⟩⟩
theorem f_Md_7 : fLk "ScopeKeeperModel" 7 18 0 := ⟨8, _, _, 36, rfl, rfl, by decide, rfl, ws_Md, Or.inl (gwm (lt3 199 rfl) rfl)⟩
theorem p_Md_7 : fFk "ScopeKeeperModel" 7 18 0 (.array .int) := ⟨8, _, _, 36, ty_Md, rfl, rfl, by decide, rfl, ws_Md, tyk_Md, nm_Md, rfl, rfl, rfl, gwm (lt3 199 rfl) rfl⟩
theorem f_Md_13 : fLk "ScopeKeeperModel" 13 18 1 := ⟨8, _, _, 36, rfl, rfl, by decide, rfl, ws_Md, Or.inl (gwm (lt3 200 rfl) rfl)⟩
theorem p_Md_13 : fFk "ScopeKeeperModel" 13 18 1 (.array .int) := ⟨8, _, _, 36, ty_Md, rfl, rfl, by decide, rfl, ws_Md, tyk_Md, nm_Md, rfl, rfl, rfl, gwm (lt3 200 rfl) rfl⟩
theorem f_Md_16 : fLk "ScopeKeeperModel" 16 18 2 := ⟨8, _, _, 36, rfl, rfl, by decide, rfl, ws_Md, Or.inl (gwm (lt3 201 rfl) rfl)⟩
theorem p_Md_16 : fFk "ScopeKeeperModel" 16 18 2 (.array .int) := ⟨8, _, _, 36, ty_Md, rfl, rfl, by decide, rfl, ws_Md, tyk_Md, nm_Md, rfl, rfl, rfl, gwm (lt3 201 rfl) rfl⟩
theorem f_Md_19 : fLk "ScopeKeeperModel" 19 18 3 := ⟨8, _, _, 36, rfl, rfl, by decide, rfl, ws_Md, Or.inl (gwm (lt3 202 rfl) rfl)⟩
theorem p_Md_19 : fFk "ScopeKeeperModel" 19 18 3 (.array .int) := ⟨8, _, _, 36, ty_Md, rfl, rfl, by decide, rfl, ws_Md, tyk_Md, nm_Md, rfl, rfl, rfl, gwm (lt3 202 rfl) rfl⟩
theorem f_Md_22 : fLk "ScopeKeeperModel" 22 18 4 := ⟨8, _, _, 36, rfl, rfl, by decide, rfl, ws_Md, Or.inl (gwm (lt3 203 rfl) rfl)⟩
theorem p_Md_22 : fFk "ScopeKeeperModel" 22 18 4 (.array .int) := ⟨8, _, _, 36, ty_Md, rfl, rfl, by decide, rfl, ws_Md, tyk_Md, nm_Md, rfl, rfl, rfl, gwm (lt3 203 rfl) rfl⟩
theorem f_Md_25 : fLk "ScopeKeeperModel" 25 18 5 := ⟨8, _, _, 36, rfl, rfl, by decide, rfl, ws_Md, Or.inl (gwm (lt3 204 rfl) rfl)⟩
theorem p_Md_25 : fFk "ScopeKeeperModel" 25 18 5 (.array .int) := ⟨8, _, _, 36, ty_Md, rfl, rfl, by decide, rfl, ws_Md, tyk_Md, nm_Md, rfl, rfl, rfl, gwm (lt3 204 rfl) rfl⟩
theorem f_Md_28 : fLk "ScopeKeeperModel" 28 18 6 := ⟨8, _, _, 36, rfl, rfl, by decide, rfl, ws_Md, Or.inl (gwm (lt3 205 rfl) rfl)⟩
theorem p_Md_28 : fFk "ScopeKeeperModel" 28 18 6 (.array .int) := ⟨8, _, _, 36, ty_Md, rfl, rfl, by decide, rfl, ws_Md, tyk_Md, nm_Md, rfl, rfl, rfl, gwm (lt3 205 rfl) rfl⟩
theorem f_Md_31 : fLk "ScopeKeeperModel" 31 18 7 := ⟨8, _, _, 36, rfl, rfl, by decide, rfl, ws_Md, Or.inl (gwm (lt3 206 rfl) rfl)⟩
theorem p_Md_31 : fFk "ScopeKeeperModel" 31 18 7 (.array .int) := ⟨8, _, _, 36, ty_Md, rfl, rfl, by decide, rfl, ws_Md, tyk_Md, nm_Md, rfl, rfl, rfl, gwm (lt3 206 rfl) rfl⟩
theorem f_Md_34 : fLk "ScopeKeeperModel" 34 18 8 := ⟨8, _, _, 36, rfl, rfl, by decide, rfl, ws_Md, Or.inl (gwm (lt3 207 rfl) rfl)⟩
theorem p_Md_34 : fFk "ScopeKeeperModel" 34 18 8 (.array .int) := ⟨8, _, _, 36, ty_Md, rfl, rfl, by decide, rfl, ws_Md, tyk_Md, nm_Md, rfl, rfl, rfl, gwm (lt3 207 rfl) rfl⟩
theorem f_Md_37 : fLk "ScopeKeeperModel" 37 18 9 := ⟨8, _, _, 36, rfl, rfl, by decide, rfl, ws_Md, Or.inl (gwm (lt3 208 rfl) rfl)⟩
theorem p_Md_37 : fFk "ScopeKeeperModel" 37 18 9 (.array .int) := ⟨8, _, _, 36, ty_Md, rfl, rfl, by decide, rfl, ws_Md, tyk_Md, nm_Md, rfl, rfl, rfl, gwm (lt3 208 rfl) rfl⟩
theorem f_Md_40 : fLk "ScopeKeeperModel" 40 18 10 := ⟨8, _, _, 36, rfl, rfl, by decide, rfl, ws_Md, Or.inl (gwm (lt3 209 rfl) rfl)⟩
theorem p_Md_40 : fFk "ScopeKeeperModel" 40 18 10 (.array .int) := ⟨8, _, _, 36, ty_Md, rfl, rfl, by decide, rfl, ws_Md, tyk_Md, nm_Md, rfl, rfl, rfl, gwm (lt3 209 rfl) rfl⟩
theorem f_Md_43 : fLk "ScopeKeeperModel" 43 18 11 := ⟨8, _, _, 36, rfl, rfl, by decide, rfl, ws_Md, Or.inl (gwm (lt3 210 rfl) rfl)⟩
theorem p_Md_43 : fFk "ScopeKeeperModel" 43 18 11 (.array .int) := ⟨8, _, _, 36, ty_Md, rfl, rfl, by decide, rfl, ws_Md, tyk_Md, nm_Md, rfl, rfl, rfl, gwm (lt3 210 rfl) rfl⟩
theorem f_Md_46 : fLk "ScopeKeeperModel" 46 18 12 := ⟨8, _, _, 36, rfl, rfl, by decide, rfl, ws_Md, Or.inl (gwm (lt3 211 rfl) rfl)⟩
theorem p_Md_46 : fFk "ScopeKeeperModel" 46 18 12 (.array .boolean) := ⟨8, _, _, 36, ty_Md, rfl, rfl, by decide, rfl, ws_Md, tyk_Md, nm_Md, rfl, rfl, rfl, gwm (lt3 211 rfl) rfl⟩
theorem f_Md_50 : fLk "ScopeKeeperModel" 50 18 13 := ⟨8, _, _, 36, rfl, rfl, by decide, rfl, ws_Md, Or.inl (gwm (lt3 212 rfl) rfl)⟩
theorem p_Md_50 : fFk "ScopeKeeperModel" 50 18 13 (.array .int) := ⟨8, _, _, 36, ty_Md, rfl, rfl, by decide, rfl, ws_Md, tyk_Md, nm_Md, rfl, rfl, rfl, gwm (lt3 212 rfl) rfl⟩
theorem f_Md_53 : fLk "ScopeKeeperModel" 53 18 14 := ⟨8, _, _, 36, rfl, rfl, by decide, rfl, ws_Md, Or.inl (gwm (lt3 213 rfl) rfl)⟩
theorem p_Md_53 : fFk "ScopeKeeperModel" 53 18 14 (.array .int) := ⟨8, _, _, 36, ty_Md, rfl, rfl, by decide, rfl, ws_Md, tyk_Md, nm_Md, rfl, rfl, rfl, gwm (lt3 213 rfl) rfl⟩
theorem f_Md_56 : fLk "ScopeKeeperModel" 56 18 15 := ⟨8, _, _, 36, rfl, rfl, by decide, rfl, ws_Md, Or.inl (gwm (lt3 214 rfl) rfl)⟩
theorem p_Md_56 : fFk "ScopeKeeperModel" 56 18 15 (.array .int) := ⟨8, _, _, 36, ty_Md, rfl, rfl, by decide, rfl, ws_Md, tyk_Md, nm_Md, rfl, rfl, rfl, gwm (lt3 214 rfl) rfl⟩
theorem f_Md_59 : fLk "ScopeKeeperModel" 59 18 16 := ⟨8, _, _, 36, rfl, rfl, by decide, rfl, ws_Md, Or.inl (gwm (lt3 215 rfl) rfl)⟩
theorem p_Md_59 : fFk "ScopeKeeperModel" 59 18 16 (.array .int) := ⟨8, _, _, 36, ty_Md, rfl, rfl, by decide, rfl, ws_Md, tyk_Md, nm_Md, rfl, rfl, rfl, gwm (lt3 215 rfl) rfl⟩
theorem f_Md_62 : fLk "ScopeKeeperModel" 62 18 17 := ⟨8, _, _, 36, rfl, rfl, by decide, rfl, ws_Md, Or.inl (gwm (lt3 216 rfl) rfl)⟩
theorem p_Md_62 : fFk "ScopeKeeperModel" 62 18 17 (.array .int) := ⟨8, _, _, 36, ty_Md, rfl, rfl, by decide, rfl, ws_Md, tyk_Md, nm_Md, rfl, rfl, rfl, gwm (lt3 216 rfl) rfl⟩
theorem f_Md_65 : fLk "ScopeKeeperModel" 65 18 18 := ⟨8, _, _, 36, rfl, rfl, by decide, rfl, ws_Md, Or.inl (gwm (lt3 217 rfl) rfl)⟩
theorem p_Md_65 : fFk "ScopeKeeperModel" 65 18 18 (.array .boolean) := ⟨8, _, _, 36, ty_Md, rfl, rfl, by decide, rfl, ws_Md, tyk_Md, nm_Md, rfl, rfl, rfl, gwm (lt3 217 rfl) rfl⟩
theorem f_Md_68 : fLk "ScopeKeeperModel" 68 18 19 := ⟨8, _, _, 36, rfl, rfl, by decide, rfl, ws_Md, Or.inl (gwm (lt3 218 rfl) rfl)⟩
theorem p_Md_68 : fFk "ScopeKeeperModel" 68 18 19 (.array .boolean) := ⟨8, _, _, 36, ty_Md, rfl, rfl, by decide, rfl, ws_Md, tyk_Md, nm_Md, rfl, rfl, rfl, gwm (lt3 218 rfl) rfl⟩
theorem f_Md_71 : fLk "ScopeKeeperModel" 71 18 20 := ⟨8, _, _, 36, rfl, rfl, by decide, rfl, ws_Md, Or.inl (gwm (lt3 219 rfl) rfl)⟩
theorem p_Md_71 : fFk "ScopeKeeperModel" 71 18 20 (.array .boolean) := ⟨8, _, _, 36, ty_Md, rfl, rfl, by decide, rfl, ws_Md, tyk_Md, nm_Md, rfl, rfl, rfl, gwm (lt3 219 rfl) rfl⟩
theorem f_Md_74 : fLk "ScopeKeeperModel" 74 18 21 := ⟨8, _, _, 36, rfl, rfl, by decide, rfl, ws_Md, Or.inl (gwm (lt3 220 rfl) rfl)⟩
theorem p_Md_74 : fFk "ScopeKeeperModel" 74 18 21 (.array .int) := ⟨8, _, _, 36, ty_Md, rfl, rfl, by decide, rfl, ws_Md, tyk_Md, nm_Md, rfl, rfl, rfl, gwm (lt3 220 rfl) rfl⟩
theorem f_Md_77 : fLk "ScopeKeeperModel" 77 18 22 := ⟨8, _, _, 36, rfl, rfl, by decide, rfl, ws_Md, Or.inl (gwm (lt3 221 rfl) rfl)⟩
theorem p_Md_77 : fFk "ScopeKeeperModel" 77 18 22 (.array .int) := ⟨8, _, _, 36, ty_Md, rfl, rfl, by decide, rfl, ws_Md, tyk_Md, nm_Md, rfl, rfl, rfl, gwm (lt3 221 rfl) rfl⟩
theorem f_Md_80 : fLk "ScopeKeeperModel" 80 18 23 := ⟨8, _, _, 36, rfl, rfl, by decide, rfl, ws_Md, Or.inl (gwm (lt3 222 rfl) rfl)⟩
theorem p_Md_80 : fFk "ScopeKeeperModel" 80 18 23 (.array .int) := ⟨8, _, _, 36, ty_Md, rfl, rfl, by decide, rfl, ws_Md, tyk_Md, nm_Md, rfl, rfl, rfl, gwm (lt3 222 rfl) rfl⟩
theorem f_Md_83 : fLk "ScopeKeeperModel" 83 18 24 := ⟨8, _, _, 36, rfl, rfl, by decide, rfl, ws_Md, Or.inl (gwm (lt3 223 rfl) rfl)⟩
theorem p_Md_83 : fFk "ScopeKeeperModel" 83 18 24 (.array .int) := ⟨8, _, _, 36, ty_Md, rfl, rfl, by decide, rfl, ws_Md, tyk_Md, nm_Md, rfl, rfl, rfl, gwm (lt3 223 rfl) rfl⟩
theorem f_Md_86 : fLk "ScopeKeeperModel" 86 18 25 := ⟨8, _, _, 36, rfl, rfl, by decide, rfl, ws_Md, Or.inl (gwm (lt3 224 rfl) rfl)⟩
theorem p_Md_86 : fFk "ScopeKeeperModel" 86 18 25 (.array .int) := ⟨8, _, _, 36, ty_Md, rfl, rfl, by decide, rfl, ws_Md, tyk_Md, nm_Md, rfl, rfl, rfl, gwm (lt3 224 rfl) rfl⟩
theorem f_Md_89 : fLk "ScopeKeeperModel" 89 18 26 := ⟨8, _, _, 36, rfl, rfl, by decide, rfl, ws_Md, Or.inl (gwm (lt3 225 rfl) rfl)⟩
theorem p_Md_89 : fFk "ScopeKeeperModel" 89 18 26 (.array .int) := ⟨8, _, _, 36, ty_Md, rfl, rfl, by decide, rfl, ws_Md, tyk_Md, nm_Md, rfl, rfl, rfl, gwm (lt3 225 rfl) rfl⟩
theorem f_Md_92 : fLk "ScopeKeeperModel" 92 18 27 := ⟨8, _, _, 36, rfl, rfl, by decide, rfl, ws_Md, Or.inl (gwm (lt3 226 rfl) rfl)⟩
theorem p_Md_92 : fFk "ScopeKeeperModel" 92 18 27 (.array .int) := ⟨8, _, _, 36, ty_Md, rfl, rfl, by decide, rfl, ws_Md, tyk_Md, nm_Md, rfl, rfl, rfl, gwm (lt3 226 rfl) rfl⟩
theorem f_Md_95 : fLk "ScopeKeeperModel" 95 18 28 := ⟨8, _, _, 36, rfl, rfl, by decide, rfl, ws_Md, Or.inl (gwm (lt3 227 rfl) rfl)⟩
theorem p_Md_95 : fFk "ScopeKeeperModel" 95 18 28 (.array .int) := ⟨8, _, _, 36, ty_Md, rfl, rfl, by decide, rfl, ws_Md, tyk_Md, nm_Md, rfl, rfl, rfl, gwm (lt3 227 rfl) rfl⟩
theorem f_Md_129 : fLk "ScopeKeeperModel" 129 18 29 := ⟨8, _, _, 36, rfl, rfl, by decide, rfl, ws_Md, Or.inl (gwm (lt3 228 rfl) rfl)⟩
theorem p_Md_129 : fPk "ScopeKeeperModel" 129 18 29 (.int) := ⟨8, _, _, 36, ty_Md, rfl, rfl, by decide, rfl, ws_Md, tyk_Md, nm_Md, rfl, rfl, Or.inl (gwm (lt3 228 rfl) rfl)⟩
theorem f_Md_164 : fLk "ScopeKeeperModel" 164 18 30 := ⟨8, _, _, 36, rfl, rfl, by decide, rfl, ws_Md, Or.inl (gwm (lt3 229 rfl) rfl)⟩
theorem p_Md_164 : fPk "ScopeKeeperModel" 164 18 30 (.int) := ⟨8, _, _, 36, ty_Md, rfl, rfl, by decide, rfl, ws_Md, tyk_Md, nm_Md, rfl, rfl, Or.inl (gwm (lt3 229 rfl) rfl)⟩
theorem f_Md_158 : fLk "ScopeKeeperModel" 158 18 31 := ⟨8, _, _, 36, rfl, rfl, by decide, rfl, ws_Md, Or.inl (gwm (lt3 230 rfl) rfl)⟩
theorem p_Md_158 : fPk "ScopeKeeperModel" 158 18 31 (.int) := ⟨8, _, _, 36, ty_Md, rfl, rfl, by decide, rfl, ws_Md, tyk_Md, nm_Md, rfl, rfl, Or.inl (gwm (lt3 230 rfl) rfl)⟩
theorem f_Md_111 : fLk "ScopeKeeperModel" 111 18 32 := ⟨8, _, _, 36, rfl, rfl, by decide, rfl, ws_Md, Or.inl (gwm (lt3 231 rfl) rfl)⟩
theorem p_Md_111 : fPk "ScopeKeeperModel" 111 18 32 (.int) := ⟨8, _, _, 36, ty_Md, rfl, rfl, by decide, rfl, ws_Md, tyk_Md, nm_Md, rfl, rfl, Or.inl (gwm (lt3 231 rfl) rfl)⟩
theorem f_Md_126 : fLk "ScopeKeeperModel" 126 18 33 := ⟨8, _, _, 36, rfl, rfl, by decide, rfl, ws_Md, Or.inl (gwm (lt3 232 rfl) rfl)⟩
theorem p_Md_126 : fPk "ScopeKeeperModel" 126 18 33 (.int) := ⟨8, _, _, 36, ty_Md, rfl, rfl, by decide, rfl, ws_Md, tyk_Md, nm_Md, rfl, rfl, Or.inl (gwm (lt3 232 rfl) rfl)⟩
theorem f_Md_98 : fLk "ScopeKeeperModel" 98 18 34 := ⟨8, _, _, 36, rfl, rfl, by decide, rfl, ws_Md, Or.inl (gwm (lt3 233 rfl) rfl)⟩
theorem p_Md_98 : fPk "ScopeKeeperModel" 98 18 34 (.int) := ⟨8, _, _, 36, ty_Md, rfl, rfl, by decide, rfl, ws_Md, tyk_Md, nm_Md, rfl, rfl, Or.inl (gwm (lt3 233 rfl) rfl)⟩
theorem f_Md_122 : fLk "ScopeKeeperModel" 122 18 35 := ⟨8, _, _, 36, rfl, rfl, by decide, rfl, ws_Md, Or.inl (gwm (lt3 234 rfl) rfl)⟩
theorem p_Md_122 : fPk "ScopeKeeperModel" 122 18 35 (.boolean) := ⟨8, _, _, 36, ty_Md, rfl, rfl, by decide, rfl, ws_Md, tyk_Md, nm_Md, rfl, rfl, Or.inl (gwm (lt3 234 rfl) rfl)⟩
theorem n_Lw_8 : nLk "ScopeKeeperLaw" 8 0 12 := ⟨0, _, _, ty_K, rfl, rfl, ws_K, tyk_K, (fun j hj => by match j, hj with | 0, _ => rfl | 1, _ => rfl | 2, _ => rfl | 3, _ => rfl | 4, _ => rfl | 5, _ => rfl | 6, _ => rfl | 7, _ => rfl | 8, _ => rfl | 9, _ => rfl | 10, _ => rfl | 11, _ => rfl | j + 12, h => omega), gwm (lt1 18 rfl) rfl, gwm (lt1 19 rfl) rfl, gwm (lt1 1 rfl) rfl⟩
theorem n_K_9 : nLk "ScopeKeeper" 9 1 4 := ⟨1, _, _, ty_Sc, rfl, rfl, ws_Sc, tyk_Sc, (fun j hj => by match j, hj with | 0, _ => rfl | 1, _ => rfl | 2, _ => rfl | 3, _ => rfl | j + 4, h => omega), gwm (lt1 26 rfl) rfl, gwm (lt1 56 rfl) rfl, gwm (lt1 3 rfl) rfl⟩
theorem n_K_23 : nLk "ScopeKeeper" 23 7 7 := ⟨7, _, _, ty_Wk, rfl, rfl, ws_Wk, tyk_Wk, (fun j hj => by match j, hj with | 0, _ => rfl | 1, _ => rfl | 2, _ => rfl | 3, _ => rfl | 4, _ => rfl | 5, _ => rfl | 6, _ => rfl | j + 7, h => omega), gwm (lt1 28 rfl) rfl, gwm (lt2 185 rfl) rfl, gwm (lt1 14 rfl) rfl⟩
theorem n_K_32 : nLk "ScopeKeeper" 32 5 6 := ⟨5, _, _, ty_Rg, rfl, rfl, ws_Rg, tyk_Rg, (fun j hj => by match j, hj with | 0, _ => rfl | 1, _ => rfl | 2, _ => rfl | 3, _ => rfl | 4, _ => rfl | 5, _ => rfl | j + 6, h => omega), gwm (lt1 30 rfl) rfl, gwm (lt2 147 rfl) rfl, gwm (lt1 13 rfl) rfl⟩
theorem n_K_41 : nLk "ScopeKeeper" 41 2 3 := ⟨2, _, _, ty_Cl, rfl, rfl, ws_Cl, tyk_Cl, (fun j hj => by match j, hj with | 0, _ => rfl | 1, _ => rfl | 2, _ => rfl | j + 3, h => omega), gwm (lt1 32 rfl) rfl, gwm (lt1 81 rfl) rfl, gwm (lt1 4 rfl) rfl⟩
theorem n_K_50 : nLk "ScopeKeeper" 50 4 6 := ⟨4, _, _, ty_Jb, rfl, rfl, ws_Jb, tyk_Jb, (fun j hj => by match j, hj with | 0, _ => rfl | 1, _ => rfl | 2, _ => rfl | 3, _ => rfl | 4, _ => rfl | 5, _ => rfl | j + 6, h => omega), gwm (lt1 34 rfl) rfl, gwm (lt2 27 rfl) rfl, gwm (lt1 11 rfl) rfl⟩
theorem n_K_59 : nLk "ScopeKeeper" 59 3 3 := ⟨3, _, _, ty_Tr, rfl, rfl, ws_Tr, tyk_Tr, (fun j hj => by match j, hj with | 0, _ => rfl | 1, _ => rfl | 2, _ => rfl | j + 3, h => omega), gwm (lt1 36 rfl) rfl, gwm (lt1 37 rfl) rfl, gwm (lt1 2 rfl) rfl⟩
theorem n_Wk_9 : nLk "ScopeKeeper$Worker" 9 6 3 := ⟨6, _, _, ty_Ca, rfl, rfl, ws_Ca, tyk_Ca, (fun j hj => by match j, hj with | 0, _ => rfl | 1, _ => rfl | 2, _ => rfl | j + 3, h => omega), gwm (lt2 190 rfl) rfl, gwm (lt2 191 rfl) rfl, gwm (lt1 15 rfl) rfl⟩
theorem n_Lw_63 : nLk "ScopeKeeperLaw" 63 18 36 := ⟨8, _, _, ty_Md, rfl, rfl, ws_Md, tyk_Md, (fun j hj => by match j, hj with | 0, _ => rfl | 1, _ => rfl | 2, _ => rfl | 3, _ => rfl | 4, _ => rfl | 5, _ => rfl | 6, _ => rfl | 7, _ => rfl | 8, _ => rfl | 9, _ => rfl | 10, _ => rfl | 11, _ => rfl | 12, _ => rfl | 13, _ => rfl | 14, _ => rfl | 15, _ => rfl | 16, _ => rfl | 17, _ => rfl | 18, _ => rfl | 19, _ => rfl | 20, _ => rfl | 21, _ => rfl | 22, _ => rfl | 23, _ => rfl | 24, _ => rfl | 25, _ => rfl | 26, _ => rfl | 27, _ => rfl | 28, _ => rfl | 29, _ => rfl | 30, _ => rfl | 31, _ => rfl | 32, _ => rfl | 33, _ => rfl | 34, _ => rfl | 35, _ => rfl | j + 36, h => omega), gwm (lt3 193 rfl) rfl, gwm (lt3 194 rfl) rfl, gwm (lt1 5 rfl) rfl⟩
theorem a_scripts : aLk 8 1 4 (.object "ScopeKeeper$Script") := ⟨rfl, by decide, fun _ => rfl⟩
theorem a_workers : aLk 9 2 40 (.object "ScopeKeeper$Worker") := ⟨rfl, by decide, fun _ => rfl⟩
theorem a_regs : aLk 10 3 5 (.object "ScopeKeeper$Registration") := ⟨rfl, by decide, fun _ => rfl⟩
theorem a_clients : aLk 11 4 8 (.object "ScopeKeeper$Client") := ⟨rfl, by decide, fun _ => rfl⟩
theorem a_from : aLk 12 2 8 (.object "ScopeKeeper$Worker") := ⟨rfl, by decide, fun _ => rfl⟩
theorem a_jobs : aLk 13 5 60 (.object "ScopeKeeper$Job") := ⟨rfl, by decide, fun _ => rfl⟩
theorem a_numbers : aLk 14 0 60 (.int) := ⟨rfl, by decide, fun _ => rfl⟩
theorem a_paths : aLk 15 0 4 (.int) := ⟨rfl, by decide, fun _ => rfl⟩
theorem a_values : aLk 16 0 4 (.int) := ⟨rfl, by decide, fun _ => rfl⟩
theorem a_out : aLk 17 6 1 (.long) := ⟨rfl, by decide, fun _ => rfl⟩
theorem a_m_content : aLk 19 0 4 (.int) := ⟨rfl, by decide, fun _ => rfl⟩
theorem a_m_broad : aLk 20 0 4 (.int) := ⟨rfl, by decide, fun _ => rfl⟩
theorem a_m_flaw : aLk 21 0 4 (.int) := ⟨rfl, by decide, fun _ => rfl⟩
theorem a_m_mode : aLk 22 0 4 (.int) := ⟨rfl, by decide, fun _ => rfl⟩
theorem a_m_madeOf : aLk 23 0 41 (.int) := ⟨rfl, by decide, fun _ => rfl⟩
theorem a_m_state : aLk 24 0 41 (.int) := ⟨rfl, by decide, fun _ => rfl⟩
theorem a_m_told : aLk 25 0 41 (.int) := ⟨rfl, by decide, fun _ => rfl⟩
theorem a_m_spoilt : aLk 26 0 41 (.int) := ⟨rfl, by decide, fun _ => rfl⟩
theorem a_m_way : aLk 27 0 41 (.int) := ⟨rfl, by decide, fun _ => rfl⟩
theorem a_m_kept : aLk 28 0 41 (.int) := ⟨rfl, by decide, fun _ => rfl⟩
theorem a_m_keptPath : aLk 29 0 164 (.int) := ⟨rfl, by decide, fun _ => rfl⟩
theorem a_m_keptValue : aLk 30 0 164 (.int) := ⟨rfl, by decide, fun _ => rfl⟩
theorem a_m_skips : aLk 31 7 41 (.boolean) := ⟨rfl, by decide, fun _ => rfl⟩
theorem a_m_scope : aLk 32 0 6 (.int) := ⟨rfl, by decide, fun _ => rfl⟩
theorem a_m_script : aLk 33 0 6 (.int) := ⟨rfl, by decide, fun _ => rfl⟩
theorem a_m_installing : aLk 34 0 6 (.int) := ⟨rfl, by decide, fun _ => rfl⟩
theorem a_m_waiting : aLk 35 0 6 (.int) := ⟨rfl, by decide, fun _ => rfl⟩
theorem a_m_active : aLk 36 0 6 (.int) := ⟨rfl, by decide, fun _ => rfl⟩
theorem a_m_leaving : aLk 37 7 6 (.boolean) := ⟨rfl, by decide, fun _ => rfl⟩
theorem a_m_there : aLk 38 7 8 (.boolean) := ⟨rfl, by decide, fun _ => rfl⟩
theorem a_m_begun : aLk 39 7 60 (.boolean) := ⟨rfl, by decide, fun _ => rfl⟩
theorem a_m_path : aLk 40 0 8 (.int) := ⟨rfl, by decide, fun _ => rfl⟩
theorem a_m_by : aLk 41 0 8 (.int) := ⟨rfl, by decide, fun _ => rfl⟩
theorem a_m_kind : aLk 42 0 60 (.int) := ⟨rfl, by decide, fun _ => rfl⟩
theorem a_m_jobScope : aLk 43 0 60 (.int) := ⟨rfl, by decide, fun _ => rfl⟩
theorem a_m_jobScript : aLk 44 0 60 (.int) := ⟨rfl, by decide, fun _ => rfl⟩
theorem a_m_outcome : aLk 45 0 60 (.int) := ⟨rfl, by decide, fun _ => rfl⟩
theorem a_m_trace : aLk 46 0 60 (.int) := ⟨rfl, by decide, fun _ => rfl⟩
theorem a_m_freed : aLk 47 0 8 (.int) := ⟨rfl, by decide, fun _ => rfl⟩
theorem c_Lw_62 : cLk "ScopeKeeperLaw" 62 y_K_init b_K_init 2 none 0 := ⟨Or.inl (gwm (lt1 20 rfl) rfl), gwm (lt1 1 rfl) rfl, gwm (lt1 22 rfl) rfl, by decide +kernel, by decide +kernel, by decide +kernel⟩
theorem c_K_61 : cLk "ScopeKeeper" 61 y_Tr_init b_Tr_init 1 none 0 := ⟨Or.inr ⟨"ScopeKeeper", gwm (lt1 38 rfl) rfl⟩, gwm (lt1 2 rfl) rfl, gwm (lt1 40 rfl) rfl, by decide +kernel, by decide +kernel, by decide +kernel⟩
theorem c_K_66 : cLk "ScopeKeeper" 66 y_Sc_init b_Sc_init 1 none 0 := ⟨Or.inr ⟨"ScopeKeeper", gwm (lt1 57 rfl) rfl⟩, gwm (lt1 3 rfl) rfl, gwm (lt1 59 rfl) rfl, by decide +kernel, by decide +kernel, by decide +kernel⟩
theorem c_K_67 : cLk "ScopeKeeper" 67 y_Cl_init b_Cl_init 1 none 0 := ⟨Or.inr ⟨"ScopeKeeper", gwm (lt1 82 rfl) rfl⟩, gwm (lt1 4 rfl) rfl, gwm (lt1 84 rfl) rfl, by decide +kernel, by decide +kernel, by decide +kernel⟩
theorem c_Lw_76 : cLk "ScopeKeeperLaw" 76 y_K_network b_K_network 4 (some FieldType.boolean) 2 := ⟨Or.inl (gwm (lt1 136 rfl) rfl), gwm (lt1 1 rfl) rfl, gwm (lt1 139 rfl) rfl, by decide +kernel, by decide +kernel, by decide +kernel⟩
theorem c_Lw_7 : cLk "ScopeKeeperLaw" 7 y_K_serve b_K_serve 7 none 5 := ⟨Or.inl (gwm (lt1 144 rfl) rfl), gwm (lt1 1 rfl) rfl, gwm (lt1 147 rfl) rfl, by decide +kernel, by decide +kernel, by decide +kernel⟩
theorem c_K_68 : cLk "ScopeKeeper" 68 y_K_isScript b_K_isScript 1 (some FieldType.boolean) 1 := ⟨Or.inl (gwm (lt1 148 rfl) rfl), gwm (lt1 1 rfl) rfl, gwm (lt1 150 rfl) rfl, by decide +kernel, by decide +kernel, by decide +kernel⟩
theorem c_K_72 : cLk "ScopeKeeper" 72 y_K_isPath b_K_isPath 3 (some FieldType.boolean) 1 := ⟨Or.inl (gwm (lt1 151 rfl) rfl), gwm (lt1 1 rfl) rfl, gwm (lt1 153 rfl) rfl, by decide +kernel, by decide +kernel, by decide +kernel⟩
theorem c_Lw_15 : cLk "ScopeKeeperLaw" 15 y_K_job b_K_job 7 (some FieldType.int) 3 := ⟨Or.inl (gwm (lt1 230 rfl) rfl), gwm (lt1 1 rfl) rfl, gwm (lt1 233 rfl) rfl, by decide +kernel, by decide +kernel, by decide +kernel⟩
theorem c_K_98 : cLk "ScopeKeeper" 98 y_K_refuseNoPath b_K_refuseNoPath 1 none 1 := ⟨Or.inl (gwm (lt1 235 rfl) rfl), gwm (lt1 1 rfl) rfl, gwm (lt1 237 rfl) rfl, by decide +kernel, by decide +kernel, by decide +kernel⟩
theorem c_K_104 : cLk "ScopeKeeper" 104 y_K_lastOfRow b_K_lastOfRow 3 (some (FieldType.object "ScopeKeeper$Job")) 1 := ⟨Or.inl (gwm (lt2 0 rfl) rfl), gwm (lt1 1 rfl) rfl, gwm (lt2 3 rfl) rfl, by decide +kernel, by decide +kernel, by decide +kernel⟩
theorem c_K_302 : cLk "ScopeKeeper" 302 y_K_isInRow b_K_isInRow 2 (some FieldType.boolean) 2 := ⟨Or.inl (gwm (lt2 4 rfl) rfl), gwm (lt1 1 rfl) rfl, gwm (lt2 6 rfl) rfl, by decide +kernel, by decide +kernel, by decide +kernel⟩
theorem c_K_120 : cLk "ScopeKeeper" 120 y_K_rowLength b_K_rowLength 4 (some FieldType.int) 1 := ⟨Or.inl (gwm (lt2 7 rfl) rfl), gwm (lt1 1 rfl) rfl, gwm (lt2 10 rfl) rfl, by decide +kernel, by decide +kernel, by decide +kernel⟩
theorem c_K_129 : cLk "ScopeKeeper" 129 y_Jb_init b_Jb_init 5 none 4 := ⟨Or.inl (gwm (lt2 28 rfl) rfl), gwm (lt1 11 rfl) rfl, gwm (lt2 30 rfl) rfl, by decide +kernel, by decide +kernel, by decide +kernel⟩
theorem c_Lw_21 : cLk "ScopeKeeperLaw" 21 y_K_step b_K_step 4 (some FieldType.int) 1 := ⟨Or.inl (gwm (lt2 61 rfl) rfl), gwm (lt1 1 rfl) rfl, gwm (lt2 64 rfl) rfl, by decide +kernel, by decide +kernel, by decide +kernel⟩
theorem c_K_132 : cLk "ScopeKeeper" 132 y_K_firstOfRow b_K_firstOfRow 3 (some (FieldType.object "ScopeKeeper$Job")) 1 := ⟨Or.inl (gwm (lt2 65 rfl) rfl), gwm (lt1 1 rfl) rfl, gwm (lt2 68 rfl) rfl, by decide +kernel, by decide +kernel, by decide +kernel⟩
theorem c_K_140 : cLk "ScopeKeeper" 140 y_K_finishInstall b_K_finishInstall 4 (some FieldType.int) 1 := ⟨Or.inl (gwm (lt2 85 rfl) rfl), gwm (lt1 1 rfl) rfl, gwm (lt2 88 rfl) rfl, by decide +kernel, by decide +kernel, by decide +kernel⟩
theorem c_K_291 : cLk "ScopeKeeper" 291 y_K_registrationOf b_K_registrationOf 3 (some (FieldType.object "ScopeKeeper$Registration")) 1 := ⟨Or.inl (gwm (lt2 89 rfl) rfl), gwm (lt1 1 rfl) rfl, gwm (lt2 92 rfl) rfl, by decide +kernel, by decide +kernel, by decide +kernel⟩
theorem c_K_339 : cLk "ScopeKeeper" 339 y_K_bring b_K_bring 3 none 2 := ⟨Or.inl (gwm (lt2 93 rfl) rfl), gwm (lt1 1 rfl) rfl, gwm (lt2 96 rfl) rfl, by decide +kernel, by decide +kernel, by decide +kernel⟩
theorem c_K_351 : cLk "ScopeKeeper" 351 y_Tr_workerComesTo b_Tr_workerComesTo 3 none 2 := ⟨Or.inl (gwm (lt2 97 rfl) rfl), gwm (lt1 2 rfl) rfl, gwm (lt2 100 rfl) rfl, by decide +kernel, by decide +kernel, by decide +kernel⟩
theorem c_Tr_22 : cLk "ScopeKeeper$Trace" 22 y_Tr_append b_Tr_append 2 none 1 := ⟨Or.inl (gwm (lt2 101 rfl) rfl), gwm (lt1 2 rfl) rfl, gwm (lt2 104 rfl) rfl, by decide +kernel, by decide +kernel, by decide +kernel⟩
theorem c_K_332 : cLk "ScopeKeeper" 332 y_Rg_newest b_Rg_newest 1 (some (FieldType.object "ScopeKeeper$Worker")) 0 := ⟨Or.inl (gwm (lt2 105 rfl) rfl), gwm (lt1 13 rfl) rfl, gwm (lt2 108 rfl) rfl, by decide +kernel, by decide +kernel, by decide +kernel⟩
theorem c_K_344 : cLk "ScopeKeeper" 344 y_K_removeRegistration b_K_removeRegistration 4 none 1 := ⟨Or.inl (gwm (lt2 109 rfl) rfl), gwm (lt1 1 rfl) rfl, gwm (lt2 112 rfl) rfl, by decide +kernel, by decide +kernel, by decide +kernel⟩
theorem c_K_207 : cLk "ScopeKeeper" 207 y_K_tryActivation b_K_tryActivation 5 none 1 := ⟨Or.inl (gwm (lt2 113 rfl) rfl), gwm (lt1 1 rfl) rfl, gwm (lt2 116 rfl) rfl, by decide +kernel, by decide +kernel, by decide +kernel⟩
theorem c_K_251 : cLk "ScopeKeeper" 251 y_K_controlledBy b_K_controlledBy 4 (some FieldType.int) 1 := ⟨Or.inl (gwm (lt2 117 rfl) rfl), gwm (lt1 1 rfl) rfl, gwm (lt2 120 rfl) rfl, by decide +kernel, by decide +kernel, by decide +kernel⟩
theorem c_K_192 : cLk "ScopeKeeper" 192 y_K_control b_K_control 3 none 2 := ⟨Or.inl (gwm (lt2 121 rfl) rfl), gwm (lt1 1 rfl) rfl, gwm (lt2 124 rfl) rfl, by decide +kernel, by decide +kernel, by decide +kernel⟩
theorem c_K_183 : cLk "ScopeKeeper" 183 y_K_numberOf b_K_numberOf 1 (some FieldType.int) 1 := ⟨Or.inl (gwm (lt2 125 rfl) rfl), gwm (lt1 1 rfl) rfl, gwm (lt2 127 rfl) rfl, by decide +kernel, by decide +kernel, by decide +kernel⟩
theorem c_K_354 : cLk "ScopeKeeper" 354 y_Tr_clientIsControlled b_Tr_clientIsControlled 3 none 2 := ⟨Or.inl (gwm (lt2 128 rfl) rfl), gwm (lt1 2 rfl) rfl, gwm (lt2 131 rfl) rfl, by decide +kernel, by decide +kernel, by decide +kernel⟩
theorem c_K_143 : cLk "ScopeKeeper" 143 y_K_beginJob b_K_beginJob 2 (some FieldType.int) 1 := ⟨Or.inl (gwm (lt2 132 rfl) rfl), gwm (lt1 1 rfl) rfl, gwm (lt2 135 rfl) rfl, by decide +kernel, by decide +kernel, by decide +kernel⟩
theorem c_K_306 : cLk "ScopeKeeper" 306 y_K_beginRegister b_K_beginRegister 4 (some FieldType.int) 1 := ⟨Or.inl (gwm (lt2 136 rfl) rfl), gwm (lt1 1 rfl) rfl, gwm (lt2 139 rfl) rfl, by decide +kernel, by decide +kernel, by decide +kernel⟩
theorem c_K_315 : cLk "ScopeKeeper" 315 y_K_begins b_K_begins 5 (some FieldType.boolean) 2 := ⟨Or.inl (gwm (lt2 140 rfl) rfl), gwm (lt1 1 rfl) rfl, gwm (lt2 142 rfl) rfl, by decide +kernel, by decide +kernel, by decide +kernel⟩
theorem c_K_319 : cLk "ScopeKeeper" 319 y_K_addRegistration b_K_addRegistration 3 (some (FieldType.object "ScopeKeeper$Registration")) 1 := ⟨Or.inl (gwm (lt2 143 rfl) rfl), gwm (lt1 1 rfl) rfl, gwm (lt2 146 rfl) rfl, by decide +kernel, by decide +kernel, by decide +kernel⟩
theorem c_K_357 : cLk "ScopeKeeper" 357 y_Rg_init b_Rg_init 2 none 1 := ⟨Or.inl (gwm (lt2 148 rfl) rfl), gwm (lt1 13 rfl) rfl, gwm (lt2 150 rfl) rfl, by decide +kernel, by decide +kernel, by decide +kernel⟩
theorem c_K_322 : cLk "ScopeKeeper" 322 y_K_isUpToDate b_K_isUpToDate 3 (some FieldType.boolean) 1 := ⟨Or.inl (gwm (lt2 177 rfl) rfl), gwm (lt1 1 rfl) rfl, gwm (lt2 180 rfl) rfl, by decide +kernel, by decide +kernel, by decide +kernel⟩
theorem c_K_326 : cLk "ScopeKeeper" 326 y_K_beginInstall b_K_beginInstall 3 none 1 := ⟨Or.inl (gwm (lt2 181 rfl) rfl), gwm (lt1 1 rfl) rfl, gwm (lt2 184 rfl) rfl, by decide +kernel, by decide +kernel, by decide +kernel⟩
theorem c_K_336 : cLk "ScopeKeeper" 336 y_Wk_init b_Wk_init 3 none 2 := ⟨Or.inl (gwm (lt2 186 rfl) rfl), gwm (lt1 14 rfl) rfl, gwm (lt2 188 rfl) rfl, by decide +kernel, by decide +kernel, by decide +kernel⟩
theorem c_Wk_11 : cLk "ScopeKeeper$Worker" 11 y_Ca_init b_Ca_init 1 none 0 := ⟨Or.inr ⟨"ScopeKeeper", gwm (lt2 192 rfl) rfl⟩, gwm (lt1 15 rfl) rfl, gwm (lt2 194 rfl) rfl, by decide +kernel, by decide +kernel, by decide +kernel⟩
theorem c_K_309 : cLk "ScopeKeeper" 309 y_K_beginUpdate b_K_beginUpdate 3 (some FieldType.int) 1 := ⟨Or.inl (gwm (lt2 236 rfl) rfl), gwm (lt1 1 rfl) rfl, gwm (lt2 239 rfl) rfl, by decide +kernel, by decide +kernel, by decide +kernel⟩
theorem c_K_312 : cLk "ScopeKeeper" 312 y_K_unregister b_K_unregister 3 (some FieldType.int) 1 := ⟨Or.inl (gwm (lt3 0 rfl) rfl), gwm (lt1 1 rfl) rfl, gwm (lt3 3 rfl) rfl, by decide +kernel, by decide +kernel, by decide +kernel⟩
theorem c_K_329 : cLk "ScopeKeeper" 329 y_K_tryClearing b_K_tryClearing 2 (some FieldType.boolean) 1 := ⟨Or.inl (gwm (lt3 4 rfl) rfl), gwm (lt1 1 rfl) rfl, gwm (lt3 7 rfl) rfl, by decide +kernel, by decide +kernel, by decide +kernel⟩
theorem c_K_150 : cLk "ScopeKeeper" 150 y_Tr_jobEnds b_Tr_jobEnds 2 none 1 := ⟨Or.inl (gwm (lt3 8 rfl) rfl), gwm (lt1 2 rfl) rfl, gwm (lt3 11 rfl) rfl, by decide +kernel, by decide +kernel, by decide +kernel⟩
theorem c_Lw_27 : cLk "ScopeKeeperLaw" 27 y_K_open b_K_open 5 (some FieldType.int) 1 := ⟨Or.inl (gwm (lt3 15 rfl) rfl), gwm (lt1 1 rfl) rfl, gwm (lt3 18 rfl) rfl, by decide +kernel, by decide +kernel, by decide +kernel⟩
theorem c_K_153 : cLk "ScopeKeeper" 153 y_K_leastFreeClient b_K_leastFreeClient 2 (some FieldType.int) 0 := ⟨Or.inl (gwm (lt3 19 rfl) rfl), gwm (lt1 1 rfl) rfl, gwm (lt3 22 rfl) rfl, by decide +kernel, by decide +kernel, by decide +kernel⟩
theorem c_K_159 : cLk "ScopeKeeper" 159 y_K_registrationFor b_K_registrationFor 6 (some (FieldType.object "ScopeKeeper$Registration")) 1 := ⟨Or.inl (gwm (lt3 24 rfl) rfl), gwm (lt1 1 rfl) rfl, gwm (lt3 27 rfl) rfl, by decide +kernel, by decide +kernel, by decide +kernel⟩
theorem c_Lw_30 : cLk "ScopeKeeperLaw" 30 y_K_close b_K_close 4 (some FieldType.int) 1 := ⟨Or.inl (gwm (lt3 31 rfl) rfl), gwm (lt1 1 rfl) rfl, gwm (lt3 34 rfl) rfl, by decide +kernel, by decide +kernel, by decide +kernel⟩
theorem c_K_176 : cLk "ScopeKeeper" 176 y_K_refuseNoClient b_K_refuseNoClient 2 none 1 := ⟨Or.inl (gwm (lt3 35 rfl) rfl), gwm (lt1 1 rfl) rfl, gwm (lt3 38 rfl) rfl, by decide +kernel, by decide +kernel, by decide +kernel⟩
theorem c_K_179 : cLk "ScopeKeeper" 179 y_K_settleAfterLoss b_K_settleAfterLoss 3 none 1 := ⟨Or.inl (gwm (lt3 40 rfl) rfl), gwm (lt1 1 rfl) rfl, gwm (lt3 43 rfl) rfl, by decide +kernel, by decide +kernel, by decide +kernel⟩
theorem c_K_347 : cLk "ScopeKeeper" 347 y_K_registrationWithActive b_K_registrationWithActive 3 (some (FieldType.object "ScopeKeeper$Registration")) 1 := ⟨Or.inl (gwm (lt3 44 rfl) rfl), gwm (lt1 1 rfl) rfl, gwm (lt3 47 rfl) rfl, by decide +kernel, by decide +kernel, by decide +kernel⟩
theorem c_Lw_33 : cLk "ScopeKeeperLaw" 33 y_K_claim b_K_claim 6 (some FieldType.int) 1 := ⟨Or.inl (gwm (lt3 51 rfl) rfl), gwm (lt1 1 rfl) rfl, gwm (lt3 54 rfl) rfl, by decide +kernel, by decide +kernel, by decide +kernel⟩
theorem c_K_187 : cLk "ScopeKeeper" 187 y_K_needRegistration b_K_needRegistration 3 (some (FieldType.object "ScopeKeeper$Registration")) 1 := ⟨Or.inl (gwm (lt3 55 rfl) rfl), gwm (lt1 1 rfl) rfl, gwm (lt3 58 rfl) rfl, by decide +kernel, by decide +kernel, by decide +kernel⟩
theorem c_Lw_36 : cLk "ScopeKeeperLaw" 36 y_K_skip b_K_skip 4 (some FieldType.int) 1 := ⟨Or.inl (gwm (lt3 64 rfl) rfl), gwm (lt1 1 rfl) rfl, gwm (lt3 67 rfl) rfl, by decide +kernel, by decide +kernel, by decide +kernel⟩
theorem c_Lw_39 : cLk "ScopeKeeperLaw" 39 y_K_fetch b_K_fetch 8 (some FieldType.int) 2 := ⟨Or.inl (gwm (lt3 73 rfl) rfl), gwm (lt1 1 rfl) rfl, gwm (lt3 76 rfl) rfl, by decide +kernel, by decide +kernel, by decide +kernel⟩
theorem c_K_213 : cLk "ScopeKeeper" 213 y_K_networkAnswer b_K_networkAnswer 2 (some FieldType.int) 1 := ⟨Or.inl (gwm (lt3 77 rfl) rfl), gwm (lt1 1 rfl) rfl, gwm (lt3 80 rfl) rfl, by decide +kernel, by decide +kernel, by decide +kernel⟩
theorem c_K_221 : cLk "ScopeKeeper" 221 y_Ca_has b_Ca_has 2 (some FieldType.boolean) 1 := ⟨Or.inl (gwm (lt3 97 rfl) rfl), gwm (lt1 15 rfl) rfl, gwm (lt3 100 rfl) rfl, by decide +kernel, by decide +kernel, by decide +kernel⟩
theorem c_Ca_22 : cLk "ScopeKeeper$Cache" 22 y_Ca_placeOf b_Ca_placeOf 3 (some FieldType.int) 1 := ⟨Or.inl (gwm (lt3 101 rfl) rfl), gwm (lt1 15 rfl) rfl, gwm (lt3 104 rfl) rfl, by decide +kernel, by decide +kernel, by decide +kernel⟩
theorem c_K_226 : cLk "ScopeKeeper" 226 y_Ca_valueOf b_Ca_valueOf 2 (some FieldType.int) 1 := ⟨Or.inl (gwm (lt3 105 rfl) rfl), gwm (lt1 15 rfl) rfl, gwm (lt3 108 rfl) rfl, by decide +kernel, by decide +kernel, by decide +kernel⟩
theorem c_Ca_26 : cLk "ScopeKeeper$Cache" 26 y_Ca_valueAt b_Ca_valueAt 2 (some FieldType.int) 1 := ⟨Or.inl (gwm (lt3 109 rfl) rfl), gwm (lt1 15 rfl) rfl, gwm (lt3 112 rfl) rfl, by decide +kernel, by decide +kernel, by decide +kernel⟩
theorem c_K_229 : cLk "ScopeKeeper" 229 y_Ca_keep b_Ca_keep 3 none 2 := ⟨Or.inl (gwm (lt3 113 rfl) rfl), gwm (lt1 15 rfl) rfl, gwm (lt3 116 rfl) rfl, by decide +kernel, by decide +kernel, by decide +kernel⟩
theorem c_Ca_29 : cLk "ScopeKeeper$Cache" 29 y_Ca_has b_Ca_has 2 (some FieldType.boolean) 1 := ⟨Or.inl (gwm (lt3 117 rfl) rfl), gwm (lt1 15 rfl) rfl, gwm (lt3 100 rfl) rfl, by decide +kernel, by decide +kernel, by decide +kernel⟩
theorem c_Ca_33 : cLk "ScopeKeeper$Cache" 33 y_Ca_drop b_Ca_drop 3 none 1 := ⟨Or.inl (gwm (lt3 118 rfl) rfl), gwm (lt1 15 rfl) rfl, gwm (lt3 121 rfl) rfl, by decide +kernel, by decide +kernel, by decide +kernel⟩
theorem c_Lw_45 : cLk "ScopeKeeperLaw" 45 y_K_registration b_K_registration 4 (some FieldType.int) 2 := ⟨Or.inl (gwm (lt3 125 rfl) rfl), gwm (lt1 1 rfl) rfl, gwm (lt3 128 rfl) rfl, by decide +kernel, by decide +kernel, by decide +kernel⟩
theorem c_Lw_48 : cLk "ScopeKeeperLaw" 48 y_K_worker b_K_worker 6 (some FieldType.int) 2 := ⟨Or.inl (gwm (lt3 134 rfl) rfl), gwm (lt1 1 rfl) rfl, gwm (lt3 137 rfl) rfl, by decide +kernel, by decide +kernel, by decide +kernel⟩
theorem c_K_239 : cLk "ScopeKeeper" 239 y_K_isWithin b_K_isWithin 3 (some FieldType.boolean) 3 := ⟨Or.inl (gwm (lt3 138 rfl) rfl), gwm (lt1 1 rfl) rfl, gwm (lt3 140 rfl) rfl, by decide +kernel, by decide +kernel, by decide +kernel⟩
theorem c_K_257 : cLk "ScopeKeeper" 257 y_Ca_pathAt b_Ca_pathAt 2 (some FieldType.int) 1 := ⟨Or.inl (gwm (lt3 157 rfl) rfl), gwm (lt1 15 rfl) rfl, gwm (lt3 160 rfl) rfl, by decide +kernel, by decide +kernel, by decide +kernel⟩
theorem c_K_260 : cLk "ScopeKeeper" 260 y_Ca_valueAt b_Ca_valueAt 2 (some FieldType.int) 1 := ⟨Or.inl (gwm (lt3 161 rfl) rfl), gwm (lt1 15 rfl) rfl, gwm (lt3 112 rfl) rfl, by decide +kernel, by decide +kernel, by decide +kernel⟩
theorem c_Lw_53 : cLk "ScopeKeeperLaw" 53 y_K_outcome b_K_outcome 2 (some FieldType.int) 1 := ⟨Or.inl (gwm (lt3 165 rfl) rfl), gwm (lt1 1 rfl) rfl, gwm (lt3 168 rfl) rfl, by decide +kernel, by decide +kernel, by decide +kernel⟩
theorem c_Lw_56 : cLk "ScopeKeeperLaw" 56 y_K_trace b_K_trace 2 (some FieldType.int) 1 := ⟨Or.inl (gwm (lt3 173 rfl) rfl), gwm (lt1 1 rfl) rfl, gwm (lt3 176 rfl) rfl, by decide +kernel, by decide +kernel, by decide +kernel⟩
theorem c_Lw_59 : cLk "ScopeKeeperLaw" 59 y_K_count b_K_count 3 (some FieldType.int) 1 := ⟨Or.inl (gwm (lt3 181 rfl) rfl), gwm (lt1 1 rfl) rfl, gwm (lt3 184 rfl) rfl, by decide +kernel, by decide +kernel, by decide +kernel⟩
theorem c_K_277 : cLk "ScopeKeeper" 277 y_K_clientsThere b_K_clientsThere 3 (some FieldType.int) 0 := ⟨Or.inl (gwm (lt3 185 rfl) rfl), gwm (lt1 1 rfl) rfl, gwm (lt3 188 rfl) rfl, by decide +kernel, by decide +kernel, by decide +kernel⟩
theorem c_K_280 : cLk "ScopeKeeper" 280 y_K_jobsNotEnded b_K_jobsNotEnded 3 (some FieldType.int) 0 := ⟨Or.inl (gwm (lt3 189 rfl) rfl), gwm (lt1 1 rfl) rfl, gwm (lt3 192 rfl) rfl, by decide +kernel, by decide +kernel, by decide +kernel⟩
theorem c_Lw_65 : cLk "ScopeKeeperLaw" 65 y_Md_init b_Md_init 1 none 0 := ⟨Or.inl (gwm (lt3 195 rfl) rfl), gwm (lt1 5 rfl) rfl, gwm (lt3 197 rfl) rfl, by decide +kernel, by decide +kernel, by decide +kernel⟩
theorem c_Lw_72 : cLk "ScopeKeeperLaw" 72 y_Md_thrown b_Md_thrown 1 (some FieldType.int) 0 := ⟨Or.inl (gwm (lt4 69 rfl) rfl), gwm (lt1 5 rfl) rfl, gwm (lt4 72 rfl) rfl, by decide +kernel, by decide +kernel, by decide +kernel⟩
theorem c_Lw_71 : cLk "ScopeKeeperLaw" 71 y_Md_serve b_Md_serve 6 none 5 := ⟨Or.inl (gwm (lt4 73 rfl) rfl), gwm (lt1 5 rfl) rfl, gwm (lt4 76 rfl) rfl, by decide +kernel, by decide +kernel, by decide +kernel⟩
theorem c_Md_103 : cLk "ScopeKeeperModel" 103 y_Md_in b_Md_in 3 (some FieldType.boolean) 3 := ⟨Or.inl (gwm (lt4 77 rfl) rfl), gwm (lt1 5 rfl) rfl, gwm (lt4 79 rfl) rfl, by decide +kernel, by decide +kernel, by decide +kernel⟩
theorem c_Md_118 : cLk "ScopeKeeperModel" 118 y_Md_isPath b_Md_isPath 2 (some FieldType.boolean) 1 := ⟨Or.inl (gwm (lt4 80 rfl) rfl), gwm (lt1 5 rfl) rfl, gwm (lt4 82 rfl) rfl, by decide +kernel, by decide +kernel, by decide +kernel⟩
theorem c_Lw_80 : cLk "ScopeKeeperLaw" 80 y_Md_network b_Md_network 4 (some FieldType.boolean) 2 := ⟨Or.inl (gwm (lt4 84 rfl) rfl), gwm (lt1 5 rfl) rfl, gwm (lt4 87 rfl) rfl, by decide +kernel, by decide +kernel, by decide +kernel⟩
theorem c_Lw_84 : cLk "ScopeKeeperLaw" 84 y_Md_job b_Md_job 8 (some FieldType.int) 3 := ⟨Or.inl (gwm (lt4 88 rfl) rfl), gwm (lt1 5 rfl) rfl, gwm (lt4 91 rfl) rfl, by decide +kernel, by decide +kernel, by decide +kernel⟩
theorem c_Md_161 : cLk "ScopeKeeperModel" 161 y_Md_fail b_Md_fail 2 (some FieldType.int) 1 := ⟨Or.inl (gwm (lt4 92 rfl) rfl), gwm (lt1 5 rfl) rfl, gwm (lt4 95 rfl) rfl, by decide +kernel, by decide +kernel, by decide +kernel⟩
theorem c_Lw_88 : cLk "ScopeKeeperLaw" 88 y_Md_step b_Md_step 3 (some FieldType.int) 1 := ⟨Or.inl (gwm (lt4 96 rfl) rfl), gwm (lt1 5 rfl) rfl, gwm (lt4 99 rfl) rfl, by decide +kernel, by decide +kernel, by decide +kernel⟩
theorem c_Md_179 : cLk "ScopeKeeperModel" 179 y_Md_firstOf b_Md_firstOf 3 (some FieldType.int) 1 := ⟨Or.inl (gwm (lt4 100 rfl) rfl), gwm (lt1 5 rfl) rfl, gwm (lt4 103 rfl) rfl, by decide +kernel, by decide +kernel, by decide +kernel⟩
theorem c_Md_182 : cLk "ScopeKeeperModel" 182 y_Md_installed b_Md_installed 4 none 1 := ⟨Or.inl (gwm (lt4 104 rfl) rfl), gwm (lt1 5 rfl) rfl, gwm (lt4 107 rfl) rfl, by decide +kernel, by decide +kernel, by decide +kernel⟩
theorem c_Md_167 : cLk "ScopeKeeperModel" 167 y_Md_find b_Md_find 3 (some FieldType.int) 1 := ⟨Or.inl (gwm (lt4 108 rfl) rfl), gwm (lt1 5 rfl) rfl, gwm (lt4 111 rfl) rfl, by decide +kernel, by decide +kernel, by decide +kernel⟩
theorem c_Md_139 : cLk "ScopeKeeperModel" 139 y_Md_come b_Md_come 3 none 2 := ⟨Or.inl (gwm (lt4 112 rfl) rfl), gwm (lt1 5 rfl) rfl, gwm (lt4 115 rfl) rfl, by decide +kernel, by decide +kernel, by decide +kernel⟩
theorem c_Md_114 : cLk "ScopeKeeperModel" 114 y_Md_write b_Md_write 2 none 1 := ⟨Or.inl (gwm (lt4 116 rfl) rfl), gwm (lt1 5 rfl) rfl, gwm (lt4 119 rfl) rfl, by decide +kernel, by decide +kernel, by decide +kernel⟩
theorem c_Md_146 : cLk "ScopeKeeperModel" 146 y_Md_go b_Md_go 3 none 1 := ⟨Or.inl (gwm (lt4 120 rfl) rfl), gwm (lt1 5 rfl) rfl, gwm (lt4 123 rfl) rfl, by decide +kernel, by decide +kernel, by decide +kernel⟩
theorem c_Md_170 : cLk "ScopeKeeperModel" 170 y_Md_finish b_Md_finish 3 none 2 := ⟨Or.inl (gwm (lt4 124 rfl) rfl), gwm (lt1 5 rfl) rfl, gwm (lt4 127 rfl) rfl, by decide +kernel, by decide +kernel, by decide +kernel⟩
theorem c_Md_155 : cLk "ScopeKeeperModel" 155 y_Md_activate b_Md_activate 5 none 1 := ⟨Or.inl (gwm (lt4 128 rfl) rfl), gwm (lt1 5 rfl) rfl, gwm (lt4 131 rfl) rfl, by decide +kernel, by decide +kernel, by decide +kernel⟩
theorem c_Md_136 : cLk "ScopeKeeperModel" 136 y_Md_isControlling b_Md_isControlling 3 (some FieldType.boolean) 1 := ⟨Or.inl (gwm (lt4 132 rfl) rfl), gwm (lt1 5 rfl) rfl, gwm (lt4 135 rfl) rfl, by decide +kernel, by decide +kernel, by decide +kernel⟩
theorem c_Md_143 : cLk "ScopeKeeperModel" 143 y_Md_control b_Md_control 3 none 2 := ⟨Or.inl (gwm (lt4 136 rfl) rfl), gwm (lt1 5 rfl) rfl, gwm (lt4 139 rfl) rfl, by decide +kernel, by decide +kernel, by decide +kernel⟩
theorem c_Md_185 : cLk "ScopeKeeperModel" 185 y_Md_register b_Md_register 4 none 1 := ⟨Or.inl (gwm (lt4 140 rfl) rfl), gwm (lt1 5 rfl) rfl, gwm (lt4 143 rfl) rfl, by decide +kernel, by decide +kernel, by decide +kernel⟩
theorem c_Md_132 : cLk "ScopeKeeperModel" 132 y_Md_begins b_Md_begins 2 (some FieldType.boolean) 2 := ⟨Or.inl (gwm (lt4 144 rfl) rfl), gwm (lt1 5 rfl) rfl, gwm (lt4 146 rfl) rfl, by decide +kernel, by decide +kernel, by decide +kernel⟩
theorem c_Md_107 : cLk "ScopeKeeperModel" 107 y_Md_weight b_Md_weight 2 (some FieldType.int) 1 := ⟨Or.inl (gwm (lt4 147 rfl) rfl), gwm (lt1 5 rfl) rfl, gwm (lt4 149 rfl) rfl, by decide +kernel, by decide +kernel, by decide +kernel⟩
theorem c_Md_173 : cLk "ScopeKeeperModel" 173 y_Md_isSame b_Md_isSame 4 (some FieldType.boolean) 2 := ⟨Or.inl (gwm (lt4 150 rfl) rfl), gwm (lt1 5 rfl) rfl, gwm (lt4 153 rfl) rfl, by decide +kernel, by decide +kernel, by decide +kernel⟩
theorem c_Md_176 : cLk "ScopeKeeperModel" 176 y_Md_install b_Md_install 4 none 2 := ⟨Or.inl (gwm (lt4 154 rfl) rfl), gwm (lt1 5 rfl) rfl, gwm (lt4 157 rfl) rfl, by decide +kernel, by decide +kernel, by decide +kernel⟩
theorem c_Md_188 : cLk "ScopeKeeperModel" 188 y_Md_update b_Md_update 3 none 1 := ⟨Or.inl (gwm (lt4 158 rfl) rfl), gwm (lt1 5 rfl) rfl, gwm (lt4 161 rfl) rfl, by decide +kernel, by decide +kernel, by decide +kernel⟩
theorem c_Md_191 : cLk "ScopeKeeperModel" 191 y_Md_unregister b_Md_unregister 3 none 1 := ⟨Or.inl (gwm (lt4 162 rfl) rfl), gwm (lt1 5 rfl) rfl, gwm (lt4 165 rfl) rfl, by decide +kernel, by decide +kernel, by decide +kernel⟩
theorem c_Md_152 : cLk "ScopeKeeperModel" 152 y_Md_clearAway b_Md_clearAway 2 (some FieldType.boolean) 1 := ⟨Or.inl (gwm (lt4 166 rfl) rfl), gwm (lt1 5 rfl) rfl, gwm (lt4 169 rfl) rfl, by decide +kernel, by decide +kernel, by decide +kernel⟩
theorem c_Lw_91 : cLk "ScopeKeeperLaw" 91 y_Md_open b_Md_open 4 (some FieldType.int) 1 := ⟨Or.inl (gwm (lt4 170 rfl) rfl), gwm (lt1 5 rfl) rfl, gwm (lt4 173 rfl) rfl, by decide +kernel, by decide +kernel, by decide +kernel⟩
theorem c_Md_194 : cLk "ScopeKeeperModel" 194 y_Md_forPath b_Md_forPath 4 (some FieldType.int) 1 := ⟨Or.inl (gwm (lt4 174 rfl) rfl), gwm (lt1 5 rfl) rfl, gwm (lt4 177 rfl) rfl, by decide +kernel, by decide +kernel, by decide +kernel⟩
theorem c_Lw_94 : cLk "ScopeKeeperLaw" 94 y_Md_close b_Md_close 3 (some FieldType.int) 1 := ⟨Or.inl (gwm (lt4 178 rfl) rfl), gwm (lt1 5 rfl) rfl, gwm (lt4 181 rfl) rfl, by decide +kernel, by decide +kernel, by decide +kernel⟩
theorem c_Md_197 : cLk "ScopeKeeperModel" 197 y_Md_settle b_Md_settle 4 none 1 := ⟨Or.inl (gwm (lt4 182 rfl) rfl), gwm (lt1 5 rfl) rfl, gwm (lt4 185 rfl) rfl, by decide +kernel, by decide +kernel, by decide +kernel⟩
theorem c_Md_149 : cLk "ScopeKeeperModel" 149 y_Md_withActive b_Md_withActive 3 (some FieldType.int) 1 := ⟨Or.inl (gwm (lt4 186 rfl) rfl), gwm (lt1 5 rfl) rfl, gwm (lt4 189 rfl) rfl, by decide +kernel, by decide +kernel, by decide +kernel⟩
theorem c_Lw_97 : cLk "ScopeKeeperLaw" 97 y_Md_claim b_Md_claim 5 (some FieldType.int) 1 := ⟨Or.inl (gwm (lt4 190 rfl) rfl), gwm (lt1 5 rfl) rfl, gwm (lt4 193 rfl) rfl, by decide +kernel, by decide +kernel, by decide +kernel⟩
theorem c_Lw_100 : cLk "ScopeKeeperLaw" 100 y_Md_skip b_Md_skip 4 (some FieldType.int) 1 := ⟨Or.inl (gwm (lt4 194 rfl) rfl), gwm (lt1 5 rfl) rfl, gwm (lt4 197 rfl) rfl, by decide +kernel, by decide +kernel, by decide +kernel⟩
theorem c_Lw_104 : cLk "ScopeKeeperLaw" 104 y_Md_fetch b_Md_fetch 6 (some FieldType.int) 2 := ⟨Or.inl (gwm (lt4 198 rfl) rfl), gwm (lt1 5 rfl) rfl, gwm (lt4 201 rfl) rfl, by decide +kernel, by decide +kernel, by decide +kernel⟩
theorem c_Md_200 : cLk "ScopeKeeperModel" 200 y_Md_cached b_Md_cached 4 (some FieldType.int) 2 := ⟨Or.inl (gwm (lt4 202 rfl) rfl), gwm (lt1 5 rfl) rfl, gwm (lt4 205 rfl) rfl, by decide +kernel, by decide +kernel, by decide +kernel⟩
theorem c_Md_204 : cLk "ScopeKeeperModel" 204 y_Md_keep b_Md_keep 6 none 3 := ⟨Or.inl (gwm (lt4 206 rfl) rfl), gwm (lt1 5 rfl) rfl, gwm (lt4 209 rfl) rfl, by decide +kernel, by decide +kernel, by decide +kernel⟩
theorem c_Lw_107 : cLk "ScopeKeeperLaw" 107 y_Md_registration b_Md_registration 4 (some FieldType.int) 2 := ⟨Or.inl (gwm (lt4 210 rfl) rfl), gwm (lt1 5 rfl) rfl, gwm (lt4 213 rfl) rfl, by decide +kernel, by decide +kernel, by decide +kernel⟩
theorem c_Lw_110 : cLk "ScopeKeeperLaw" 110 y_Md_worker b_Md_worker 5 (some FieldType.int) 2 := ⟨Or.inl (gwm (lt4 214 rfl) rfl), gwm (lt1 5 rfl) rfl, gwm (lt4 217 rfl) rfl, by decide +kernel, by decide +kernel, by decide +kernel⟩
theorem c_Lw_113 : cLk "ScopeKeeperLaw" 113 y_Md_outcome b_Md_outcome 2 (some FieldType.int) 1 := ⟨Or.inl (gwm (lt4 218 rfl) rfl), gwm (lt1 5 rfl) rfl, gwm (lt4 221 rfl) rfl, by decide +kernel, by decide +kernel, by decide +kernel⟩
theorem c_Lw_116 : cLk "ScopeKeeperLaw" 116 y_Md_trace b_Md_trace 2 (some FieldType.int) 1 := ⟨Or.inl (gwm (lt4 222 rfl) rfl), gwm (lt1 5 rfl) rfl, gwm (lt4 225 rfl) rfl, by decide +kernel, by decide +kernel, by decide +kernel⟩
theorem c_Lw_119 : cLk "ScopeKeeperLaw" 119 y_Md_count b_Md_count 5 (some FieldType.int) 1 := ⟨Or.inl (gwm (lt4 226 rfl) rfl), gwm (lt1 5 rfl) rfl, gwm (lt4 229 rfl) rfl, by decide +kernel, by decide +kernel, by decide +kernel⟩
theorem v_K_init : y_K_init.name = "<init>" ∧ Cond.instanceMethod y_K_init ∈ gw := ⟨rfl, gwm (lt1 21 rfl) rfl⟩
theorem v_K_serve : Cond.instanceMethod y_K_serve ∈ gw ∧ Cond.selects y_K_serve.cls y_K_serve y_K_serve ∈ gw := ⟨gwm (lt1 145 rfl) rfl, gwm (lt1 146 rfl) rfl⟩
theorem v_K_network : Cond.instanceMethod y_K_network ∈ gw ∧ Cond.selects y_K_network.cls y_K_network y_K_network ∈ gw := ⟨gwm (lt1 137 rfl) rfl, gwm (lt1 138 rfl) rfl⟩
theorem v_K_job : Cond.instanceMethod y_K_job ∈ gw ∧ Cond.selects y_K_job.cls y_K_job y_K_job ∈ gw := ⟨gwm (lt1 231 rfl) rfl, gwm (lt1 232 rfl) rfl⟩
theorem v_K_step : Cond.instanceMethod y_K_step ∈ gw ∧ Cond.selects y_K_step.cls y_K_step y_K_step ∈ gw := ⟨gwm (lt2 62 rfl) rfl, gwm (lt2 63 rfl) rfl⟩
theorem v_K_open : Cond.instanceMethod y_K_open ∈ gw ∧ Cond.selects y_K_open.cls y_K_open y_K_open ∈ gw := ⟨gwm (lt3 16 rfl) rfl, gwm (lt3 17 rfl) rfl⟩
theorem v_K_close : Cond.instanceMethod y_K_close ∈ gw ∧ Cond.selects y_K_close.cls y_K_close y_K_close ∈ gw := ⟨gwm (lt3 32 rfl) rfl, gwm (lt3 33 rfl) rfl⟩
theorem v_K_claim : Cond.instanceMethod y_K_claim ∈ gw ∧ Cond.selects y_K_claim.cls y_K_claim y_K_claim ∈ gw := ⟨gwm (lt3 52 rfl) rfl, gwm (lt3 53 rfl) rfl⟩
theorem v_K_skip : Cond.instanceMethod y_K_skip ∈ gw ∧ Cond.selects y_K_skip.cls y_K_skip y_K_skip ∈ gw := ⟨gwm (lt3 65 rfl) rfl, gwm (lt3 66 rfl) rfl⟩
theorem v_K_fetch : Cond.instanceMethod y_K_fetch ∈ gw ∧ Cond.selects y_K_fetch.cls y_K_fetch y_K_fetch ∈ gw := ⟨gwm (lt3 74 rfl) rfl, gwm (lt3 75 rfl) rfl⟩
theorem v_K_registration : Cond.instanceMethod y_K_registration ∈ gw ∧ Cond.selects y_K_registration.cls y_K_registration y_K_registration ∈ gw := ⟨gwm (lt3 126 rfl) rfl, gwm (lt3 127 rfl) rfl⟩
theorem v_K_worker : Cond.instanceMethod y_K_worker ∈ gw ∧ Cond.selects y_K_worker.cls y_K_worker y_K_worker ∈ gw := ⟨gwm (lt3 135 rfl) rfl, gwm (lt3 136 rfl) rfl⟩
theorem v_K_outcome : Cond.instanceMethod y_K_outcome ∈ gw ∧ Cond.selects y_K_outcome.cls y_K_outcome y_K_outcome ∈ gw := ⟨gwm (lt3 166 rfl) rfl, gwm (lt3 167 rfl) rfl⟩
theorem v_K_trace : Cond.instanceMethod y_K_trace ∈ gw ∧ Cond.selects y_K_trace.cls y_K_trace y_K_trace ∈ gw := ⟨gwm (lt3 174 rfl) rfl, gwm (lt3 175 rfl) rfl⟩
theorem v_K_count : Cond.instanceMethod y_K_count ∈ gw ∧ Cond.selects y_K_count.cls y_K_count y_K_count ∈ gw := ⟨gwm (lt3 182 rfl) rfl, gwm (lt3 183 rfl) rfl⟩
theorem v_K_isWithin : Cond.static y_K_isWithin ∈ gw := gwm (lt3 139 rfl) rfl
theorem v_K_isScript : Cond.static y_K_isScript ∈ gw := gwm (lt1 149 rfl) rfl
theorem v_K_isPath : Cond.static y_K_isPath ∈ gw := gwm (lt1 152 rfl) rfl
theorem v_K_begins : Cond.static y_K_begins ∈ gw := gwm (lt2 141 rfl) rfl
theorem v_K_refuseNoPath : Cond.static y_K_refuseNoPath ∈ gw := gwm (lt1 236 rfl) rfl
theorem v_K_refuseNoClient : Cond.instanceMethod y_K_refuseNoClient ∈ gw ∧ Cond.selects y_K_refuseNoClient.cls y_K_refuseNoClient y_K_refuseNoClient ∈ gw := ⟨gwm (lt3 37 rfl) rfl, gwm (lt0 22 rfl) rfl⟩
theorem v_K_needRegistration : Cond.instanceMethod y_K_needRegistration ∈ gw ∧ Cond.selects y_K_needRegistration.cls y_K_needRegistration y_K_needRegistration ∈ gw := ⟨gwm (lt3 57 rfl) rfl, gwm (lt0 25 rfl) rfl⟩
theorem v_K_networkAnswer : Cond.instanceMethod y_K_networkAnswer ∈ gw ∧ Cond.selects y_K_networkAnswer.cls y_K_networkAnswer y_K_networkAnswer ∈ gw := ⟨gwm (lt3 79 rfl) rfl, gwm (lt0 26 rfl) rfl⟩
theorem v_K_isInRow : Cond.static y_K_isInRow ∈ gw := gwm (lt2 5 rfl) rfl
theorem v_K_firstOfRow : Cond.instanceMethod y_K_firstOfRow ∈ gw ∧ Cond.selects y_K_firstOfRow.cls y_K_firstOfRow y_K_firstOfRow ∈ gw := ⟨gwm (lt2 67 rfl) rfl, gwm (lt0 3 rfl) rfl⟩
theorem v_K_lastOfRow : Cond.instanceMethod y_K_lastOfRow ∈ gw ∧ Cond.selects y_K_lastOfRow.cls y_K_lastOfRow y_K_lastOfRow ∈ gw := ⟨gwm (lt2 2 rfl) rfl, gwm (lt0 1 rfl) rfl⟩
theorem v_K_rowLength : Cond.instanceMethod y_K_rowLength ∈ gw ∧ Cond.selects y_K_rowLength.cls y_K_rowLength y_K_rowLength ∈ gw := ⟨gwm (lt2 9 rfl) rfl, gwm (lt0 2 rfl) rfl⟩
theorem v_K_jobsNotEnded : Cond.instanceMethod y_K_jobsNotEnded ∈ gw ∧ Cond.selects y_K_jobsNotEnded.cls y_K_jobsNotEnded y_K_jobsNotEnded ∈ gw := ⟨gwm (lt3 191 rfl) rfl, gwm (lt0 30 rfl) rfl⟩
theorem v_K_beginJob : Cond.instanceMethod y_K_beginJob ∈ gw ∧ Cond.selects y_K_beginJob.cls y_K_beginJob y_K_beginJob ∈ gw := ⟨gwm (lt2 134 rfl) rfl, gwm (lt0 12 rfl) rfl⟩
theorem v_K_beginRegister : Cond.instanceMethod y_K_beginRegister ∈ gw ∧ Cond.selects y_K_beginRegister.cls y_K_beginRegister y_K_beginRegister ∈ gw := ⟨gwm (lt2 138 rfl) rfl, gwm (lt0 13 rfl) rfl⟩
theorem v_K_beginUpdate : Cond.instanceMethod y_K_beginUpdate ∈ gw ∧ Cond.selects y_K_beginUpdate.cls y_K_beginUpdate y_K_beginUpdate ∈ gw := ⟨gwm (lt2 238 rfl) rfl, gwm (lt0 17 rfl) rfl⟩
theorem v_K_unregister : Cond.instanceMethod y_K_unregister ∈ gw ∧ Cond.selects y_K_unregister.cls y_K_unregister y_K_unregister ∈ gw := ⟨gwm (lt3 2 rfl) rfl, gwm (lt0 18 rfl) rfl⟩
theorem v_K_isUpToDate : Cond.instanceMethod y_K_isUpToDate ∈ gw ∧ Cond.selects y_K_isUpToDate.cls y_K_isUpToDate y_K_isUpToDate ∈ gw := ⟨gwm (lt2 179 rfl) rfl, gwm (lt0 15 rfl) rfl⟩
theorem v_K_beginInstall : Cond.instanceMethod y_K_beginInstall ∈ gw ∧ Cond.selects y_K_beginInstall.cls y_K_beginInstall y_K_beginInstall ∈ gw := ⟨gwm (lt2 183 rfl) rfl, gwm (lt0 16 rfl) rfl⟩
theorem v_K_finishInstall : Cond.instanceMethod y_K_finishInstall ∈ gw ∧ Cond.selects y_K_finishInstall.cls y_K_finishInstall y_K_finishInstall ∈ gw := ⟨gwm (lt2 87 rfl) rfl, gwm (lt0 4 rfl) rfl⟩
theorem v_K_tryActivation : Cond.instanceMethod y_K_tryActivation ∈ gw ∧ Cond.selects y_K_tryActivation.cls y_K_tryActivation y_K_tryActivation ∈ gw := ⟨gwm (lt2 115 rfl) rfl, gwm (lt0 9 rfl) rfl⟩
theorem v_K_tryClearing : Cond.instanceMethod y_K_tryClearing ∈ gw ∧ Cond.selects y_K_tryClearing.cls y_K_tryClearing y_K_tryClearing ∈ gw := ⟨gwm (lt3 6 rfl) rfl, gwm (lt0 19 rfl) rfl⟩
theorem v_K_settleAfterLoss : Cond.instanceMethod y_K_settleAfterLoss ∈ gw ∧ Cond.selects y_K_settleAfterLoss.cls y_K_settleAfterLoss y_K_settleAfterLoss ∈ gw := ⟨gwm (lt3 42 rfl) rfl, gwm (lt0 23 rfl) rfl⟩
theorem v_K_numberOf : Cond.static y_K_numberOf ∈ gw := gwm (lt2 126 rfl) rfl
theorem v_K_bring : Cond.instanceMethod y_K_bring ∈ gw ∧ Cond.selects y_K_bring.cls y_K_bring y_K_bring ∈ gw := ⟨gwm (lt2 95 rfl) rfl, gwm (lt0 6 rfl) rfl⟩
theorem v_K_control : Cond.instanceMethod y_K_control ∈ gw ∧ Cond.selects y_K_control.cls y_K_control y_K_control ∈ gw := ⟨gwm (lt2 123 rfl) rfl, gwm (lt0 11 rfl) rfl⟩
theorem v_K_controlledBy : Cond.instanceMethod y_K_controlledBy ∈ gw ∧ Cond.selects y_K_controlledBy.cls y_K_controlledBy y_K_controlledBy ∈ gw := ⟨gwm (lt2 119 rfl) rfl, gwm (lt0 10 rfl) rfl⟩
theorem v_K_clientsThere : Cond.instanceMethod y_K_clientsThere ∈ gw ∧ Cond.selects y_K_clientsThere.cls y_K_clientsThere y_K_clientsThere ∈ gw := ⟨gwm (lt3 187 rfl) rfl, gwm (lt0 29 rfl) rfl⟩
theorem v_K_leastFreeClient : Cond.instanceMethod y_K_leastFreeClient ∈ gw ∧ Cond.selects y_K_leastFreeClient.cls y_K_leastFreeClient y_K_leastFreeClient ∈ gw := ⟨gwm (lt3 21 rfl) rfl, gwm (lt0 20 rfl) rfl⟩
theorem v_K_registrationOf : Cond.instanceMethod y_K_registrationOf ∈ gw ∧ Cond.selects y_K_registrationOf.cls y_K_registrationOf y_K_registrationOf ∈ gw := ⟨gwm (lt2 91 rfl) rfl, gwm (lt0 5 rfl) rfl⟩
theorem v_K_registrationFor : Cond.instanceMethod y_K_registrationFor ∈ gw ∧ Cond.selects y_K_registrationFor.cls y_K_registrationFor y_K_registrationFor ∈ gw := ⟨gwm (lt3 26 rfl) rfl, gwm (lt0 21 rfl) rfl⟩
theorem v_K_registrationWithActive : Cond.instanceMethod y_K_registrationWithActive ∈ gw ∧ Cond.selects y_K_registrationWithActive.cls y_K_registrationWithActive y_K_registrationWithActive ∈ gw := ⟨gwm (lt3 46 rfl) rfl, gwm (lt0 24 rfl) rfl⟩
theorem v_K_addRegistration : Cond.instanceMethod y_K_addRegistration ∈ gw ∧ Cond.selects y_K_addRegistration.cls y_K_addRegistration y_K_addRegistration ∈ gw := ⟨gwm (lt2 145 rfl) rfl, gwm (lt0 14 rfl) rfl⟩
theorem v_K_removeRegistration : Cond.instanceMethod y_K_removeRegistration ∈ gw ∧ Cond.selects y_K_removeRegistration.cls y_K_removeRegistration y_K_removeRegistration ∈ gw := ⟨gwm (lt2 111 rfl) rfl, gwm (lt0 8 rfl) rfl⟩
theorem v_Md_init : y_Md_init.name = "<init>" ∧ Cond.instanceMethod y_Md_init ∈ gw := ⟨rfl, gwm (lt3 196 rfl) rfl⟩
theorem v_Md_thrown : Cond.instanceMethod y_Md_thrown ∈ gw ∧ Cond.selects y_Md_thrown.cls y_Md_thrown y_Md_thrown ∈ gw := ⟨gwm (lt4 70 rfl) rfl, gwm (lt4 71 rfl) rfl⟩
theorem v_Md_in : Cond.static y_Md_in ∈ gw := gwm (lt4 78 rfl) rfl
theorem v_Md_fail : Cond.instanceMethod y_Md_fail ∈ gw ∧ Cond.selects y_Md_fail.cls y_Md_fail y_Md_fail ∈ gw := ⟨gwm (lt4 94 rfl) rfl, gwm (lt0 31 rfl) rfl⟩
theorem v_Md_isPath : Cond.static y_Md_isPath ∈ gw := gwm (lt4 81 rfl) rfl
theorem v_Md_weight : Cond.static y_Md_weight ∈ gw := gwm (lt4 148 rfl) rfl
theorem v_Md_begins : Cond.static y_Md_begins ∈ gw := gwm (lt4 145 rfl) rfl
theorem v_Md_write : Cond.instanceMethod y_Md_write ∈ gw ∧ Cond.selects y_Md_write.cls y_Md_write y_Md_write ∈ gw := ⟨gwm (lt4 118 rfl) rfl, gwm (lt0 36 rfl) rfl⟩
theorem v_Md_come : Cond.instanceMethod y_Md_come ∈ gw ∧ Cond.selects y_Md_come.cls y_Md_come y_Md_come ∈ gw := ⟨gwm (lt4 114 rfl) rfl, gwm (lt0 35 rfl) rfl⟩
theorem v_Md_control : Cond.instanceMethod y_Md_control ∈ gw ∧ Cond.selects y_Md_control.cls y_Md_control y_Md_control ∈ gw := ⟨gwm (lt4 138 rfl) rfl, gwm (lt0 41 rfl) rfl⟩
theorem v_Md_finish : Cond.instanceMethod y_Md_finish ∈ gw ∧ Cond.selects y_Md_finish.cls y_Md_finish y_Md_finish ∈ gw := ⟨gwm (lt4 126 rfl) rfl, gwm (lt0 38 rfl) rfl⟩
theorem v_Md_serve : Cond.instanceMethod y_Md_serve ∈ gw ∧ Cond.selects y_Md_serve.cls y_Md_serve y_Md_serve ∈ gw := ⟨gwm (lt4 74 rfl) rfl, gwm (lt4 75 rfl) rfl⟩
theorem v_Md_network : Cond.instanceMethod y_Md_network ∈ gw ∧ Cond.selects y_Md_network.cls y_Md_network y_Md_network ∈ gw := ⟨gwm (lt4 85 rfl) rfl, gwm (lt4 86 rfl) rfl⟩
theorem v_Md_find : Cond.instanceMethod y_Md_find ∈ gw ∧ Cond.selects y_Md_find.cls y_Md_find y_Md_find ∈ gw := ⟨gwm (lt4 110 rfl) rfl, gwm (lt0 34 rfl) rfl⟩
theorem v_Md_withActive : Cond.instanceMethod y_Md_withActive ∈ gw ∧ Cond.selects y_Md_withActive.cls y_Md_withActive y_Md_withActive ∈ gw := ⟨gwm (lt4 188 rfl) rfl, gwm (lt0 50 rfl) rfl⟩
theorem v_Md_forPath : Cond.instanceMethod y_Md_forPath ∈ gw ∧ Cond.selects y_Md_forPath.cls y_Md_forPath y_Md_forPath ∈ gw := ⟨gwm (lt4 176 rfl) rfl, gwm (lt0 48 rfl) rfl⟩
theorem v_Md_go : Cond.instanceMethod y_Md_go ∈ gw ∧ Cond.selects y_Md_go.cls y_Md_go y_Md_go ∈ gw := ⟨gwm (lt4 122 rfl) rfl, gwm (lt0 37 rfl) rfl⟩
theorem v_Md_isControlling : Cond.instanceMethod y_Md_isControlling ∈ gw ∧ Cond.selects y_Md_isControlling.cls y_Md_isControlling y_Md_isControlling ∈ gw := ⟨gwm (lt4 134 rfl) rfl, gwm (lt0 40 rfl) rfl⟩
theorem v_Md_activate : Cond.instanceMethod y_Md_activate ∈ gw ∧ Cond.selects y_Md_activate.cls y_Md_activate y_Md_activate ∈ gw := ⟨gwm (lt4 130 rfl) rfl, gwm (lt0 39 rfl) rfl⟩
theorem v_Md_clearAway : Cond.instanceMethod y_Md_clearAway ∈ gw ∧ Cond.selects y_Md_clearAway.cls y_Md_clearAway y_Md_clearAway ∈ gw := ⟨gwm (lt4 168 rfl) rfl, gwm (lt0 47 rfl) rfl⟩
theorem v_Md_settle : Cond.instanceMethod y_Md_settle ∈ gw ∧ Cond.selects y_Md_settle.cls y_Md_settle y_Md_settle ∈ gw := ⟨gwm (lt4 184 rfl) rfl, gwm (lt0 49 rfl) rfl⟩
theorem v_Md_firstOf : Cond.instanceMethod y_Md_firstOf ∈ gw ∧ Cond.selects y_Md_firstOf.cls y_Md_firstOf y_Md_firstOf ∈ gw := ⟨gwm (lt4 102 rfl) rfl, gwm (lt0 32 rfl) rfl⟩
theorem v_Md_job : Cond.instanceMethod y_Md_job ∈ gw ∧ Cond.selects y_Md_job.cls y_Md_job y_Md_job ∈ gw := ⟨gwm (lt4 89 rfl) rfl, gwm (lt4 90 rfl) rfl⟩
theorem v_Md_install : Cond.instanceMethod y_Md_install ∈ gw ∧ Cond.selects y_Md_install.cls y_Md_install y_Md_install ∈ gw := ⟨gwm (lt4 156 rfl) rfl, gwm (lt0 44 rfl) rfl⟩
theorem v_Md_isSame : Cond.instanceMethod y_Md_isSame ∈ gw ∧ Cond.selects y_Md_isSame.cls y_Md_isSame y_Md_isSame ∈ gw := ⟨gwm (lt4 152 rfl) rfl, gwm (lt0 43 rfl) rfl⟩
theorem v_Md_register : Cond.instanceMethod y_Md_register ∈ gw ∧ Cond.selects y_Md_register.cls y_Md_register y_Md_register ∈ gw := ⟨gwm (lt4 142 rfl) rfl, gwm (lt0 42 rfl) rfl⟩
theorem v_Md_update : Cond.instanceMethod y_Md_update ∈ gw ∧ Cond.selects y_Md_update.cls y_Md_update y_Md_update ∈ gw := ⟨gwm (lt4 160 rfl) rfl, gwm (lt0 45 rfl) rfl⟩
theorem v_Md_installed : Cond.instanceMethod y_Md_installed ∈ gw ∧ Cond.selects y_Md_installed.cls y_Md_installed y_Md_installed ∈ gw := ⟨gwm (lt4 106 rfl) rfl, gwm (lt0 33 rfl) rfl⟩
theorem v_Md_unregister : Cond.instanceMethod y_Md_unregister ∈ gw ∧ Cond.selects y_Md_unregister.cls y_Md_unregister y_Md_unregister ∈ gw := ⟨gwm (lt4 164 rfl) rfl, gwm (lt0 46 rfl) rfl⟩
theorem v_Md_step : Cond.instanceMethod y_Md_step ∈ gw ∧ Cond.selects y_Md_step.cls y_Md_step y_Md_step ∈ gw := ⟨gwm (lt4 97 rfl) rfl, gwm (lt4 98 rfl) rfl⟩
theorem v_Md_open : Cond.instanceMethod y_Md_open ∈ gw ∧ Cond.selects y_Md_open.cls y_Md_open y_Md_open ∈ gw := ⟨gwm (lt4 171 rfl) rfl, gwm (lt4 172 rfl) rfl⟩
theorem v_Md_close : Cond.instanceMethod y_Md_close ∈ gw ∧ Cond.selects y_Md_close.cls y_Md_close y_Md_close ∈ gw := ⟨gwm (lt4 179 rfl) rfl, gwm (lt4 180 rfl) rfl⟩
theorem v_Md_claim : Cond.instanceMethod y_Md_claim ∈ gw ∧ Cond.selects y_Md_claim.cls y_Md_claim y_Md_claim ∈ gw := ⟨gwm (lt4 191 rfl) rfl, gwm (lt4 192 rfl) rfl⟩
theorem v_Md_skip : Cond.instanceMethod y_Md_skip ∈ gw ∧ Cond.selects y_Md_skip.cls y_Md_skip y_Md_skip ∈ gw := ⟨gwm (lt4 195 rfl) rfl, gwm (lt4 196 rfl) rfl⟩
theorem v_Md_cached : Cond.instanceMethod y_Md_cached ∈ gw ∧ Cond.selects y_Md_cached.cls y_Md_cached y_Md_cached ∈ gw := ⟨gwm (lt4 204 rfl) rfl, gwm (lt0 51 rfl) rfl⟩
theorem v_Md_keep : Cond.instanceMethod y_Md_keep ∈ gw ∧ Cond.selects y_Md_keep.cls y_Md_keep y_Md_keep ∈ gw := ⟨gwm (lt4 208 rfl) rfl, gwm (lt0 52 rfl) rfl⟩
theorem v_Md_fetch : Cond.instanceMethod y_Md_fetch ∈ gw ∧ Cond.selects y_Md_fetch.cls y_Md_fetch y_Md_fetch ∈ gw := ⟨gwm (lt4 199 rfl) rfl, gwm (lt4 200 rfl) rfl⟩
theorem v_Md_registration : Cond.instanceMethod y_Md_registration ∈ gw ∧ Cond.selects y_Md_registration.cls y_Md_registration y_Md_registration ∈ gw := ⟨gwm (lt4 211 rfl) rfl, gwm (lt4 212 rfl) rfl⟩
theorem v_Md_worker : Cond.instanceMethod y_Md_worker ∈ gw ∧ Cond.selects y_Md_worker.cls y_Md_worker y_Md_worker ∈ gw := ⟨gwm (lt4 215 rfl) rfl, gwm (lt4 216 rfl) rfl⟩
theorem v_Md_outcome : Cond.instanceMethod y_Md_outcome ∈ gw ∧ Cond.selects y_Md_outcome.cls y_Md_outcome y_Md_outcome ∈ gw := ⟨gwm (lt4 219 rfl) rfl, gwm (lt4 220 rfl) rfl⟩
theorem v_Md_trace : Cond.instanceMethod y_Md_trace ∈ gw ∧ Cond.selects y_Md_trace.cls y_Md_trace y_Md_trace ∈ gw := ⟨gwm (lt4 223 rfl) rfl, gwm (lt4 224 rfl) rfl⟩
theorem v_Md_count : Cond.instanceMethod y_Md_count ∈ gw ∧ Cond.selects y_Md_count.cls y_Md_count y_Md_count ∈ gw := ⟨gwm (lt4 227 rfl) rfl, gwm (lt4 228 rfl) rfl⟩
theorem v_Ca_init : y_Ca_init.name = "<init>" ∧ Cond.instanceMethod y_Ca_init ∈ gw := ⟨rfl, gwm (lt2 193 rfl) rfl⟩
theorem v_Ca_placeOf : Cond.instanceMethod y_Ca_placeOf ∈ gw ∧ Cond.selects y_Ca_placeOf.cls y_Ca_placeOf y_Ca_placeOf ∈ gw := ⟨gwm (lt3 103 rfl) rfl, gwm (lt0 27 rfl) rfl⟩
theorem v_Ca_has : Cond.instanceMethod y_Ca_has ∈ gw ∧ Cond.selects y_Ca_has.cls y_Ca_has y_Ca_has ∈ gw := ⟨gwm (lt3 98 rfl) rfl, gwm (lt3 99 rfl) rfl⟩
theorem v_Ca_valueOf : Cond.instanceMethod y_Ca_valueOf ∈ gw ∧ Cond.selects y_Ca_valueOf.cls y_Ca_valueOf y_Ca_valueOf ∈ gw := ⟨gwm (lt3 106 rfl) rfl, gwm (lt3 107 rfl) rfl⟩
theorem v_Ca_pathAt : Cond.instanceMethod y_Ca_pathAt ∈ gw ∧ Cond.selects y_Ca_pathAt.cls y_Ca_pathAt y_Ca_pathAt ∈ gw := ⟨gwm (lt3 158 rfl) rfl, gwm (lt3 159 rfl) rfl⟩
theorem v_Ca_valueAt : Cond.instanceMethod y_Ca_valueAt ∈ gw ∧ Cond.selects y_Ca_valueAt.cls y_Ca_valueAt y_Ca_valueAt ∈ gw := ⟨gwm (lt3 110 rfl) rfl, gwm (lt3 111 rfl) rfl⟩
theorem v_Ca_keep : Cond.instanceMethod y_Ca_keep ∈ gw ∧ Cond.selects y_Ca_keep.cls y_Ca_keep y_Ca_keep ∈ gw := ⟨gwm (lt3 114 rfl) rfl, gwm (lt3 115 rfl) rfl⟩
theorem v_Ca_drop : Cond.instanceMethod y_Ca_drop ∈ gw ∧ Cond.selects y_Ca_drop.cls y_Ca_drop y_Ca_drop ∈ gw := ⟨gwm (lt3 120 rfl) rfl, gwm (lt0 28 rfl) rfl⟩
theorem v_Cl_init : y_Cl_init.name = "<init>" ∧ Cond.instanceMethod y_Cl_init ∈ gw := ⟨rfl, gwm (lt1 83 rfl) rfl⟩
theorem v_Jb_init : y_Jb_init.name = "<init>" ∧ Cond.instanceMethod y_Jb_init ∈ gw := ⟨rfl, gwm (lt2 29 rfl) rfl⟩
theorem v_Rg_init : y_Rg_init.name = "<init>" ∧ Cond.instanceMethod y_Rg_init ∈ gw := ⟨rfl, gwm (lt2 149 rfl) rfl⟩
theorem v_Rg_newest : Cond.instanceMethod y_Rg_newest ∈ gw ∧ Cond.selects y_Rg_newest.cls y_Rg_newest y_Rg_newest ∈ gw := ⟨gwm (lt2 106 rfl) rfl, gwm (lt2 107 rfl) rfl⟩
theorem v_Sc_init : y_Sc_init.name = "<init>" ∧ Cond.instanceMethod y_Sc_init ∈ gw := ⟨rfl, gwm (lt1 58 rfl) rfl⟩
theorem v_Tr_init : y_Tr_init.name = "<init>" ∧ Cond.instanceMethod y_Tr_init ∈ gw := ⟨rfl, gwm (lt1 39 rfl) rfl⟩
theorem v_Tr_workerComesTo : Cond.instanceMethod y_Tr_workerComesTo ∈ gw ∧ Cond.selects y_Tr_workerComesTo.cls y_Tr_workerComesTo y_Tr_workerComesTo ∈ gw := ⟨gwm (lt2 98 rfl) rfl, gwm (lt2 99 rfl) rfl⟩
theorem v_Tr_clientIsControlled : Cond.instanceMethod y_Tr_clientIsControlled ∈ gw ∧ Cond.selects y_Tr_clientIsControlled.cls y_Tr_clientIsControlled y_Tr_clientIsControlled ∈ gw := ⟨gwm (lt2 129 rfl) rfl, gwm (lt2 130 rfl) rfl⟩
theorem v_Tr_jobEnds : Cond.instanceMethod y_Tr_jobEnds ∈ gw ∧ Cond.selects y_Tr_jobEnds.cls y_Tr_jobEnds y_Tr_jobEnds ∈ gw := ⟨gwm (lt3 9 rfl) rfl, gwm (lt3 10 rfl) rfl⟩
theorem v_Tr_append : Cond.instanceMethod y_Tr_append ∈ gw ∧ Cond.selects y_Tr_append.cls y_Tr_append y_Tr_append ∈ gw := ⟨gwm (lt2 103 rfl) rfl, gwm (lt0 7 rfl) rfl⟩
theorem v_Wk_init : y_Wk_init.name = "<init>" ∧ Cond.instanceMethod y_Wk_init ∈ gw := ⟨rfl, gwm (lt2 187 rfl) rfl⟩
theorem oi_K : Cond.methodLink "ScopeKeeper" 1 objectInit ∈ gw := gwm (lt1 23 rfl) rfl
theorem oi_Tr : Cond.methodLink "ScopeKeeper$Trace" 3 objectInit ∈ gw := gwm (lt1 41 rfl) rfl
theorem oi_Sc : Cond.methodLink "ScopeKeeper$Script" 3 objectInit ∈ gw := gwm (lt1 60 rfl) rfl
theorem oi_Cl : Cond.methodLink "ScopeKeeper$Client" 1 objectInit ∈ gw := gwm (lt1 85 rfl) rfl
theorem oi_Jb : Cond.methodLink "ScopeKeeper$Job" 3 objectInit ∈ gw := gwm (lt2 31 rfl) rfl
theorem oi_Rg : Cond.methodLink "ScopeKeeper$Registration" 1 objectInit ∈ gw := gwm (lt2 151 rfl) rfl
theorem oi_Wk : Cond.methodLink "ScopeKeeper$Worker" 3 objectInit ∈ gw := gwm (lt2 189 rfl) rfl
theorem oi_Ca : Cond.methodLink "ScopeKeeper$Cache" 3 objectInit ∈ gw := gwm (lt2 195 rfl) rfl
theorem oi_Md : Cond.methodLink "ScopeKeeperModel" 1 objectInit ∈ gw := gwm (lt3 198 rfl) rfl
theorem oi_inst : Cond.instanceMethod objectInit ∈ gw := gwm (lt1 24 rfl) rfl
theorem oi_code : Cond.code objectInit ⟨#[0xb1]⟩ 1 none ∈ gw := gwm (lt1 25 rfl) rfl
theorem gw_int : Cond.arrayClass .int ∈ gw := gwm (lt1 55 rfl) rfl
theorem gw_bool : Cond.arrayClass .boolean ∈ gw := gwm (lt4 68 rfl) rfl
theorem gw_long : Cond.arrayClass .long ∈ gw := gwm (lt4 230 rfl) rfl
