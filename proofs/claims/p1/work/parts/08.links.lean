/-! LINKS, by program: what each field, call, new and throw needs of the tables -/
theorem ws_K : ∀ w ∈ u_ws "ScopeKeeper" T_K 12, w ∈ gw := by
  intro w hw
  obtain ⟨k, hk, rfl⟩ := List.mem_map.mp hw
  have hk := List.mem_range.mp hk
  match k, hk with
  | 0, _ => exact gwm (lt1 107 rfl) rfl
  | 1, _ => exact gwm (lt1 109 rfl) rfl
  | 2, _ => exact gwm (lt1 111 rfl) rfl
  | 3, _ => exact gwm (lt1 113 rfl) rfl
  | 4, _ => exact gwm (lt1 115 rfl) rfl
  | 5, _ => exact gwm (lt1 117 rfl) rfl
  | 6, _ => exact gwm (lt1 119 rfl) rfl
  | 7, _ => exact gwm (lt1 121 rfl) rfl
  | 8, _ => exact gwm (lt1 123 rfl) rfl
  | 9, _ => exact gwm (lt1 125 rfl) rfl
  | 10, _ => exact gwm (lt1 127 rfl) rfl
  | 11, _ => exact gwm (lt1 129 rfl) rfl
  | k + 12, h => omega
theorem kc_K : kcls 0 "ScopeKeeper" := ⟨0, _, rfl, rfl, rfl⟩
theorem ws_Sc : ∀ w ∈ u_ws "ScopeKeeper$Script" T_Sc 4, w ∈ gw := by
  intro w hw
  obtain ⟨k, hk, rfl⟩ := List.mem_map.mp hw
  have hk := List.mem_range.mp hk
  match k, hk with
  | 0, _ => exact gwm (lt1 68 rfl) rfl
  | 1, _ => exact gwm (lt1 70 rfl) rfl
  | 2, _ => exact gwm (lt1 72 rfl) rfl
  | 3, _ => exact gwm (lt1 74 rfl) rfl
  | k + 4, h => omega
theorem kc_Sc : kcls 1 "ScopeKeeper$Script" := ⟨1, _, rfl, rfl, rfl⟩
theorem ws_Cl : ∀ w ∈ u_ws "ScopeKeeper$Client" T_Cl 3, w ∈ gw := by
  intro w hw
  obtain ⟨k, hk, rfl⟩ := List.mem_map.mp hw
  have hk := List.mem_range.mp hk
  match k, hk with
  | 0, _ => exact gwm (lt1 88 rfl) rfl
  | 1, _ => exact gwm (lt1 90 rfl) rfl
  | 2, _ => exact gwm (lt1 92 rfl) rfl
  | k + 3, h => omega
theorem kc_Cl : kcls 2 "ScopeKeeper$Client" := ⟨2, _, rfl, rfl, rfl⟩
theorem ws_Tr : ∀ w ∈ u_ws "ScopeKeeper$Trace" T_Tr 2, w ∈ gw := by
  intro w hw
  obtain ⟨k, hk, rfl⟩ := List.mem_map.mp hw
  have hk := List.mem_range.mp hk
  match k, hk with
  | 0, _ => exact gwm (lt1 46 rfl) rfl
  | 1, _ => exact gwm (lt1 48 rfl) rfl
  | k + 2, h => omega
theorem kc_Tr : kcls 3 "ScopeKeeper$Trace" := ⟨3, _, rfl, rfl, rfl⟩
theorem ws_Jb : ∀ w ∈ u_ws "ScopeKeeper$Job" T_Jb 6, w ∈ gw := by
  intro w hw
  obtain ⟨k, hk, rfl⟩ := List.mem_map.mp hw
  have hk := List.mem_range.mp hk
  match k, hk with
  | 0, _ => exact gwm (lt2 40 rfl) rfl
  | 1, _ => exact gwm (lt2 42 rfl) rfl
  | 2, _ => exact gwm (lt2 44 rfl) rfl
  | 3, _ => exact gwm (lt2 46 rfl) rfl
  | 4, _ => exact gwm (lt2 48 rfl) rfl
  | 5, _ => exact gwm (lt2 50 rfl) rfl
  | k + 6, h => omega
theorem kc_Jb : kcls 4 "ScopeKeeper$Job" := ⟨4, _, rfl, rfl, rfl⟩
theorem ws_Rg : ∀ w ∈ u_ws "ScopeKeeper$Registration" T_Rg 6, w ∈ gw := by
  intro w hw
  obtain ⟨k, hk, rfl⟩ := List.mem_map.mp hw
  have hk := List.mem_range.mp hk
  match k, hk with
  | 0, _ => exact gwm (lt2 160 rfl) rfl
  | 1, _ => exact gwm (lt2 162 rfl) rfl
  | 2, _ => exact gwm (lt2 164 rfl) rfl
  | 3, _ => exact gwm (lt2 166 rfl) rfl
  | 4, _ => exact gwm (lt2 168 rfl) rfl
  | 5, _ => exact gwm (lt2 170 rfl) rfl
  | k + 6, h => omega
theorem kc_Rg : kcls 5 "ScopeKeeper$Registration" := ⟨5, _, rfl, rfl, rfl⟩
theorem ws_Ca : ∀ w ∈ u_ws "ScopeKeeper$Cache" T_Ca 3, w ∈ gw := by
  intro w hw
  obtain ⟨k, hk, rfl⟩ := List.mem_map.mp hw
  have hk := List.mem_range.mp hk
  match k, hk with
  | 0, _ => exact gwm (lt2 196 rfl) rfl
  | 1, _ => exact gwm (lt2 198 rfl) rfl
  | 2, _ => exact gwm (lt2 200 rfl) rfl
  | k + 3, h => omega
theorem kc_Ca : kcls 6 "ScopeKeeper$Cache" := ⟨6, _, rfl, rfl, rfl⟩
theorem ws_Wk : ∀ w ∈ u_ws "ScopeKeeper$Worker" T_Wk 7, w ∈ gw := by
  intro w hw
  obtain ⟨k, hk, rfl⟩ := List.mem_map.mp hw
  have hk := List.mem_range.mp hk
  match k, hk with
  | 0, _ => exact gwm (lt2 217 rfl) rfl
  | 1, _ => exact gwm (lt2 219 rfl) rfl
  | 2, _ => exact gwm (lt2 221 rfl) rfl
  | 3, _ => exact gwm (lt2 223 rfl) rfl
  | 4, _ => exact gwm (lt2 225 rfl) rfl
  | 5, _ => exact gwm (lt2 227 rfl) rfl
  | 6, _ => exact gwm (lt2 229 rfl) rfl
  | k + 7, h => omega
theorem kc_Wk : kcls 7 "ScopeKeeper$Worker" := ⟨7, _, rfl, rfl, rfl⟩
theorem f_Tr_9 : fLk "ScopeKeeper$Trace" 9 3 0 := ⟨3, _, _, 2, rfl, rfl, by decide, rfl, ws_Tr, Or.inl (gwm (lt1 42 rfl) rfl)⟩
theorem p_Tr_9 : fFk "ScopeKeeper$Trace" 9 3 0 (.array .int) := ⟨3, _, _, 2, ty_Tr, rfl, rfl, by decide, rfl, ws_Tr, tyk_Tr, nm_Tr, rfl, rfl, rfl, gwm (lt1 42 rfl) rfl⟩
theorem f_K_268 : fLk "ScopeKeeper" 268 3 0 := ⟨3, _, _, 2, rfl, rfl, by decide, rfl, ws_Tr, Or.inr ⟨"ScopeKeeper", gwm (lt1 43 rfl) rfl⟩⟩
theorem f_Tr_15 : fLk "ScopeKeeper$Trace" 15 3 1 := ⟨3, _, _, 2, rfl, rfl, by decide, rfl, ws_Tr, Or.inl (gwm (lt1 44 rfl) rfl)⟩
theorem p_Tr_15 : fPk "ScopeKeeper$Trace" 15 3 1 (.int) := ⟨3, _, _, 2, ty_Tr, rfl, rfl, by decide, rfl, ws_Tr, tyk_Tr, nm_Tr, rfl, rfl, Or.inl (gwm (lt1 44 rfl) rfl)⟩
theorem f_K_265 : fLk "ScopeKeeper" 265 3 1 := ⟨3, _, _, 2, rfl, rfl, by decide, rfl, ws_Tr, Or.inr ⟨"ScopeKeeper", gwm (lt1 45 rfl) rfl⟩⟩
theorem p_K_265 : fPk "ScopeKeeper" 265 3 1 (.int) := ⟨3, _, _, 2, ty_Tr, rfl, rfl, by decide, rfl, ws_Tr, tyk_Tr, nm_Tr, rfl, rfl, Or.inr ⟨"ScopeKeeper", gwm (lt1 45 rfl) rfl⟩⟩
theorem f_Sc_9 : fLk "ScopeKeeper$Script" 9 1 0 := ⟨1, _, _, 4, rfl, rfl, by decide, rfl, ws_Sc, Or.inl (gwm (lt1 57 rfl) rfl)⟩
theorem p_Sc_9 : fPk "ScopeKeeper$Script" 9 1 0 (.int) := ⟨1, _, _, 4, ty_Sc, rfl, rfl, by decide, rfl, ws_Sc, tyk_Sc, nm_Sc, rfl, rfl, Or.inl (gwm (lt1 57 rfl) rfl)⟩
theorem f_Wk_29 : fLk "ScopeKeeper$Worker" 29 1 0 := ⟨1, _, _, 4, rfl, rfl, by decide, rfl, ws_Sc, Or.inr ⟨"ScopeKeeper", gwm (lt1 58 rfl) rfl⟩⟩
theorem p_Wk_29 : fPk "ScopeKeeper$Worker" 29 1 0 (.int) := ⟨1, _, _, 4, ty_Sc, rfl, rfl, by decide, rfl, ws_Sc, tyk_Sc, nm_Sc, rfl, rfl, Or.inr ⟨"ScopeKeeper", gwm (lt1 58 rfl) rfl⟩⟩
theorem f_K_84 : fLk "ScopeKeeper" 84 1 0 := ⟨1, _, _, 4, rfl, rfl, by decide, rfl, ws_Sc, Or.inr ⟨"ScopeKeeper", gwm (lt1 59 rfl) rfl⟩⟩
theorem p_K_84 : fPk "ScopeKeeper" 84 1 0 (.int) := ⟨1, _, _, 4, ty_Sc, rfl, rfl, by decide, rfl, ws_Sc, tyk_Sc, nm_Sc, rfl, rfl, Or.inr ⟨"ScopeKeeper", gwm (lt1 59 rfl) rfl⟩⟩
theorem f_Sc_15 : fLk "ScopeKeeper$Script" 15 1 1 := ⟨1, _, _, 4, rfl, rfl, by decide, rfl, ws_Sc, Or.inl (gwm (lt1 60 rfl) rfl)⟩
theorem p_Sc_15 : fPk "ScopeKeeper$Script" 15 1 1 (.int) := ⟨1, _, _, 4, ty_Sc, rfl, rfl, by decide, rfl, ws_Sc, tyk_Sc, nm_Sc, rfl, rfl, Or.inl (gwm (lt1 60 rfl) rfl)⟩
theorem f_K_87 : fLk "ScopeKeeper" 87 1 1 := ⟨1, _, _, 4, rfl, rfl, by decide, rfl, ws_Sc, Or.inr ⟨"ScopeKeeper", gwm (lt1 61 rfl) rfl⟩⟩
theorem p_K_87 : fPk "ScopeKeeper" 87 1 1 (.int) := ⟨1, _, _, 4, ty_Sc, rfl, rfl, by decide, rfl, ws_Sc, tyk_Sc, nm_Sc, rfl, rfl, Or.inr ⟨"ScopeKeeper", gwm (lt1 61 rfl) rfl⟩⟩
theorem f_Sc_18 : fLk "ScopeKeeper$Script" 18 1 2 := ⟨1, _, _, 4, rfl, rfl, by decide, rfl, ws_Sc, Or.inl (gwm (lt1 62 rfl) rfl)⟩
theorem p_Sc_18 : fPk "ScopeKeeper$Script" 18 1 2 (.int) := ⟨1, _, _, 4, ty_Sc, rfl, rfl, by decide, rfl, ws_Sc, tyk_Sc, nm_Sc, rfl, rfl, Or.inl (gwm (lt1 62 rfl) rfl)⟩
theorem f_Wk_35 : fLk "ScopeKeeper$Worker" 35 1 2 := ⟨1, _, _, 4, rfl, rfl, by decide, rfl, ws_Sc, Or.inr ⟨"ScopeKeeper", gwm (lt1 63 rfl) rfl⟩⟩
theorem p_Wk_35 : fPk "ScopeKeeper$Worker" 35 1 2 (.int) := ⟨1, _, _, 4, ty_Sc, rfl, rfl, by decide, rfl, ws_Sc, tyk_Sc, nm_Sc, rfl, rfl, Or.inr ⟨"ScopeKeeper", gwm (lt1 63 rfl) rfl⟩⟩
theorem f_K_90 : fLk "ScopeKeeper" 90 1 2 := ⟨1, _, _, 4, rfl, rfl, by decide, rfl, ws_Sc, Or.inr ⟨"ScopeKeeper", gwm (lt1 64 rfl) rfl⟩⟩
theorem p_K_90 : fPk "ScopeKeeper" 90 1 2 (.int) := ⟨1, _, _, 4, ty_Sc, rfl, rfl, by decide, rfl, ws_Sc, tyk_Sc, nm_Sc, rfl, rfl, Or.inr ⟨"ScopeKeeper", gwm (lt1 64 rfl) rfl⟩⟩
theorem f_Sc_21 : fLk "ScopeKeeper$Script" 21 1 3 := ⟨1, _, _, 4, rfl, rfl, by decide, rfl, ws_Sc, Or.inl (gwm (lt1 65 rfl) rfl)⟩
theorem p_Sc_21 : fPk "ScopeKeeper$Script" 21 1 3 (.int) := ⟨1, _, _, 4, ty_Sc, rfl, rfl, by decide, rfl, ws_Sc, tyk_Sc, nm_Sc, rfl, rfl, Or.inl (gwm (lt1 65 rfl) rfl)⟩
theorem f_Wk_39 : fLk "ScopeKeeper$Worker" 39 1 3 := ⟨1, _, _, 4, rfl, rfl, by decide, rfl, ws_Sc, Or.inr ⟨"ScopeKeeper", gwm (lt1 66 rfl) rfl⟩⟩
theorem p_Wk_39 : fPk "ScopeKeeper$Worker" 39 1 3 (.int) := ⟨1, _, _, 4, ty_Sc, rfl, rfl, by decide, rfl, ws_Sc, tyk_Sc, nm_Sc, rfl, rfl, Or.inr ⟨"ScopeKeeper", gwm (lt1 66 rfl) rfl⟩⟩
theorem f_K_93 : fLk "ScopeKeeper" 93 1 3 := ⟨1, _, _, 4, rfl, rfl, by decide, rfl, ws_Sc, Or.inr ⟨"ScopeKeeper", gwm (lt1 67 rfl) rfl⟩⟩
theorem p_K_93 : fPk "ScopeKeeper" 93 1 3 (.int) := ⟨1, _, _, 4, ty_Sc, rfl, rfl, by decide, rfl, ws_Sc, tyk_Sc, nm_Sc, rfl, rfl, Or.inr ⟨"ScopeKeeper", gwm (lt1 67 rfl) rfl⟩⟩
theorem f_Cl_7 : fLk "ScopeKeeper$Client" 7 2 0 := ⟨2, _, _, 3, rfl, rfl, by decide, rfl, ws_Cl, Or.inl (gwm (lt1 82 rfl) rfl)⟩
theorem p_Cl_7 : fPk "ScopeKeeper$Client" 7 2 0 (.boolean) := ⟨2, _, _, 3, ty_Cl, rfl, rfl, by decide, rfl, ws_Cl, tyk_Cl, nm_Cl, rfl, rfl, Or.inl (gwm (lt1 82 rfl) rfl)⟩
theorem f_K_163 : fLk "ScopeKeeper" 163 2 0 := ⟨2, _, _, 3, rfl, rfl, by decide, rfl, ws_Cl, Or.inr ⟨"ScopeKeeper", gwm (lt1 83 rfl) rfl⟩⟩
theorem p_K_163 : fPk "ScopeKeeper" 163 2 0 (.boolean) := ⟨2, _, _, 3, ty_Cl, rfl, rfl, by decide, rfl, ws_Cl, tyk_Cl, nm_Cl, rfl, rfl, Or.inr ⟨"ScopeKeeper", gwm (lt1 83 rfl) rfl⟩⟩
theorem f_Cl_13 : fLk "ScopeKeeper$Client" 13 2 1 := ⟨2, _, _, 3, rfl, rfl, by decide, rfl, ws_Cl, Or.inl (gwm (lt1 84 rfl) rfl)⟩
theorem p_Cl_13 : fPk "ScopeKeeper$Client" 13 2 1 (.int) := ⟨2, _, _, 3, ty_Cl, rfl, rfl, by decide, rfl, ws_Cl, tyk_Cl, nm_Cl, rfl, rfl, Or.inl (gwm (lt1 84 rfl) rfl)⟩
theorem f_K_166 : fLk "ScopeKeeper" 166 2 1 := ⟨2, _, _, 3, rfl, rfl, by decide, rfl, ws_Cl, Or.inr ⟨"ScopeKeeper", gwm (lt1 85 rfl) rfl⟩⟩
theorem p_K_166 : fPk "ScopeKeeper" 166 2 1 (.int) := ⟨2, _, _, 3, ty_Cl, rfl, rfl, by decide, rfl, ws_Cl, tyk_Cl, nm_Cl, rfl, rfl, Or.inr ⟨"ScopeKeeper", gwm (lt1 85 rfl) rfl⟩⟩
theorem f_Cl_17 : fLk "ScopeKeeper$Client" 17 2 2 := ⟨2, _, _, 3, rfl, rfl, by decide, rfl, ws_Cl, Or.inl (gwm (lt1 86 rfl) rfl)⟩
theorem p_Cl_17 : fPk "ScopeKeeper$Client" 17 2 2 (.object "ScopeKeeper$Worker") := ⟨2, _, _, 3, ty_Cl, rfl, rfl, by decide, rfl, ws_Cl, tyk_Cl, nm_Cl, rfl, rfl, Or.inl (gwm (lt1 86 rfl) rfl)⟩
theorem f_K_173 : fLk "ScopeKeeper" 173 2 2 := ⟨2, _, _, 3, rfl, rfl, by decide, rfl, ws_Cl, Or.inr ⟨"ScopeKeeper", gwm (lt1 87 rfl) rfl⟩⟩
theorem p_K_173 : fPk "ScopeKeeper" 173 2 2 (.object "ScopeKeeper$Worker") := ⟨2, _, _, 3, ty_Cl, rfl, rfl, by decide, rfl, ws_Cl, tyk_Cl, nm_Cl, rfl, rfl, Or.inr ⟨"ScopeKeeper", gwm (lt1 87 rfl) rfl⟩⟩
theorem f_K_11 : fLk "ScopeKeeper" 11 0 0 := ⟨0, _, _, 12, rfl, rfl, by decide, rfl, ws_K, Or.inl (gwm (lt1 95 rfl) rfl)⟩
theorem p_K_11 : fFk "ScopeKeeper" 11 0 0 (.array (.object "ScopeKeeper$Script")) := ⟨0, _, _, 12, ty_K, rfl, rfl, by decide, rfl, ws_K, tyk_K, nm_K, rfl, rfl, rfl, gwm (lt1 95 rfl) rfl⟩
theorem f_K_15 : fLk "ScopeKeeper" 15 0 1 := ⟨0, _, _, 12, rfl, rfl, by decide, rfl, ws_K, Or.inl (gwm (lt1 96 rfl) rfl)⟩
theorem p_K_15 : fPk "ScopeKeeper" 15 0 1 (.boolean) := ⟨0, _, _, 12, ty_K, rfl, rfl, by decide, rfl, ws_K, tyk_K, nm_K, rfl, rfl, Or.inl (gwm (lt1 96 rfl) rfl)⟩
theorem f_K_19 : fLk "ScopeKeeper" 19 0 2 := ⟨0, _, _, 12, rfl, rfl, by decide, rfl, ws_K, Or.inl (gwm (lt1 97 rfl) rfl)⟩
theorem p_K_19 : fPk "ScopeKeeper" 19 0 2 (.int) := ⟨0, _, _, 12, ty_K, rfl, rfl, by decide, rfl, ws_K, tyk_K, nm_K, rfl, rfl, Or.inl (gwm (lt1 97 rfl) rfl)⟩
theorem f_K_25 : fLk "ScopeKeeper" 25 0 3 := ⟨0, _, _, 12, rfl, rfl, by decide, rfl, ws_K, Or.inl (gwm (lt1 98 rfl) rfl)⟩
theorem p_K_25 : fFk "ScopeKeeper" 25 0 3 (.array (.object "ScopeKeeper$Worker")) := ⟨0, _, _, 12, ty_K, rfl, rfl, by decide, rfl, ws_K, tyk_K, nm_K, rfl, rfl, rfl, gwm (lt1 98 rfl) rfl⟩
theorem f_K_29 : fLk "ScopeKeeper" 29 0 4 := ⟨0, _, _, 12, rfl, rfl, by decide, rfl, ws_K, Or.inl (gwm (lt1 99 rfl) rfl)⟩
theorem p_K_29 : fPk "ScopeKeeper" 29 0 4 (.int) := ⟨0, _, _, 12, ty_K, rfl, rfl, by decide, rfl, ws_K, tyk_K, nm_K, rfl, rfl, Or.inl (gwm (lt1 99 rfl) rfl)⟩
theorem f_K_34 : fLk "ScopeKeeper" 34 0 5 := ⟨0, _, _, 12, rfl, rfl, by decide, rfl, ws_K, Or.inl (gwm (lt1 100 rfl) rfl)⟩
theorem p_K_34 : fFk "ScopeKeeper" 34 0 5 (.array (.object "ScopeKeeper$Registration")) := ⟨0, _, _, 12, ty_K, rfl, rfl, by decide, rfl, ws_K, tyk_K, nm_K, rfl, rfl, rfl, gwm (lt1 100 rfl) rfl⟩
theorem f_K_38 : fLk "ScopeKeeper" 38 0 6 := ⟨0, _, _, 12, rfl, rfl, by decide, rfl, ws_K, Or.inl (gwm (lt1 101 rfl) rfl)⟩
theorem p_K_38 : fPk "ScopeKeeper" 38 0 6 (.int) := ⟨0, _, _, 12, ty_K, rfl, rfl, by decide, rfl, ws_K, tyk_K, nm_K, rfl, rfl, Or.inl (gwm (lt1 101 rfl) rfl)⟩
theorem f_K_43 : fLk "ScopeKeeper" 43 0 7 := ⟨0, _, _, 12, rfl, rfl, by decide, rfl, ws_K, Or.inl (gwm (lt1 102 rfl) rfl)⟩
theorem p_K_43 : fFk "ScopeKeeper" 43 0 7 (.array (.object "ScopeKeeper$Client")) := ⟨0, _, _, 12, ty_K, rfl, rfl, by decide, rfl, ws_K, tyk_K, nm_K, rfl, rfl, rfl, gwm (lt1 102 rfl) rfl⟩
theorem f_K_47 : fLk "ScopeKeeper" 47 0 8 := ⟨0, _, _, 12, rfl, rfl, by decide, rfl, ws_K, Or.inl (gwm (lt1 103 rfl) rfl)⟩
theorem p_K_47 : fFk "ScopeKeeper" 47 0 8 (.array (.object "ScopeKeeper$Worker")) := ⟨0, _, _, 12, ty_K, rfl, rfl, by decide, rfl, ws_K, tyk_K, nm_K, rfl, rfl, rfl, gwm (lt1 103 rfl) rfl⟩
theorem f_K_52 : fLk "ScopeKeeper" 52 0 9 := ⟨0, _, _, 12, rfl, rfl, by decide, rfl, ws_K, Or.inl (gwm (lt1 104 rfl) rfl)⟩
theorem p_K_52 : fFk "ScopeKeeper" 52 0 9 (.array (.object "ScopeKeeper$Job")) := ⟨0, _, _, 12, ty_K, rfl, rfl, by decide, rfl, ws_K, tyk_K, nm_K, rfl, rfl, rfl, gwm (lt1 104 rfl) rfl⟩
theorem f_K_56 : fLk "ScopeKeeper" 56 0 10 := ⟨0, _, _, 12, rfl, rfl, by decide, rfl, ws_K, Or.inl (gwm (lt1 105 rfl) rfl)⟩
theorem p_K_56 : fPk "ScopeKeeper" 56 0 10 (.int) := ⟨0, _, _, 12, ty_K, rfl, rfl, by decide, rfl, ws_K, tyk_K, nm_K, rfl, rfl, Or.inl (gwm (lt1 105 rfl) rfl)⟩
theorem f_K_62 : fLk "ScopeKeeper" 62 0 11 := ⟨0, _, _, 12, rfl, rfl, by decide, rfl, ws_K, Or.inl (gwm (lt1 106 rfl) rfl)⟩
theorem p_K_62 : fFk "ScopeKeeper" 62 0 11 (.object "ScopeKeeper$Trace") := ⟨0, _, _, 12, ty_K, rfl, rfl, by decide, rfl, ws_K, tyk_K, nm_K, rfl, rfl, rfl, gwm (lt1 106 rfl) rfl⟩
theorem f_Jb_19 : fLk "ScopeKeeper$Job" 19 4 0 := ⟨4, _, _, 6, rfl, rfl, by decide, rfl, ws_Jb, Or.inl (gwm (lt2 28 rfl) rfl)⟩
theorem p_Jb_19 : fFk "ScopeKeeper$Job" 19 4 0 (.int) := ⟨4, _, _, 6, ty_Jb, rfl, rfl, by decide, rfl, ws_Jb, tyk_Jb, nm_Jb, rfl, rfl, rfl, gwm (lt2 28 rfl) rfl⟩
theorem f_K_117 : fLk "ScopeKeeper" 117 4 0 := ⟨4, _, _, 6, rfl, rfl, by decide, rfl, ws_Jb, Or.inr ⟨"ScopeKeeper", gwm (lt2 29 rfl) rfl⟩⟩
theorem f_Jb_22 : fLk "ScopeKeeper$Job" 22 4 1 := ⟨4, _, _, 6, rfl, rfl, by decide, rfl, ws_Jb, Or.inl (gwm (lt2 30 rfl) rfl)⟩
theorem p_Jb_22 : fFk "ScopeKeeper$Job" 22 4 1 (.int) := ⟨4, _, _, 6, ty_Jb, rfl, rfl, by decide, rfl, ws_Jb, tyk_Jb, nm_Jb, rfl, rfl, rfl, gwm (lt2 30 rfl) rfl⟩
theorem f_K_111 : fLk "ScopeKeeper" 111 4 1 := ⟨4, _, _, 6, rfl, rfl, by decide, rfl, ws_Jb, Or.inr ⟨"ScopeKeeper", gwm (lt2 31 rfl) rfl⟩⟩
theorem f_Jb_25 : fLk "ScopeKeeper$Job" 25 4 2 := ⟨4, _, _, 6, rfl, rfl, by decide, rfl, ws_Jb, Or.inl (gwm (lt2 32 rfl) rfl)⟩
theorem p_Jb_25 : fFk "ScopeKeeper$Job" 25 4 2 (.int) := ⟨4, _, _, 6, ty_Jb, rfl, rfl, by decide, rfl, ws_Jb, tyk_Jb, nm_Jb, rfl, rfl, rfl, gwm (lt2 32 rfl) rfl⟩
theorem f_K_296 : fLk "ScopeKeeper" 296 4 2 := ⟨4, _, _, 6, rfl, rfl, by decide, rfl, ws_Jb, Or.inr ⟨"ScopeKeeper", gwm (lt2 33 rfl) rfl⟩⟩
theorem f_Jb_28 : fLk "ScopeKeeper$Job" 28 4 3 := ⟨4, _, _, 6, rfl, rfl, by decide, rfl, ws_Jb, Or.inl (gwm (lt2 34 rfl) rfl)⟩
theorem p_Jb_28 : fFk "ScopeKeeper$Job" 28 4 3 (.int) := ⟨4, _, _, 6, ty_Jb, rfl, rfl, by decide, rfl, ws_Jb, tyk_Jb, nm_Jb, rfl, rfl, rfl, gwm (lt2 34 rfl) rfl⟩
theorem f_K_114 : fLk "ScopeKeeper" 114 4 3 := ⟨4, _, _, 6, rfl, rfl, by decide, rfl, ws_Jb, Or.inr ⟨"ScopeKeeper", gwm (lt2 35 rfl) rfl⟩⟩
theorem f_Jb_9 : fLk "ScopeKeeper$Job" 9 4 4 := ⟨4, _, _, 6, rfl, rfl, by decide, rfl, ws_Jb, Or.inl (gwm (lt2 36 rfl) rfl)⟩
theorem p_Jb_9 : fPk "ScopeKeeper$Job" 9 4 4 (.boolean) := ⟨4, _, _, 6, ty_Jb, rfl, rfl, by decide, rfl, ws_Jb, tyk_Jb, nm_Jb, rfl, rfl, Or.inl (gwm (lt2 36 rfl) rfl)⟩
theorem f_K_108 : fLk "ScopeKeeper" 108 4 4 := ⟨4, _, _, 6, rfl, rfl, by decide, rfl, ws_Jb, Or.inr ⟨"ScopeKeeper", gwm (lt2 37 rfl) rfl⟩⟩
theorem p_K_108 : fPk "ScopeKeeper" 108 4 4 (.boolean) := ⟨4, _, _, 6, ty_Jb, rfl, rfl, by decide, rfl, ws_Jb, tyk_Jb, nm_Jb, rfl, rfl, Or.inr ⟨"ScopeKeeper", gwm (lt2 37 rfl) rfl⟩⟩
theorem f_Jb_15 : fLk "ScopeKeeper$Job" 15 4 5 := ⟨4, _, _, 6, rfl, rfl, by decide, rfl, ws_Jb, Or.inl (gwm (lt2 38 rfl) rfl)⟩
theorem p_Jb_15 : fPk "ScopeKeeper$Job" 15 4 5 (.int) := ⟨4, _, _, 6, ty_Jb, rfl, rfl, by decide, rfl, ws_Jb, tyk_Jb, nm_Jb, rfl, rfl, Or.inl (gwm (lt2 38 rfl) rfl)⟩
theorem f_K_147 : fLk "ScopeKeeper" 147 4 5 := ⟨4, _, _, 6, rfl, rfl, by decide, rfl, ws_Jb, Or.inr ⟨"ScopeKeeper", gwm (lt2 39 rfl) rfl⟩⟩
theorem p_K_147 : fPk "ScopeKeeper" 147 4 5 (.int) := ⟨4, _, _, 6, ty_Jb, rfl, rfl, by decide, rfl, ws_Jb, tyk_Jb, nm_Jb, rfl, rfl, Or.inr ⟨"ScopeKeeper", gwm (lt2 39 rfl) rfl⟩⟩
theorem f_Rg_27 : fLk "ScopeKeeper$Registration" 27 5 0 := ⟨5, _, _, 6, rfl, rfl, by decide, rfl, ws_Rg, Or.inl (gwm (lt2 148 rfl) rfl)⟩
theorem p_Rg_27 : fFk "ScopeKeeper$Registration" 27 5 0 (.int) := ⟨5, _, _, 6, ty_Rg, rfl, rfl, by decide, rfl, ws_Rg, tyk_Rg, nm_Rg, rfl, rfl, rfl, gwm (lt2 148 rfl) rfl⟩
theorem f_K_272 : fLk "ScopeKeeper" 272 5 0 := ⟨5, _, _, 6, rfl, rfl, by decide, rfl, ws_Rg, Or.inr ⟨"ScopeKeeper", gwm (lt2 149 rfl) rfl⟩⟩
theorem f_Rg_7 : fLk "ScopeKeeper$Registration" 7 5 1 := ⟨5, _, _, 6, rfl, rfl, by decide, rfl, ws_Rg, Or.inl (gwm (lt2 150 rfl) rfl)⟩
theorem p_Rg_7 : fPk "ScopeKeeper$Registration" 7 5 1 (.int) := ⟨5, _, _, 6, ty_Rg, rfl, rfl, by decide, rfl, ws_Rg, tyk_Rg, nm_Rg, rfl, rfl, Or.inl (gwm (lt2 150 rfl) rfl)⟩
theorem f_K_235 : fLk "ScopeKeeper" 235 5 1 := ⟨5, _, _, 6, rfl, rfl, by decide, rfl, ws_Rg, Or.inr ⟨"ScopeKeeper", gwm (lt2 151 rfl) rfl⟩⟩
theorem p_K_235 : fPk "ScopeKeeper" 235 5 1 (.int) := ⟨5, _, _, 6, ty_Rg, rfl, rfl, by decide, rfl, ws_Rg, tyk_Rg, nm_Rg, rfl, rfl, Or.inr ⟨"ScopeKeeper", gwm (lt2 151 rfl) rfl⟩⟩
theorem f_Rg_13 : fLk "ScopeKeeper$Registration" 13 5 2 := ⟨5, _, _, 6, rfl, rfl, by decide, rfl, ws_Rg, Or.inl (gwm (lt2 152 rfl) rfl)⟩
theorem p_Rg_13 : fPk "ScopeKeeper$Registration" 13 5 2 (.object "ScopeKeeper$Worker") := ⟨5, _, _, 6, ty_Rg, rfl, rfl, by decide, rfl, ws_Rg, tyk_Rg, nm_Rg, rfl, rfl, Or.inl (gwm (lt2 152 rfl) rfl)⟩
theorem f_K_199 : fLk "ScopeKeeper" 199 5 2 := ⟨5, _, _, 6, rfl, rfl, by decide, rfl, ws_Rg, Or.inr ⟨"ScopeKeeper", gwm (lt2 153 rfl) rfl⟩⟩
theorem p_K_199 : fPk "ScopeKeeper" 199 5 2 (.object "ScopeKeeper$Worker") := ⟨5, _, _, 6, ty_Rg, rfl, rfl, by decide, rfl, ws_Rg, tyk_Rg, nm_Rg, rfl, rfl, Or.inr ⟨"ScopeKeeper", gwm (lt2 153 rfl) rfl⟩⟩
theorem f_Rg_17 : fLk "ScopeKeeper$Registration" 17 5 3 := ⟨5, _, _, 6, rfl, rfl, by decide, rfl, ws_Rg, Or.inl (gwm (lt2 154 rfl) rfl)⟩
theorem p_Rg_17 : fPk "ScopeKeeper$Registration" 17 5 3 (.object "ScopeKeeper$Worker") := ⟨5, _, _, 6, ty_Rg, rfl, rfl, by decide, rfl, ws_Rg, tyk_Rg, nm_Rg, rfl, rfl, Or.inl (gwm (lt2 154 rfl) rfl)⟩
theorem f_K_196 : fLk "ScopeKeeper" 196 5 3 := ⟨5, _, _, 6, rfl, rfl, by decide, rfl, ws_Rg, Or.inr ⟨"ScopeKeeper", gwm (lt2 155 rfl) rfl⟩⟩
theorem p_K_196 : fPk "ScopeKeeper" 196 5 3 (.object "ScopeKeeper$Worker") := ⟨5, _, _, 6, ty_Rg, rfl, rfl, by decide, rfl, ws_Rg, tyk_Rg, nm_Rg, rfl, rfl, Or.inr ⟨"ScopeKeeper", gwm (lt2 155 rfl) rfl⟩⟩
theorem f_Rg_20 : fLk "ScopeKeeper$Registration" 20 5 4 := ⟨5, _, _, 6, rfl, rfl, by decide, rfl, ws_Rg, Or.inl (gwm (lt2 156 rfl) rfl)⟩
theorem p_Rg_20 : fPk "ScopeKeeper$Registration" 20 5 4 (.object "ScopeKeeper$Worker") := ⟨5, _, _, 6, ty_Rg, rfl, rfl, by decide, rfl, ws_Rg, tyk_Rg, nm_Rg, rfl, rfl, Or.inl (gwm (lt2 156 rfl) rfl)⟩
theorem f_K_169 : fLk "ScopeKeeper" 169 5 4 := ⟨5, _, _, 6, rfl, rfl, by decide, rfl, ws_Rg, Or.inr ⟨"ScopeKeeper", gwm (lt2 157 rfl) rfl⟩⟩
theorem p_K_169 : fPk "ScopeKeeper" 169 5 4 (.object "ScopeKeeper$Worker") := ⟨5, _, _, 6, ty_Rg, rfl, rfl, by decide, rfl, ws_Rg, tyk_Rg, nm_Rg, rfl, rfl, Or.inr ⟨"ScopeKeeper", gwm (lt2 157 rfl) rfl⟩⟩
theorem f_Rg_23 : fLk "ScopeKeeper$Registration" 23 5 5 := ⟨5, _, _, 6, rfl, rfl, by decide, rfl, ws_Rg, Or.inl (gwm (lt2 158 rfl) rfl)⟩
theorem p_Rg_23 : fPk "ScopeKeeper$Registration" 23 5 5 (.boolean) := ⟨5, _, _, 6, ty_Rg, rfl, rfl, by decide, rfl, ws_Rg, tyk_Rg, nm_Rg, rfl, rfl, Or.inl (gwm (lt2 158 rfl) rfl)⟩
theorem f_K_236 : fLk "ScopeKeeper" 236 5 5 := ⟨5, _, _, 6, rfl, rfl, by decide, rfl, ws_Rg, Or.inr ⟨"ScopeKeeper", gwm (lt2 159 rfl) rfl⟩⟩
theorem p_K_236 : fPk "ScopeKeeper" 236 5 5 (.boolean) := ⟨5, _, _, 6, ty_Rg, rfl, rfl, by decide, rfl, ws_Rg, tyk_Rg, nm_Rg, rfl, rfl, Or.inr ⟨"ScopeKeeper", gwm (lt2 159 rfl) rfl⟩⟩
theorem f_Ca_9 : fLk "ScopeKeeper$Cache" 9 6 0 := ⟨6, _, _, 3, rfl, rfl, by decide, rfl, ws_Ca, Or.inl (gwm (lt2 192 rfl) rfl)⟩
theorem p_Ca_9 : fFk "ScopeKeeper$Cache" 9 6 0 (.array .int) := ⟨6, _, _, 3, ty_Ca, rfl, rfl, by decide, rfl, ws_Ca, tyk_Ca, nm_Ca, rfl, rfl, rfl, gwm (lt2 192 rfl) rfl⟩
theorem f_Ca_15 : fLk "ScopeKeeper$Cache" 15 6 1 := ⟨6, _, _, 3, rfl, rfl, by decide, rfl, ws_Ca, Or.inl (gwm (lt2 193 rfl) rfl)⟩
theorem p_Ca_15 : fFk "ScopeKeeper$Cache" 15 6 1 (.array .int) := ⟨6, _, _, 3, ty_Ca, rfl, rfl, by decide, rfl, ws_Ca, tyk_Ca, nm_Ca, rfl, rfl, rfl, gwm (lt2 193 rfl) rfl⟩
theorem f_Ca_18 : fLk "ScopeKeeper$Cache" 18 6 2 := ⟨6, _, _, 3, rfl, rfl, by decide, rfl, ws_Ca, Or.inl (gwm (lt2 194 rfl) rfl)⟩
theorem p_Ca_18 : fPk "ScopeKeeper$Cache" 18 6 2 (.int) := ⟨6, _, _, 3, ty_Ca, rfl, rfl, by decide, rfl, ws_Ca, tyk_Ca, nm_Ca, rfl, rfl, Or.inl (gwm (lt2 194 rfl) rfl)⟩
theorem f_K_254 : fLk "ScopeKeeper" 254 6 2 := ⟨6, _, _, 3, rfl, rfl, by decide, rfl, ws_Ca, Or.inr ⟨"ScopeKeeper", gwm (lt2 195 rfl) rfl⟩⟩
theorem p_K_254 : fPk "ScopeKeeper" 254 6 2 (.int) := ⟨6, _, _, 3, ty_Ca, rfl, rfl, by decide, rfl, ws_Ca, tyk_Ca, nm_Ca, rfl, rfl, Or.inr ⟨"ScopeKeeper", gwm (lt2 195 rfl) rfl⟩⟩
theorem f_Wk_26 : fLk "ScopeKeeper$Worker" 26 7 0 := ⟨7, _, _, 7, rfl, rfl, by decide, rfl, ws_Wk, Or.inl (gwm (lt2 203 rfl) rfl)⟩
theorem p_Wk_26 : fFk "ScopeKeeper$Worker" 26 7 0 (.int) := ⟨7, _, _, 7, ty_Wk, rfl, rfl, by decide, rfl, ws_Wk, tyk_Wk, nm_Wk, rfl, rfl, rfl, gwm (lt2 203 rfl) rfl⟩
theorem f_K_211 : fLk "ScopeKeeper" 211 7 0 := ⟨7, _, _, 7, rfl, rfl, by decide, rfl, ws_Wk, Or.inr ⟨"ScopeKeeper", gwm (lt2 204 rfl) rfl⟩⟩
theorem f_Wk_34 : fLk "ScopeKeeper$Worker" 34 7 1 := ⟨7, _, _, 7, rfl, rfl, by decide, rfl, ws_Wk, Or.inl (gwm (lt2 205 rfl) rfl)⟩
theorem p_Wk_34 : fFk "ScopeKeeper$Worker" 34 7 1 (.int) := ⟨7, _, _, 7, ty_Wk, rfl, rfl, by decide, rfl, ws_Wk, tyk_Wk, nm_Wk, rfl, rfl, rfl, gwm (lt2 205 rfl) rfl⟩
theorem f_K_216 : fLk "ScopeKeeper" 216 7 1 := ⟨7, _, _, 7, rfl, rfl, by decide, rfl, ws_Wk, Or.inr ⟨"ScopeKeeper", gwm (lt2 206 rfl) rfl⟩⟩
theorem f_Wk_38 : fLk "ScopeKeeper$Worker" 38 7 2 := ⟨7, _, _, 7, rfl, rfl, by decide, rfl, ws_Wk, Or.inl (gwm (lt2 207 rfl) rfl)⟩
theorem p_Wk_38 : fFk "ScopeKeeper$Worker" 38 7 2 (.int) := ⟨7, _, _, 7, ty_Wk, rfl, rfl, by decide, rfl, ws_Wk, tyk_Wk, nm_Wk, rfl, rfl, rfl, gwm (lt2 207 rfl) rfl⟩
theorem f_K_338 : fLk "ScopeKeeper" 338 7 2 := ⟨7, _, _, 7, rfl, rfl, by decide, rfl, ws_Wk, Or.inr ⟨"ScopeKeeper", gwm (lt2 208 rfl) rfl⟩⟩
theorem f_Wk_42 : fLk "ScopeKeeper$Worker" 42 7 3 := ⟨7, _, _, 7, rfl, rfl, by decide, rfl, ws_Wk, Or.inl (gwm (lt2 209 rfl) rfl)⟩
theorem p_Wk_42 : fFk "ScopeKeeper$Worker" 42 7 3 (.int) := ⟨7, _, _, 7, ty_Wk, rfl, rfl, by decide, rfl, ws_Wk, tyk_Wk, nm_Wk, rfl, rfl, rfl, gwm (lt2 209 rfl) rfl⟩
theorem f_K_212 : fLk "ScopeKeeper" 212 7 3 := ⟨7, _, _, 7, rfl, rfl, by decide, rfl, ws_Wk, Or.inr ⟨"ScopeKeeper", gwm (lt2 210 rfl) rfl⟩⟩
theorem f_Wk_12 : fLk "ScopeKeeper$Worker" 12 7 4 := ⟨7, _, _, 7, rfl, rfl, by decide, rfl, ws_Wk, Or.inl (gwm (lt2 211 rfl) rfl)⟩
theorem p_Wk_12 : fFk "ScopeKeeper$Worker" 12 7 4 (.object "ScopeKeeper$Cache") := ⟨7, _, _, 7, ty_Wk, rfl, rfl, by decide, rfl, ws_Wk, tyk_Wk, nm_Wk, rfl, rfl, rfl, gwm (lt2 211 rfl) rfl⟩
theorem f_K_217 : fLk "ScopeKeeper" 217 7 4 := ⟨7, _, _, 7, rfl, rfl, by decide, rfl, ws_Wk, Or.inr ⟨"ScopeKeeper", gwm (lt2 212 rfl) rfl⟩⟩
theorem f_Wk_18 : fLk "ScopeKeeper$Worker" 18 7 5 := ⟨7, _, _, 7, rfl, rfl, by decide, rfl, ws_Wk, Or.inl (gwm (lt2 213 rfl) rfl)⟩
theorem p_Wk_18 : fPk "ScopeKeeper$Worker" 18 7 5 (.int) := ⟨7, _, _, 7, ty_Wk, rfl, rfl, by decide, rfl, ws_Wk, tyk_Wk, nm_Wk, rfl, rfl, Or.inl (gwm (lt2 213 rfl) rfl)⟩
theorem f_K_248 : fLk "ScopeKeeper" 248 7 5 := ⟨7, _, _, 7, rfl, rfl, by decide, rfl, ws_Wk, Or.inr ⟨"ScopeKeeper", gwm (lt2 214 rfl) rfl⟩⟩
theorem p_K_248 : fPk "ScopeKeeper" 248 7 5 (.int) := ⟨7, _, _, 7, ty_Wk, rfl, rfl, by decide, rfl, ws_Wk, tyk_Wk, nm_Wk, rfl, rfl, Or.inr ⟨"ScopeKeeper", gwm (lt2 214 rfl) rfl⟩⟩
theorem f_Wk_22 : fLk "ScopeKeeper$Worker" 22 7 6 := ⟨7, _, _, 7, rfl, rfl, by decide, rfl, ws_Wk, Or.inl (gwm (lt2 215 rfl) rfl)⟩
theorem p_Wk_22 : fPk "ScopeKeeper$Worker" 22 7 6 (.boolean) := ⟨7, _, _, 7, ty_Wk, rfl, rfl, by decide, rfl, ws_Wk, tyk_Wk, nm_Wk, rfl, rfl, Or.inl (gwm (lt2 215 rfl) rfl)⟩
theorem f_K_204 : fLk "ScopeKeeper" 204 7 6 := ⟨7, _, _, 7, rfl, rfl, by decide, rfl, ws_Wk, Or.inr ⟨"ScopeKeeper", gwm (lt2 216 rfl) rfl⟩⟩
theorem p_K_204 : fPk "ScopeKeeper" 204 7 6 (.boolean) := ⟨7, _, _, 7, ty_Wk, rfl, rfl, by decide, rfl, ws_Wk, tyk_Wk, nm_Wk, rfl, rfl, Or.inr ⟨"ScopeKeeper", gwm (lt2 216 rfl) rfl⟩⟩
theorem n_Lw_8 : nLk "ScopeKeeperLaw" 8 0 12 := ⟨0, _, _, ty_K, rfl, rfl, ws_K, tyk_K, (fun j hj => by match j, hj with | 0, _ => rfl | 1, _ => rfl | 2, _ => rfl | 3, _ => rfl | 4, _ => rfl | 5, _ => rfl | 6, _ => rfl | 7, _ => rfl | 8, _ => rfl | 9, _ => rfl | 10, _ => rfl | 11, _ => rfl | j + 12, h => omega), gwm (lt1 18 rfl) rfl, gwm (lt1 19 rfl) rfl, gwm (lt1 1 rfl) rfl⟩
theorem n_K_9 : nLk "ScopeKeeper" 9 1 4 := ⟨1, _, _, ty_Sc, rfl, rfl, ws_Sc, tyk_Sc, (fun j hj => by match j, hj with | 0, _ => rfl | 1, _ => rfl | 2, _ => rfl | 3, _ => rfl | j + 4, h => omega), gwm (lt1 26 rfl) rfl, gwm (lt1 52 rfl) rfl, gwm (lt1 3 rfl) rfl⟩
theorem n_K_23 : nLk "ScopeKeeper" 23 7 7 := ⟨7, _, _, ty_Wk, rfl, rfl, ws_Wk, tyk_Wk, (fun j hj => by match j, hj with | 0, _ => rfl | 1, _ => rfl | 2, _ => rfl | 3, _ => rfl | 4, _ => rfl | 5, _ => rfl | 6, _ => rfl | j + 7, h => omega), gwm (lt1 28 rfl) rfl, gwm (lt2 181 rfl) rfl, gwm (lt1 14 rfl) rfl⟩
theorem n_K_32 : nLk "ScopeKeeper" 32 5 6 := ⟨5, _, _, ty_Rg, rfl, rfl, ws_Rg, tyk_Rg, (fun j hj => by match j, hj with | 0, _ => rfl | 1, _ => rfl | 2, _ => rfl | 3, _ => rfl | 4, _ => rfl | 5, _ => rfl | j + 6, h => omega), gwm (lt1 30 rfl) rfl, gwm (lt2 143 rfl) rfl, gwm (lt1 13 rfl) rfl⟩
theorem n_K_41 : nLk "ScopeKeeper" 41 2 3 := ⟨2, _, _, ty_Cl, rfl, rfl, ws_Cl, tyk_Cl, (fun j hj => by match j, hj with | 0, _ => rfl | 1, _ => rfl | 2, _ => rfl | j + 3, h => omega), gwm (lt1 32 rfl) rfl, gwm (lt1 77 rfl) rfl, gwm (lt1 4 rfl) rfl⟩
theorem n_K_50 : nLk "ScopeKeeper" 50 4 6 := ⟨4, _, _, ty_Jb, rfl, rfl, ws_Jb, tyk_Jb, (fun j hj => by match j, hj with | 0, _ => rfl | 1, _ => rfl | 2, _ => rfl | 3, _ => rfl | 4, _ => rfl | 5, _ => rfl | j + 6, h => omega), gwm (lt1 34 rfl) rfl, gwm (lt2 23 rfl) rfl, gwm (lt1 11 rfl) rfl⟩
theorem n_K_59 : nLk "ScopeKeeper" 59 3 2 := ⟨3, _, _, ty_Tr, rfl, rfl, ws_Tr, tyk_Tr, (fun j hj => by match j, hj with | 0, _ => rfl | 1, _ => rfl | j + 2, h => omega), gwm (lt1 36 rfl) rfl, gwm (lt1 37 rfl) rfl, gwm (lt1 2 rfl) rfl⟩
theorem n_Wk_9 : nLk "ScopeKeeper$Worker" 9 6 3 := ⟨6, _, _, ty_Ca, rfl, rfl, ws_Ca, tyk_Ca, (fun j hj => by match j, hj with | 0, _ => rfl | 1, _ => rfl | 2, _ => rfl | j + 3, h => omega), gwm (lt2 186 rfl) rfl, gwm (lt2 187 rfl) rfl, gwm (lt1 15 rfl) rfl⟩
theorem a_scripts : aLk 8 1 4 (.object "ScopeKeeper$Script") := ⟨rfl, by decide, fun _ => rfl⟩
theorem a_workers : aLk 9 2 40 (.object "ScopeKeeper$Worker") := ⟨rfl, by decide, fun _ => rfl⟩
theorem a_regs : aLk 10 3 5 (.object "ScopeKeeper$Registration") := ⟨rfl, by decide, fun _ => rfl⟩
theorem a_clients : aLk 11 4 8 (.object "ScopeKeeper$Client") := ⟨rfl, by decide, fun _ => rfl⟩
theorem a_from : aLk 12 2 8 (.object "ScopeKeeper$Worker") := ⟨rfl, by decide, fun _ => rfl⟩
theorem a_jobs : aLk 13 5 60 (.object "ScopeKeeper$Job") := ⟨rfl, by decide, fun _ => rfl⟩
theorem a_numbers : aLk 14 0 60 (.int) := ⟨rfl, by decide, fun _ => rfl⟩
theorem a_paths : aLk 15 0 4 (.int) := ⟨rfl, by decide, fun _ => rfl⟩
theorem a_values : aLk 16 0 4 (.int) := ⟨rfl, by decide, fun _ => rfl⟩
theorem a_out : aLk 17 6 1 (.long) := ⟨rfl, by decide, fun _ => rfl⟩
theorem c_Lw_62 : cLk "ScopeKeeperLaw" 62 y_K_init b_K_init 2 none 0 := ⟨Or.inl (gwm (lt1 20 rfl) rfl), gwm (lt1 1 rfl) rfl, gwm (lt1 22 rfl) rfl, by decide +kernel, by decide +kernel, by decide +kernel⟩
theorem c_K_61 : cLk "ScopeKeeper" 61 y_Tr_init b_Tr_init 1 none 0 := ⟨Or.inr ⟨"ScopeKeeper", gwm (lt1 38 rfl) rfl⟩, gwm (lt1 2 rfl) rfl, gwm (lt1 40 rfl) rfl, by decide +kernel, by decide +kernel, by decide +kernel⟩
theorem c_K_66 : cLk "ScopeKeeper" 66 y_Sc_init b_Sc_init 1 none 0 := ⟨Or.inr ⟨"ScopeKeeper", gwm (lt1 53 rfl) rfl⟩, gwm (lt1 3 rfl) rfl, gwm (lt1 55 rfl) rfl, by decide +kernel, by decide +kernel, by decide +kernel⟩
theorem c_K_67 : cLk "ScopeKeeper" 67 y_Cl_init b_Cl_init 1 none 0 := ⟨Or.inr ⟨"ScopeKeeper", gwm (lt1 78 rfl) rfl⟩, gwm (lt1 4 rfl) rfl, gwm (lt1 80 rfl) rfl, by decide +kernel, by decide +kernel, by decide +kernel⟩
theorem c_Lw_76 : cLk "ScopeKeeperLaw" 76 y_K_network b_K_network 4 (some FieldType.boolean) 2 := ⟨Or.inl (gwm (lt1 132 rfl) rfl), gwm (lt1 1 rfl) rfl, gwm (lt1 135 rfl) rfl, by decide +kernel, by decide +kernel, by decide +kernel⟩
theorem c_Lw_7 : cLk "ScopeKeeperLaw" 7 y_K_serve b_K_serve 7 none 5 := ⟨Or.inl (gwm (lt1 140 rfl) rfl), gwm (lt1 1 rfl) rfl, gwm (lt1 143 rfl) rfl, by decide +kernel, by decide +kernel, by decide +kernel⟩
theorem c_K_68 : cLk "ScopeKeeper" 68 y_K_isScript b_K_isScript 1 (some FieldType.boolean) 1 := ⟨Or.inl (gwm (lt1 144 rfl) rfl), gwm (lt1 1 rfl) rfl, gwm (lt1 146 rfl) rfl, by decide +kernel, by decide +kernel, by decide +kernel⟩
theorem c_K_72 : cLk "ScopeKeeper" 72 y_K_isPath b_K_isPath 3 (some FieldType.boolean) 1 := ⟨Or.inl (gwm (lt1 147 rfl) rfl), gwm (lt1 1 rfl) rfl, gwm (lt1 149 rfl) rfl, by decide +kernel, by decide +kernel, by decide +kernel⟩
theorem c_Lw_15 : cLk "ScopeKeeperLaw" 15 y_K_job b_K_job 7 (some FieldType.int) 3 := ⟨Or.inl (gwm (lt1 226 rfl) rfl), gwm (lt1 1 rfl) rfl, gwm (lt1 229 rfl) rfl, by decide +kernel, by decide +kernel, by decide +kernel⟩
theorem c_K_98 : cLk "ScopeKeeper" 98 y_K_refuseNoPath b_K_refuseNoPath 1 none 1 := ⟨Or.inl (gwm (lt1 231 rfl) rfl), gwm (lt1 1 rfl) rfl, gwm (lt1 233 rfl) rfl, by decide +kernel, by decide +kernel, by decide +kernel⟩
theorem c_K_104 : cLk "ScopeKeeper" 104 y_K_lastOfRow b_K_lastOfRow 3 (some (FieldType.object "ScopeKeeper$Job")) 1 := ⟨Or.inl (gwm (lt1 236 rfl) rfl), gwm (lt1 1 rfl) rfl, gwm (lt1 239 rfl) rfl, by decide +kernel, by decide +kernel, by decide +kernel⟩
theorem c_K_297 : cLk "ScopeKeeper" 297 y_K_isInRow b_K_isInRow 2 (some FieldType.boolean) 2 := ⟨Or.inl (gwm (lt2 0 rfl) rfl), gwm (lt1 1 rfl) rfl, gwm (lt2 2 rfl) rfl, by decide +kernel, by decide +kernel, by decide +kernel⟩
theorem c_K_120 : cLk "ScopeKeeper" 120 y_K_rowLength b_K_rowLength 4 (some FieldType.int) 1 := ⟨Or.inl (gwm (lt2 3 rfl) rfl), gwm (lt1 1 rfl) rfl, gwm (lt2 6 rfl) rfl, by decide +kernel, by decide +kernel, by decide +kernel⟩
theorem c_K_129 : cLk "ScopeKeeper" 129 y_Jb_init b_Jb_init 5 none 4 := ⟨Or.inl (gwm (lt2 24 rfl) rfl), gwm (lt1 11 rfl) rfl, gwm (lt2 26 rfl) rfl, by decide +kernel, by decide +kernel, by decide +kernel⟩
theorem c_Lw_21 : cLk "ScopeKeeperLaw" 21 y_K_step b_K_step 4 (some FieldType.int) 1 := ⟨Or.inl (gwm (lt2 57 rfl) rfl), gwm (lt1 1 rfl) rfl, gwm (lt2 60 rfl) rfl, by decide +kernel, by decide +kernel, by decide +kernel⟩
theorem c_K_132 : cLk "ScopeKeeper" 132 y_K_firstOfRow b_K_firstOfRow 3 (some (FieldType.object "ScopeKeeper$Job")) 1 := ⟨Or.inl (gwm (lt2 61 rfl) rfl), gwm (lt1 1 rfl) rfl, gwm (lt2 64 rfl) rfl, by decide +kernel, by decide +kernel, by decide +kernel⟩
theorem c_K_140 : cLk "ScopeKeeper" 140 y_K_finishInstall b_K_finishInstall 4 (some FieldType.int) 1 := ⟨Or.inl (gwm (lt2 81 rfl) rfl), gwm (lt1 1 rfl) rfl, gwm (lt2 84 rfl) rfl, by decide +kernel, by decide +kernel, by decide +kernel⟩
theorem c_K_286 : cLk "ScopeKeeper" 286 y_K_registrationOf b_K_registrationOf 3 (some (FieldType.object "ScopeKeeper$Registration")) 1 := ⟨Or.inl (gwm (lt2 85 rfl) rfl), gwm (lt1 1 rfl) rfl, gwm (lt2 88 rfl) rfl, by decide +kernel, by decide +kernel, by decide +kernel⟩
theorem c_K_334 : cLk "ScopeKeeper" 334 y_K_bring b_K_bring 3 none 2 := ⟨Or.inl (gwm (lt2 89 rfl) rfl), gwm (lt1 1 rfl) rfl, gwm (lt2 92 rfl) rfl, by decide +kernel, by decide +kernel, by decide +kernel⟩
theorem c_K_346 : cLk "ScopeKeeper" 346 y_Tr_workerComesTo b_Tr_workerComesTo 3 none 2 := ⟨Or.inl (gwm (lt2 93 rfl) rfl), gwm (lt1 2 rfl) rfl, gwm (lt2 96 rfl) rfl, by decide +kernel, by decide +kernel, by decide +kernel⟩
theorem c_Tr_19 : cLk "ScopeKeeper$Trace" 19 y_Tr_append b_Tr_append 2 none 1 := ⟨Or.inl (gwm (lt2 97 rfl) rfl), gwm (lt1 2 rfl) rfl, gwm (lt2 100 rfl) rfl, by decide +kernel, by decide +kernel, by decide +kernel⟩
theorem c_K_327 : cLk "ScopeKeeper" 327 y_Rg_newest b_Rg_newest 1 (some (FieldType.object "ScopeKeeper$Worker")) 0 := ⟨Or.inl (gwm (lt2 101 rfl) rfl), gwm (lt1 13 rfl) rfl, gwm (lt2 104 rfl) rfl, by decide +kernel, by decide +kernel, by decide +kernel⟩
theorem c_K_339 : cLk "ScopeKeeper" 339 y_K_removeRegistration b_K_removeRegistration 4 none 1 := ⟨Or.inl (gwm (lt2 105 rfl) rfl), gwm (lt1 1 rfl) rfl, gwm (lt2 108 rfl) rfl, by decide +kernel, by decide +kernel, by decide +kernel⟩
theorem c_K_207 : cLk "ScopeKeeper" 207 y_K_tryActivation b_K_tryActivation 5 none 1 := ⟨Or.inl (gwm (lt2 109 rfl) rfl), gwm (lt1 1 rfl) rfl, gwm (lt2 112 rfl) rfl, by decide +kernel, by decide +kernel, by decide +kernel⟩
theorem c_K_251 : cLk "ScopeKeeper" 251 y_K_controlledBy b_K_controlledBy 4 (some FieldType.int) 1 := ⟨Or.inl (gwm (lt2 113 rfl) rfl), gwm (lt1 1 rfl) rfl, gwm (lt2 116 rfl) rfl, by decide +kernel, by decide +kernel, by decide +kernel⟩
theorem c_K_192 : cLk "ScopeKeeper" 192 y_K_control b_K_control 3 none 2 := ⟨Or.inl (gwm (lt2 117 rfl) rfl), gwm (lt1 1 rfl) rfl, gwm (lt2 120 rfl) rfl, by decide +kernel, by decide +kernel, by decide +kernel⟩
theorem c_K_183 : cLk "ScopeKeeper" 183 y_K_numberOf b_K_numberOf 1 (some FieldType.int) 1 := ⟨Or.inl (gwm (lt2 121 rfl) rfl), gwm (lt1 1 rfl) rfl, gwm (lt2 123 rfl) rfl, by decide +kernel, by decide +kernel, by decide +kernel⟩
theorem c_K_349 : cLk "ScopeKeeper" 349 y_Tr_clientIsControlled b_Tr_clientIsControlled 3 none 2 := ⟨Or.inl (gwm (lt2 124 rfl) rfl), gwm (lt1 2 rfl) rfl, gwm (lt2 127 rfl) rfl, by decide +kernel, by decide +kernel, by decide +kernel⟩
theorem c_K_143 : cLk "ScopeKeeper" 143 y_K_beginJob b_K_beginJob 2 (some FieldType.int) 1 := ⟨Or.inl (gwm (lt2 128 rfl) rfl), gwm (lt1 1 rfl) rfl, gwm (lt2 131 rfl) rfl, by decide +kernel, by decide +kernel, by decide +kernel⟩
theorem c_K_301 : cLk "ScopeKeeper" 301 y_K_beginRegister b_K_beginRegister 4 (some FieldType.int) 1 := ⟨Or.inl (gwm (lt2 132 rfl) rfl), gwm (lt1 1 rfl) rfl, gwm (lt2 135 rfl) rfl, by decide +kernel, by decide +kernel, by decide +kernel⟩
theorem c_K_310 : cLk "ScopeKeeper" 310 y_K_begins b_K_begins 5 (some FieldType.boolean) 2 := ⟨Or.inl (gwm (lt2 136 rfl) rfl), gwm (lt1 1 rfl) rfl, gwm (lt2 138 rfl) rfl, by decide +kernel, by decide +kernel, by decide +kernel⟩
theorem c_K_314 : cLk "ScopeKeeper" 314 y_K_addRegistration b_K_addRegistration 3 (some (FieldType.object "ScopeKeeper$Registration")) 1 := ⟨Or.inl (gwm (lt2 139 rfl) rfl), gwm (lt1 1 rfl) rfl, gwm (lt2 142 rfl) rfl, by decide +kernel, by decide +kernel, by decide +kernel⟩
theorem c_K_352 : cLk "ScopeKeeper" 352 y_Rg_init b_Rg_init 2 none 1 := ⟨Or.inl (gwm (lt2 144 rfl) rfl), gwm (lt1 13 rfl) rfl, gwm (lt2 146 rfl) rfl, by decide +kernel, by decide +kernel, by decide +kernel⟩
theorem c_K_317 : cLk "ScopeKeeper" 317 y_K_isUpToDate b_K_isUpToDate 3 (some FieldType.boolean) 1 := ⟨Or.inl (gwm (lt2 173 rfl) rfl), gwm (lt1 1 rfl) rfl, gwm (lt2 176 rfl) rfl, by decide +kernel, by decide +kernel, by decide +kernel⟩
theorem c_K_321 : cLk "ScopeKeeper" 321 y_K_beginInstall b_K_beginInstall 3 none 1 := ⟨Or.inl (gwm (lt2 177 rfl) rfl), gwm (lt1 1 rfl) rfl, gwm (lt2 180 rfl) rfl, by decide +kernel, by decide +kernel, by decide +kernel⟩
theorem c_K_331 : cLk "ScopeKeeper" 331 y_Wk_init b_Wk_init 3 none 2 := ⟨Or.inl (gwm (lt2 182 rfl) rfl), gwm (lt1 14 rfl) rfl, gwm (lt2 184 rfl) rfl, by decide +kernel, by decide +kernel, by decide +kernel⟩
theorem c_Wk_11 : cLk "ScopeKeeper$Worker" 11 y_Ca_init b_Ca_init 1 none 0 := ⟨Or.inr ⟨"ScopeKeeper", gwm (lt2 188 rfl) rfl⟩, gwm (lt1 15 rfl) rfl, gwm (lt2 190 rfl) rfl, by decide +kernel, by decide +kernel, by decide +kernel⟩
theorem c_K_304 : cLk "ScopeKeeper" 304 y_K_beginUpdate b_K_beginUpdate 3 (some FieldType.int) 1 := ⟨Or.inl (gwm (lt2 232 rfl) rfl), gwm (lt1 1 rfl) rfl, gwm (lt2 235 rfl) rfl, by decide +kernel, by decide +kernel, by decide +kernel⟩
theorem c_K_307 : cLk "ScopeKeeper" 307 y_K_unregister b_K_unregister 3 (some FieldType.int) 1 := ⟨Or.inl (gwm (lt2 236 rfl) rfl), gwm (lt1 1 rfl) rfl, gwm (lt2 239 rfl) rfl, by decide +kernel, by decide +kernel, by decide +kernel⟩
theorem c_K_324 : cLk "ScopeKeeper" 324 y_K_tryClearing b_K_tryClearing 2 (some FieldType.boolean) 1 := ⟨Or.inl (gwm (lt3 0 rfl) rfl), gwm (lt1 1 rfl) rfl, gwm (lt3 3 rfl) rfl, by decide +kernel, by decide +kernel, by decide +kernel⟩
theorem c_K_150 : cLk "ScopeKeeper" 150 y_Tr_jobEnds b_Tr_jobEnds 2 none 1 := ⟨Or.inl (gwm (lt3 4 rfl) rfl), gwm (lt1 2 rfl) rfl, gwm (lt3 7 rfl) rfl, by decide +kernel, by decide +kernel, by decide +kernel⟩
theorem c_Lw_27 : cLk "ScopeKeeperLaw" 27 y_K_open b_K_open 5 (some FieldType.int) 1 := ⟨Or.inl (gwm (lt3 11 rfl) rfl), gwm (lt1 1 rfl) rfl, gwm (lt3 14 rfl) rfl, by decide +kernel, by decide +kernel, by decide +kernel⟩
theorem c_K_153 : cLk "ScopeKeeper" 153 y_K_leastFreeClient b_K_leastFreeClient 2 (some FieldType.int) 0 := ⟨Or.inl (gwm (lt3 15 rfl) rfl), gwm (lt1 1 rfl) rfl, gwm (lt3 18 rfl) rfl, by decide +kernel, by decide +kernel, by decide +kernel⟩
theorem c_K_159 : cLk "ScopeKeeper" 159 y_K_registrationFor b_K_registrationFor 6 (some (FieldType.object "ScopeKeeper$Registration")) 1 := ⟨Or.inl (gwm (lt3 20 rfl) rfl), gwm (lt1 1 rfl) rfl, gwm (lt3 23 rfl) rfl, by decide +kernel, by decide +kernel, by decide +kernel⟩
theorem c_Lw_30 : cLk "ScopeKeeperLaw" 30 y_K_close b_K_close 4 (some FieldType.int) 1 := ⟨Or.inl (gwm (lt3 27 rfl) rfl), gwm (lt1 1 rfl) rfl, gwm (lt3 30 rfl) rfl, by decide +kernel, by decide +kernel, by decide +kernel⟩
theorem c_K_176 : cLk "ScopeKeeper" 176 y_K_refuseNoClient b_K_refuseNoClient 2 none 1 := ⟨Or.inl (gwm (lt3 31 rfl) rfl), gwm (lt1 1 rfl) rfl, gwm (lt3 34 rfl) rfl, by decide +kernel, by decide +kernel, by decide +kernel⟩
theorem c_K_179 : cLk "ScopeKeeper" 179 y_K_settleAfterLoss b_K_settleAfterLoss 3 none 1 := ⟨Or.inl (gwm (lt3 36 rfl) rfl), gwm (lt1 1 rfl) rfl, gwm (lt3 39 rfl) rfl, by decide +kernel, by decide +kernel, by decide +kernel⟩
theorem c_K_342 : cLk "ScopeKeeper" 342 y_K_registrationWithActive b_K_registrationWithActive 3 (some (FieldType.object "ScopeKeeper$Registration")) 1 := ⟨Or.inl (gwm (lt3 40 rfl) rfl), gwm (lt1 1 rfl) rfl, gwm (lt3 43 rfl) rfl, by decide +kernel, by decide +kernel, by decide +kernel⟩
theorem c_Lw_33 : cLk "ScopeKeeperLaw" 33 y_K_claim b_K_claim 6 (some FieldType.int) 1 := ⟨Or.inl (gwm (lt3 47 rfl) rfl), gwm (lt1 1 rfl) rfl, gwm (lt3 50 rfl) rfl, by decide +kernel, by decide +kernel, by decide +kernel⟩
theorem c_K_187 : cLk "ScopeKeeper" 187 y_K_needRegistration b_K_needRegistration 3 (some (FieldType.object "ScopeKeeper$Registration")) 1 := ⟨Or.inl (gwm (lt3 51 rfl) rfl), gwm (lt1 1 rfl) rfl, gwm (lt3 54 rfl) rfl, by decide +kernel, by decide +kernel, by decide +kernel⟩
theorem c_Lw_36 : cLk "ScopeKeeperLaw" 36 y_K_skip b_K_skip 4 (some FieldType.int) 1 := ⟨Or.inl (gwm (lt3 60 rfl) rfl), gwm (lt1 1 rfl) rfl, gwm (lt3 63 rfl) rfl, by decide +kernel, by decide +kernel, by decide +kernel⟩
theorem c_Lw_39 : cLk "ScopeKeeperLaw" 39 y_K_fetch b_K_fetch 8 (some FieldType.int) 2 := ⟨Or.inl (gwm (lt3 69 rfl) rfl), gwm (lt1 1 rfl) rfl, gwm (lt3 72 rfl) rfl, by decide +kernel, by decide +kernel, by decide +kernel⟩
theorem c_K_213 : cLk "ScopeKeeper" 213 y_K_networkAnswer b_K_networkAnswer 2 (some FieldType.int) 1 := ⟨Or.inl (gwm (lt3 73 rfl) rfl), gwm (lt1 1 rfl) rfl, gwm (lt3 76 rfl) rfl, by decide +kernel, by decide +kernel, by decide +kernel⟩
theorem c_K_221 : cLk "ScopeKeeper" 221 y_Ca_has b_Ca_has 2 (some FieldType.boolean) 1 := ⟨Or.inl (gwm (lt3 93 rfl) rfl), gwm (lt1 15 rfl) rfl, gwm (lt3 96 rfl) rfl, by decide +kernel, by decide +kernel, by decide +kernel⟩
theorem c_Ca_22 : cLk "ScopeKeeper$Cache" 22 y_Ca_placeOf b_Ca_placeOf 3 (some FieldType.int) 1 := ⟨Or.inl (gwm (lt3 97 rfl) rfl), gwm (lt1 15 rfl) rfl, gwm (lt3 100 rfl) rfl, by decide +kernel, by decide +kernel, by decide +kernel⟩
theorem c_K_226 : cLk "ScopeKeeper" 226 y_Ca_valueOf b_Ca_valueOf 2 (some FieldType.int) 1 := ⟨Or.inl (gwm (lt3 101 rfl) rfl), gwm (lt1 15 rfl) rfl, gwm (lt3 104 rfl) rfl, by decide +kernel, by decide +kernel, by decide +kernel⟩
theorem c_Ca_26 : cLk "ScopeKeeper$Cache" 26 y_Ca_valueAt b_Ca_valueAt 2 (some FieldType.int) 1 := ⟨Or.inl (gwm (lt3 105 rfl) rfl), gwm (lt1 15 rfl) rfl, gwm (lt3 108 rfl) rfl, by decide +kernel, by decide +kernel, by decide +kernel⟩
theorem c_K_229 : cLk "ScopeKeeper" 229 y_Ca_keep b_Ca_keep 3 none 2 := ⟨Or.inl (gwm (lt3 109 rfl) rfl), gwm (lt1 15 rfl) rfl, gwm (lt3 112 rfl) rfl, by decide +kernel, by decide +kernel, by decide +kernel⟩
theorem c_Ca_29 : cLk "ScopeKeeper$Cache" 29 y_Ca_has b_Ca_has 2 (some FieldType.boolean) 1 := ⟨Or.inl (gwm (lt3 113 rfl) rfl), gwm (lt1 15 rfl) rfl, gwm (lt3 96 rfl) rfl, by decide +kernel, by decide +kernel, by decide +kernel⟩
theorem c_Ca_33 : cLk "ScopeKeeper$Cache" 33 y_Ca_drop b_Ca_drop 3 none 1 := ⟨Or.inl (gwm (lt3 114 rfl) rfl), gwm (lt1 15 rfl) rfl, gwm (lt3 117 rfl) rfl, by decide +kernel, by decide +kernel, by decide +kernel⟩
theorem c_Lw_45 : cLk "ScopeKeeperLaw" 45 y_K_registration b_K_registration 4 (some FieldType.int) 2 := ⟨Or.inl (gwm (lt3 121 rfl) rfl), gwm (lt1 1 rfl) rfl, gwm (lt3 124 rfl) rfl, by decide +kernel, by decide +kernel, by decide +kernel⟩
theorem c_Lw_48 : cLk "ScopeKeeperLaw" 48 y_K_worker b_K_worker 6 (some FieldType.int) 2 := ⟨Or.inl (gwm (lt3 130 rfl) rfl), gwm (lt1 1 rfl) rfl, gwm (lt3 133 rfl) rfl, by decide +kernel, by decide +kernel, by decide +kernel⟩
theorem c_K_239 : cLk "ScopeKeeper" 239 y_K_isWithin b_K_isWithin 3 (some FieldType.boolean) 3 := ⟨Or.inl (gwm (lt3 134 rfl) rfl), gwm (lt1 1 rfl) rfl, gwm (lt3 136 rfl) rfl, by decide +kernel, by decide +kernel, by decide +kernel⟩
theorem c_K_257 : cLk "ScopeKeeper" 257 y_Ca_pathAt b_Ca_pathAt 2 (some FieldType.int) 1 := ⟨Or.inl (gwm (lt3 153 rfl) rfl), gwm (lt1 15 rfl) rfl, gwm (lt3 156 rfl) rfl, by decide +kernel, by decide +kernel, by decide +kernel⟩
theorem c_K_260 : cLk "ScopeKeeper" 260 y_Ca_valueAt b_Ca_valueAt 2 (some FieldType.int) 1 := ⟨Or.inl (gwm (lt3 157 rfl) rfl), gwm (lt1 15 rfl) rfl, gwm (lt3 108 rfl) rfl, by decide +kernel, by decide +kernel, by decide +kernel⟩
theorem c_Lw_53 : cLk "ScopeKeeperLaw" 53 y_K_outcome b_K_outcome 2 (some FieldType.int) 1 := ⟨Or.inl (gwm (lt3 161 rfl) rfl), gwm (lt1 1 rfl) rfl, gwm (lt3 164 rfl) rfl, by decide +kernel, by decide +kernel, by decide +kernel⟩
theorem c_Lw_56 : cLk "ScopeKeeperLaw" 56 y_K_trace b_K_trace 2 (some FieldType.int) 1 := ⟨Or.inl (gwm (lt3 169 rfl) rfl), gwm (lt1 1 rfl) rfl, gwm (lt3 172 rfl) rfl, by decide +kernel, by decide +kernel, by decide +kernel⟩
theorem c_Lw_59 : cLk "ScopeKeeperLaw" 59 y_K_count b_K_count 3 (some FieldType.int) 1 := ⟨Or.inl (gwm (lt3 177 rfl) rfl), gwm (lt1 1 rfl) rfl, gwm (lt3 180 rfl) rfl, by decide +kernel, by decide +kernel, by decide +kernel⟩
theorem c_K_275 : cLk "ScopeKeeper" 275 y_K_clientsThere b_K_clientsThere 3 (some FieldType.int) 0 := ⟨Or.inl (gwm (lt3 181 rfl) rfl), gwm (lt1 1 rfl) rfl, gwm (lt3 184 rfl) rfl, by decide +kernel, by decide +kernel, by decide +kernel⟩
theorem c_K_278 : cLk "ScopeKeeper" 278 y_K_jobsNotEnded b_K_jobsNotEnded 3 (some FieldType.int) 0 := ⟨Or.inl (gwm (lt3 185 rfl) rfl), gwm (lt1 1 rfl) rfl, gwm (lt3 188 rfl) rfl, by decide +kernel, by decide +kernel, by decide +kernel⟩
theorem v_K_init : y_K_init.name = "<init>" ∧ Cond.instanceMethod y_K_init ∈ gw := ⟨rfl, gwm (lt1 21 rfl) rfl⟩
theorem v_K_serve : Cond.instanceMethod y_K_serve ∈ gw ∧ Cond.selects y_K_serve.cls y_K_serve y_K_serve ∈ gw := ⟨gwm (lt1 141 rfl) rfl, gwm (lt1 142 rfl) rfl⟩
theorem v_K_network : Cond.instanceMethod y_K_network ∈ gw ∧ Cond.selects y_K_network.cls y_K_network y_K_network ∈ gw := ⟨gwm (lt1 133 rfl) rfl, gwm (lt1 134 rfl) rfl⟩
theorem v_K_job : Cond.instanceMethod y_K_job ∈ gw ∧ Cond.selects y_K_job.cls y_K_job y_K_job ∈ gw := ⟨gwm (lt1 227 rfl) rfl, gwm (lt1 228 rfl) rfl⟩
theorem v_K_step : Cond.instanceMethod y_K_step ∈ gw ∧ Cond.selects y_K_step.cls y_K_step y_K_step ∈ gw := ⟨gwm (lt2 58 rfl) rfl, gwm (lt2 59 rfl) rfl⟩
theorem v_K_open : Cond.instanceMethod y_K_open ∈ gw ∧ Cond.selects y_K_open.cls y_K_open y_K_open ∈ gw := ⟨gwm (lt3 12 rfl) rfl, gwm (lt3 13 rfl) rfl⟩
theorem v_K_close : Cond.instanceMethod y_K_close ∈ gw ∧ Cond.selects y_K_close.cls y_K_close y_K_close ∈ gw := ⟨gwm (lt3 28 rfl) rfl, gwm (lt3 29 rfl) rfl⟩
theorem v_K_claim : Cond.instanceMethod y_K_claim ∈ gw ∧ Cond.selects y_K_claim.cls y_K_claim y_K_claim ∈ gw := ⟨gwm (lt3 48 rfl) rfl, gwm (lt3 49 rfl) rfl⟩
theorem v_K_skip : Cond.instanceMethod y_K_skip ∈ gw ∧ Cond.selects y_K_skip.cls y_K_skip y_K_skip ∈ gw := ⟨gwm (lt3 61 rfl) rfl, gwm (lt3 62 rfl) rfl⟩
theorem v_K_fetch : Cond.instanceMethod y_K_fetch ∈ gw ∧ Cond.selects y_K_fetch.cls y_K_fetch y_K_fetch ∈ gw := ⟨gwm (lt3 70 rfl) rfl, gwm (lt3 71 rfl) rfl⟩
theorem v_K_registration : Cond.instanceMethod y_K_registration ∈ gw ∧ Cond.selects y_K_registration.cls y_K_registration y_K_registration ∈ gw := ⟨gwm (lt3 122 rfl) rfl, gwm (lt3 123 rfl) rfl⟩
theorem v_K_worker : Cond.instanceMethod y_K_worker ∈ gw ∧ Cond.selects y_K_worker.cls y_K_worker y_K_worker ∈ gw := ⟨gwm (lt3 131 rfl) rfl, gwm (lt3 132 rfl) rfl⟩
theorem v_K_outcome : Cond.instanceMethod y_K_outcome ∈ gw ∧ Cond.selects y_K_outcome.cls y_K_outcome y_K_outcome ∈ gw := ⟨gwm (lt3 162 rfl) rfl, gwm (lt3 163 rfl) rfl⟩
theorem v_K_trace : Cond.instanceMethod y_K_trace ∈ gw ∧ Cond.selects y_K_trace.cls y_K_trace y_K_trace ∈ gw := ⟨gwm (lt3 170 rfl) rfl, gwm (lt3 171 rfl) rfl⟩
theorem v_K_count : Cond.instanceMethod y_K_count ∈ gw ∧ Cond.selects y_K_count.cls y_K_count y_K_count ∈ gw := ⟨gwm (lt3 178 rfl) rfl, gwm (lt3 179 rfl) rfl⟩
theorem v_K_isWithin : Cond.static y_K_isWithin ∈ gw := gwm (lt3 135 rfl) rfl
theorem v_K_isScript : Cond.static y_K_isScript ∈ gw := gwm (lt1 145 rfl) rfl
theorem v_K_isPath : Cond.static y_K_isPath ∈ gw := gwm (lt1 148 rfl) rfl
theorem v_K_begins : Cond.static y_K_begins ∈ gw := gwm (lt2 137 rfl) rfl
theorem v_K_refuseNoPath : Cond.static y_K_refuseNoPath ∈ gw := gwm (lt1 232 rfl) rfl
theorem v_K_refuseNoClient : Cond.instanceMethod y_K_refuseNoClient ∈ gw ∧ Cond.selects y_K_refuseNoClient.cls y_K_refuseNoClient y_K_refuseNoClient ∈ gw := ⟨gwm (lt3 33 rfl) rfl, gwm (lt0 22 rfl) rfl⟩
theorem v_K_needRegistration : Cond.instanceMethod y_K_needRegistration ∈ gw ∧ Cond.selects y_K_needRegistration.cls y_K_needRegistration y_K_needRegistration ∈ gw := ⟨gwm (lt3 53 rfl) rfl, gwm (lt0 25 rfl) rfl⟩
theorem v_K_networkAnswer : Cond.instanceMethod y_K_networkAnswer ∈ gw ∧ Cond.selects y_K_networkAnswer.cls y_K_networkAnswer y_K_networkAnswer ∈ gw := ⟨gwm (lt3 75 rfl) rfl, gwm (lt0 26 rfl) rfl⟩
theorem v_K_isInRow : Cond.static y_K_isInRow ∈ gw := gwm (lt2 1 rfl) rfl
theorem v_K_firstOfRow : Cond.instanceMethod y_K_firstOfRow ∈ gw ∧ Cond.selects y_K_firstOfRow.cls y_K_firstOfRow y_K_firstOfRow ∈ gw := ⟨gwm (lt2 63 rfl) rfl, gwm (lt0 3 rfl) rfl⟩
theorem v_K_lastOfRow : Cond.instanceMethod y_K_lastOfRow ∈ gw ∧ Cond.selects y_K_lastOfRow.cls y_K_lastOfRow y_K_lastOfRow ∈ gw := ⟨gwm (lt1 238 rfl) rfl, gwm (lt0 1 rfl) rfl⟩
theorem v_K_rowLength : Cond.instanceMethod y_K_rowLength ∈ gw ∧ Cond.selects y_K_rowLength.cls y_K_rowLength y_K_rowLength ∈ gw := ⟨gwm (lt2 5 rfl) rfl, gwm (lt0 2 rfl) rfl⟩
theorem v_K_jobsNotEnded : Cond.instanceMethod y_K_jobsNotEnded ∈ gw ∧ Cond.selects y_K_jobsNotEnded.cls y_K_jobsNotEnded y_K_jobsNotEnded ∈ gw := ⟨gwm (lt3 187 rfl) rfl, gwm (lt0 30 rfl) rfl⟩
theorem v_K_beginJob : Cond.instanceMethod y_K_beginJob ∈ gw ∧ Cond.selects y_K_beginJob.cls y_K_beginJob y_K_beginJob ∈ gw := ⟨gwm (lt2 130 rfl) rfl, gwm (lt0 12 rfl) rfl⟩
theorem v_K_beginRegister : Cond.instanceMethod y_K_beginRegister ∈ gw ∧ Cond.selects y_K_beginRegister.cls y_K_beginRegister y_K_beginRegister ∈ gw := ⟨gwm (lt2 134 rfl) rfl, gwm (lt0 13 rfl) rfl⟩
theorem v_K_beginUpdate : Cond.instanceMethod y_K_beginUpdate ∈ gw ∧ Cond.selects y_K_beginUpdate.cls y_K_beginUpdate y_K_beginUpdate ∈ gw := ⟨gwm (lt2 234 rfl) rfl, gwm (lt0 17 rfl) rfl⟩
theorem v_K_unregister : Cond.instanceMethod y_K_unregister ∈ gw ∧ Cond.selects y_K_unregister.cls y_K_unregister y_K_unregister ∈ gw := ⟨gwm (lt2 238 rfl) rfl, gwm (lt0 18 rfl) rfl⟩
theorem v_K_isUpToDate : Cond.instanceMethod y_K_isUpToDate ∈ gw ∧ Cond.selects y_K_isUpToDate.cls y_K_isUpToDate y_K_isUpToDate ∈ gw := ⟨gwm (lt2 175 rfl) rfl, gwm (lt0 15 rfl) rfl⟩
theorem v_K_beginInstall : Cond.instanceMethod y_K_beginInstall ∈ gw ∧ Cond.selects y_K_beginInstall.cls y_K_beginInstall y_K_beginInstall ∈ gw := ⟨gwm (lt2 179 rfl) rfl, gwm (lt0 16 rfl) rfl⟩
theorem v_K_finishInstall : Cond.instanceMethod y_K_finishInstall ∈ gw ∧ Cond.selects y_K_finishInstall.cls y_K_finishInstall y_K_finishInstall ∈ gw := ⟨gwm (lt2 83 rfl) rfl, gwm (lt0 4 rfl) rfl⟩
theorem v_K_tryActivation : Cond.instanceMethod y_K_tryActivation ∈ gw ∧ Cond.selects y_K_tryActivation.cls y_K_tryActivation y_K_tryActivation ∈ gw := ⟨gwm (lt2 111 rfl) rfl, gwm (lt0 9 rfl) rfl⟩
theorem v_K_tryClearing : Cond.instanceMethod y_K_tryClearing ∈ gw ∧ Cond.selects y_K_tryClearing.cls y_K_tryClearing y_K_tryClearing ∈ gw := ⟨gwm (lt3 2 rfl) rfl, gwm (lt0 19 rfl) rfl⟩
theorem v_K_settleAfterLoss : Cond.instanceMethod y_K_settleAfterLoss ∈ gw ∧ Cond.selects y_K_settleAfterLoss.cls y_K_settleAfterLoss y_K_settleAfterLoss ∈ gw := ⟨gwm (lt3 38 rfl) rfl, gwm (lt0 23 rfl) rfl⟩
theorem v_K_numberOf : Cond.static y_K_numberOf ∈ gw := gwm (lt2 122 rfl) rfl
theorem v_K_bring : Cond.instanceMethod y_K_bring ∈ gw ∧ Cond.selects y_K_bring.cls y_K_bring y_K_bring ∈ gw := ⟨gwm (lt2 91 rfl) rfl, gwm (lt0 6 rfl) rfl⟩
theorem v_K_control : Cond.instanceMethod y_K_control ∈ gw ∧ Cond.selects y_K_control.cls y_K_control y_K_control ∈ gw := ⟨gwm (lt2 119 rfl) rfl, gwm (lt0 11 rfl) rfl⟩
theorem v_K_controlledBy : Cond.instanceMethod y_K_controlledBy ∈ gw ∧ Cond.selects y_K_controlledBy.cls y_K_controlledBy y_K_controlledBy ∈ gw := ⟨gwm (lt2 115 rfl) rfl, gwm (lt0 10 rfl) rfl⟩
theorem v_K_clientsThere : Cond.instanceMethod y_K_clientsThere ∈ gw ∧ Cond.selects y_K_clientsThere.cls y_K_clientsThere y_K_clientsThere ∈ gw := ⟨gwm (lt3 183 rfl) rfl, gwm (lt0 29 rfl) rfl⟩
theorem v_K_leastFreeClient : Cond.instanceMethod y_K_leastFreeClient ∈ gw ∧ Cond.selects y_K_leastFreeClient.cls y_K_leastFreeClient y_K_leastFreeClient ∈ gw := ⟨gwm (lt3 17 rfl) rfl, gwm (lt0 20 rfl) rfl⟩
theorem v_K_registrationOf : Cond.instanceMethod y_K_registrationOf ∈ gw ∧ Cond.selects y_K_registrationOf.cls y_K_registrationOf y_K_registrationOf ∈ gw := ⟨gwm (lt2 87 rfl) rfl, gwm (lt0 5 rfl) rfl⟩
theorem v_K_registrationFor : Cond.instanceMethod y_K_registrationFor ∈ gw ∧ Cond.selects y_K_registrationFor.cls y_K_registrationFor y_K_registrationFor ∈ gw := ⟨gwm (lt3 22 rfl) rfl, gwm (lt0 21 rfl) rfl⟩
theorem v_K_registrationWithActive : Cond.instanceMethod y_K_registrationWithActive ∈ gw ∧ Cond.selects y_K_registrationWithActive.cls y_K_registrationWithActive y_K_registrationWithActive ∈ gw := ⟨gwm (lt3 42 rfl) rfl, gwm (lt0 24 rfl) rfl⟩
theorem v_K_addRegistration : Cond.instanceMethod y_K_addRegistration ∈ gw ∧ Cond.selects y_K_addRegistration.cls y_K_addRegistration y_K_addRegistration ∈ gw := ⟨gwm (lt2 141 rfl) rfl, gwm (lt0 14 rfl) rfl⟩
theorem v_K_removeRegistration : Cond.instanceMethod y_K_removeRegistration ∈ gw ∧ Cond.selects y_K_removeRegistration.cls y_K_removeRegistration y_K_removeRegistration ∈ gw := ⟨gwm (lt2 107 rfl) rfl, gwm (lt0 8 rfl) rfl⟩
theorem v_Ca_init : y_Ca_init.name = "<init>" ∧ Cond.instanceMethod y_Ca_init ∈ gw := ⟨rfl, gwm (lt2 189 rfl) rfl⟩
theorem v_Ca_placeOf : Cond.instanceMethod y_Ca_placeOf ∈ gw ∧ Cond.selects y_Ca_placeOf.cls y_Ca_placeOf y_Ca_placeOf ∈ gw := ⟨gwm (lt3 99 rfl) rfl, gwm (lt0 27 rfl) rfl⟩
theorem v_Ca_has : Cond.instanceMethod y_Ca_has ∈ gw ∧ Cond.selects y_Ca_has.cls y_Ca_has y_Ca_has ∈ gw := ⟨gwm (lt3 94 rfl) rfl, gwm (lt3 95 rfl) rfl⟩
theorem v_Ca_valueOf : Cond.instanceMethod y_Ca_valueOf ∈ gw ∧ Cond.selects y_Ca_valueOf.cls y_Ca_valueOf y_Ca_valueOf ∈ gw := ⟨gwm (lt3 102 rfl) rfl, gwm (lt3 103 rfl) rfl⟩
theorem v_Ca_pathAt : Cond.instanceMethod y_Ca_pathAt ∈ gw ∧ Cond.selects y_Ca_pathAt.cls y_Ca_pathAt y_Ca_pathAt ∈ gw := ⟨gwm (lt3 154 rfl) rfl, gwm (lt3 155 rfl) rfl⟩
theorem v_Ca_valueAt : Cond.instanceMethod y_Ca_valueAt ∈ gw ∧ Cond.selects y_Ca_valueAt.cls y_Ca_valueAt y_Ca_valueAt ∈ gw := ⟨gwm (lt3 106 rfl) rfl, gwm (lt3 107 rfl) rfl⟩
theorem v_Ca_keep : Cond.instanceMethod y_Ca_keep ∈ gw ∧ Cond.selects y_Ca_keep.cls y_Ca_keep y_Ca_keep ∈ gw := ⟨gwm (lt3 110 rfl) rfl, gwm (lt3 111 rfl) rfl⟩
theorem v_Ca_drop : Cond.instanceMethod y_Ca_drop ∈ gw ∧ Cond.selects y_Ca_drop.cls y_Ca_drop y_Ca_drop ∈ gw := ⟨gwm (lt3 116 rfl) rfl, gwm (lt0 28 rfl) rfl⟩
theorem v_Cl_init : y_Cl_init.name = "<init>" ∧ Cond.instanceMethod y_Cl_init ∈ gw := ⟨rfl, gwm (lt1 79 rfl) rfl⟩
theorem v_Jb_init : y_Jb_init.name = "<init>" ∧ Cond.instanceMethod y_Jb_init ∈ gw := ⟨rfl, gwm (lt2 25 rfl) rfl⟩
theorem v_Rg_init : y_Rg_init.name = "<init>" ∧ Cond.instanceMethod y_Rg_init ∈ gw := ⟨rfl, gwm (lt2 145 rfl) rfl⟩
theorem v_Rg_newest : Cond.instanceMethod y_Rg_newest ∈ gw ∧ Cond.selects y_Rg_newest.cls y_Rg_newest y_Rg_newest ∈ gw := ⟨gwm (lt2 102 rfl) rfl, gwm (lt2 103 rfl) rfl⟩
theorem v_Sc_init : y_Sc_init.name = "<init>" ∧ Cond.instanceMethod y_Sc_init ∈ gw := ⟨rfl, gwm (lt1 54 rfl) rfl⟩
theorem v_Tr_init : y_Tr_init.name = "<init>" ∧ Cond.instanceMethod y_Tr_init ∈ gw := ⟨rfl, gwm (lt1 39 rfl) rfl⟩
theorem v_Tr_workerComesTo : Cond.instanceMethod y_Tr_workerComesTo ∈ gw ∧ Cond.selects y_Tr_workerComesTo.cls y_Tr_workerComesTo y_Tr_workerComesTo ∈ gw := ⟨gwm (lt2 94 rfl) rfl, gwm (lt2 95 rfl) rfl⟩
theorem v_Tr_clientIsControlled : Cond.instanceMethod y_Tr_clientIsControlled ∈ gw ∧ Cond.selects y_Tr_clientIsControlled.cls y_Tr_clientIsControlled y_Tr_clientIsControlled ∈ gw := ⟨gwm (lt2 125 rfl) rfl, gwm (lt2 126 rfl) rfl⟩
theorem v_Tr_jobEnds : Cond.instanceMethod y_Tr_jobEnds ∈ gw ∧ Cond.selects y_Tr_jobEnds.cls y_Tr_jobEnds y_Tr_jobEnds ∈ gw := ⟨gwm (lt3 5 rfl) rfl, gwm (lt3 6 rfl) rfl⟩
theorem v_Tr_append : Cond.instanceMethod y_Tr_append ∈ gw ∧ Cond.selects y_Tr_append.cls y_Tr_append y_Tr_append ∈ gw := ⟨gwm (lt2 99 rfl) rfl, gwm (lt0 7 rfl) rfl⟩
theorem v_Wk_init : y_Wk_init.name = "<init>" ∧ Cond.instanceMethod y_Wk_init ∈ gw := ⟨rfl, gwm (lt2 183 rfl) rfl⟩
theorem oi_K : Cond.methodLink "ScopeKeeper" 1 objectInit ∈ gw := gwm (lt1 23 rfl) rfl
theorem oi_Tr : Cond.methodLink "ScopeKeeper$Trace" 3 objectInit ∈ gw := gwm (lt1 41 rfl) rfl
theorem oi_Sc : Cond.methodLink "ScopeKeeper$Script" 3 objectInit ∈ gw := gwm (lt1 56 rfl) rfl
theorem oi_Cl : Cond.methodLink "ScopeKeeper$Client" 1 objectInit ∈ gw := gwm (lt1 81 rfl) rfl
theorem oi_Jb : Cond.methodLink "ScopeKeeper$Job" 3 objectInit ∈ gw := gwm (lt2 27 rfl) rfl
theorem oi_Rg : Cond.methodLink "ScopeKeeper$Registration" 1 objectInit ∈ gw := gwm (lt2 147 rfl) rfl
theorem oi_Wk : Cond.methodLink "ScopeKeeper$Worker" 3 objectInit ∈ gw := gwm (lt2 185 rfl) rfl
theorem oi_Ca : Cond.methodLink "ScopeKeeper$Cache" 3 objectInit ∈ gw := gwm (lt2 191 rfl) rfl
theorem oi_Md : Cond.methodLink "ScopeKeeperModel" 1 objectInit ∈ gw := gwm (lt3 194 rfl) rfl
theorem oi_inst : Cond.instanceMethod objectInit ∈ gw := gwm (lt1 24 rfl) rfl
theorem oi_code : Cond.code objectInit ⟨#[0xb1]⟩ 1 none ∈ gw := gwm (lt1 25 rfl) rfl
theorem gw_int : Cond.arrayClass .int ∈ gw := gwm (lt1 51 rfl) rfl
theorem gw_long : Cond.arrayClass .long ∈ gw := gwm (lt4 226 rfl) rfl
