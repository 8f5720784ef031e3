/-! NAMES, written by wip/whole/tools/gen_names.py out of the claim: tables of fields, kinds, words -/
/-- words of the tables that stay true as tables grow warmer -/
def okW : Cond → Bool
  | .arrayClass _ => true
  | .arrayOver (.object _) => true
  | .fieldLinkNest .. => true
  | .methodLinkNest .. => true
  | .castable .. => true
  | .declares _ => true
  | w => w.onTables && w.keeps
def gw : List Cond := lw_tbl.filter okW
theorem gw_ok : ∀ w ∈ gw, okW w = true := fun _ h => (List.mem_filter.mp h).2
theorem gwm {w : Cond} (h : w ∈ lw_tbl) (h2 : okW w = true) : w ∈ gw := List.mem_filter.mpr ⟨h, h2⟩
theorem lt0 {w : Cond} (i : Nat) (h : (k2_sels lw_privs)[i]? = some w) : w ∈ lw_tbl := List.mem_append_left _ (List.mem_of_getElem? h)
theorem lt1 {w : Cond} (i : Nat) (h : tables_1_1[i]? = some w) : w ∈ lw_tbl := List.mem_append_right _ (List.mem_append_left _ (List.mem_of_getElem? h))
theorem lt2 {w : Cond} (i : Nat) (h : tables_1_2[i]? = some w) : w ∈ lw_tbl := List.mem_append_right _ (List.mem_append_right _ (List.mem_append_left _ (List.mem_of_getElem? h)))
theorem lt3 {w : Cond} (i : Nat) (h : tables_1_3[i]? = some w) : w ∈ lw_tbl := List.mem_append_right _ (List.mem_append_right _ (List.mem_append_right _ (List.mem_append_left _ (List.mem_of_getElem? h))))
theorem lt4 {w : Cond} (i : Nat) (h : tables_1_4[i]? = some w) : w ∈ lw_tbl := List.mem_append_right _ (List.mem_append_right _ (List.mem_append_right _ (List.mem_append_right _ (List.mem_of_getElem? h))))
def T_K : u_T := fun k => match k with
  | 0 => ("ScopeKeeper", "scripts", "[LScopeKeeper$Script;", true)
  | 1 => ("ScopeKeeper", "networkUp", "Z", false)
  | 2 => ("ScopeKeeper", "net", "I", false)
  | 3 => ("ScopeKeeper", "workers", "[LScopeKeeper$Worker;", true)
  | 4 => ("ScopeKeeper", "workerCount", "I", false)
  | 5 => ("ScopeKeeper", "registrations", "[LScopeKeeper$Registration;", true)
  | 6 => ("ScopeKeeper", "registrationCount", "I", false)
  | 7 => ("ScopeKeeper", "clients", "[LScopeKeeper$Client;", true)
  | 8 => ("ScopeKeeper", "claimedFrom", "[LScopeKeeper$Worker;", true)
  | 9 => ("ScopeKeeper", "jobs", "[LScopeKeeper$Job;", true)
  | 10 => ("ScopeKeeper", "jobCount", "I", false)
  | _ => ("ScopeKeeper", "happened", "LScopeKeeper$Trace;", true)
def ty_K : Nat → FieldType := fun k => match k with
  | 0 => .array (.object "ScopeKeeper$Script")
  | 1 => .boolean
  | 2 => .int
  | 3 => .array (.object "ScopeKeeper$Worker")
  | 4 => .int
  | 5 => .array (.object "ScopeKeeper$Registration")
  | 6 => .int
  | 7 => .array (.object "ScopeKeeper$Client")
  | 8 => .array (.object "ScopeKeeper$Worker")
  | 9 => .array (.object "ScopeKeeper$Job")
  | 10 => .int
  | _ => .object "ScopeKeeper$Trace"
theorem nm_K : ∀ a, a < 12 → ∀ b, b < 12 → a ≠ b → (T_K a).2.1 ≠ (T_K b).2.1 := by decide +kernel
theorem tyk_K : ∀ k, k < 12 → parseFieldDescriptor (T_K k).2.2.1 = some (ty_K k) := by decide +kernel
def T_Sc : u_T := fun k => match k with
  | 0 => ("ScopeKeeper$Script", "content", "I", false)
  | 1 => ("ScopeKeeper$Script", "broad", "I", false)
  | 2 => ("ScopeKeeper$Script", "flaw", "I", false)
  | _ => ("ScopeKeeper$Script", "mode", "I", false)
def ty_Sc : Nat → FieldType := fun k => match k with
  | 0 => .int
  | 1 => .int
  | 2 => .int
  | _ => .int
theorem nm_Sc : ∀ a, a < 4 → ∀ b, b < 4 → a ≠ b → (T_Sc a).2.1 ≠ (T_Sc b).2.1 := by decide +kernel
theorem tyk_Sc : ∀ k, k < 4 → parseFieldDescriptor (T_Sc k).2.2.1 = some (ty_Sc k) := by decide +kernel
def T_Cl : u_T := fun k => match k with
  | 0 => ("ScopeKeeper$Client", "there", "Z", false)
  | 1 => ("ScopeKeeper$Client", "path", "I", false)
  | _ => ("ScopeKeeper$Client", "controller", "LScopeKeeper$Worker;", false)
def ty_Cl : Nat → FieldType := fun k => match k with
  | 0 => .boolean
  | 1 => .int
  | _ => .object "ScopeKeeper$Worker"
theorem nm_Cl : ∀ a, a < 3 → ∀ b, b < 3 → a ≠ b → (T_Cl a).2.1 ≠ (T_Cl b).2.1 := by decide +kernel
theorem tyk_Cl : ∀ k, k < 3 → parseFieldDescriptor (T_Cl k).2.2.1 = some (ty_Cl k) := by decide +kernel
def T_Tr : u_T := fun k => match k with
  | 0 => ("ScopeKeeper$Trace", "numbers", "[I", true)
  | _ => ("ScopeKeeper$Trace", "size", "I", false)
def ty_Tr : Nat → FieldType := fun k => match k with
  | 0 => .array .int
  | _ => .int
theorem nm_Tr : ∀ a, a < 2 → ∀ b, b < 2 → a ≠ b → (T_Tr a).2.1 ≠ (T_Tr b).2.1 := by decide +kernel
theorem tyk_Tr : ∀ k, k < 2 → parseFieldDescriptor (T_Tr k).2.2.1 = some (ty_Tr k) := by decide +kernel
def T_Jb : u_T := fun k => match k with
  | 0 => ("ScopeKeeper$Job", "number", "I", true)
  | 1 => ("ScopeKeeper$Job", "kind", "I", true)
  | 2 => ("ScopeKeeper$Job", "scope", "I", true)
  | 3 => ("ScopeKeeper$Job", "script", "I", true)
  | 4 => ("ScopeKeeper$Job", "begun", "Z", false)
  | _ => ("ScopeKeeper$Job", "outcome", "I", false)
def ty_Jb : Nat → FieldType := fun k => match k with
  | 0 => .int
  | 1 => .int
  | 2 => .int
  | 3 => .int
  | 4 => .boolean
  | _ => .int
theorem nm_Jb : ∀ a, a < 6 → ∀ b, b < 6 → a ≠ b → (T_Jb a).2.1 ≠ (T_Jb b).2.1 := by decide +kernel
theorem tyk_Jb : ∀ k, k < 6 → parseFieldDescriptor (T_Jb k).2.2.1 = some (ty_Jb k) := by decide +kernel
def T_Rg : u_T := fun k => match k with
  | 0 => ("ScopeKeeper$Registration", "scope", "I", true)
  | 1 => ("ScopeKeeper$Registration", "script", "I", false)
  | 2 => ("ScopeKeeper$Registration", "installing", "LScopeKeeper$Worker;", false)
  | 3 => ("ScopeKeeper$Registration", "waiting", "LScopeKeeper$Worker;", false)
  | 4 => ("ScopeKeeper$Registration", "active", "LScopeKeeper$Worker;", false)
  | _ => ("ScopeKeeper$Registration", "leaving", "Z", false)
def ty_Rg : Nat → FieldType := fun k => match k with
  | 0 => .int
  | 1 => .int
  | 2 => .object "ScopeKeeper$Worker"
  | 3 => .object "ScopeKeeper$Worker"
  | 4 => .object "ScopeKeeper$Worker"
  | _ => .boolean
theorem nm_Rg : ∀ a, a < 6 → ∀ b, b < 6 → a ≠ b → (T_Rg a).2.1 ≠ (T_Rg b).2.1 := by decide +kernel
theorem tyk_Rg : ∀ k, k < 6 → parseFieldDescriptor (T_Rg k).2.2.1 = some (ty_Rg k) := by decide +kernel
def T_Ca : u_T := fun k => match k with
  | 0 => ("ScopeKeeper$Cache", "paths", "[I", true)
  | 1 => ("ScopeKeeper$Cache", "values", "[I", true)
  | _ => ("ScopeKeeper$Cache", "size", "I", false)
def ty_Ca : Nat → FieldType := fun k => match k with
  | 0 => .array .int
  | 1 => .array .int
  | _ => .int
theorem nm_Ca : ∀ a, a < 3 → ∀ b, b < 3 → a ≠ b → (T_Ca a).2.1 ≠ (T_Ca b).2.1 := by decide +kernel
theorem tyk_Ca : ∀ k, k < 3 → parseFieldDescriptor (T_Ca k).2.2.1 = some (ty_Ca k) := by decide +kernel
def T_Wk : u_T := fun k => match k with
  | 0 => ("ScopeKeeper$Worker", "number", "I", true)
  | 1 => ("ScopeKeeper$Worker", "content", "I", true)
  | 2 => ("ScopeKeeper$Worker", "flaw", "I", true)
  | 3 => ("ScopeKeeper$Worker", "mode", "I", true)
  | 4 => ("ScopeKeeper$Worker", "cache", "LScopeKeeper$Cache;", true)
  | 5 => ("ScopeKeeper$Worker", "state", "I", false)
  | _ => ("ScopeKeeper$Worker", "skips", "Z", false)
def ty_Wk : Nat → FieldType := fun k => match k with
  | 0 => .int
  | 1 => .int
  | 2 => .int
  | 3 => .int
  | 4 => .object "ScopeKeeper$Cache"
  | 5 => .int
  | _ => .boolean
theorem nm_Wk : ∀ a, a < 7 → ∀ b, b < 7 → a ≠ b → (T_Wk a).2.1 ≠ (T_Wk b).2.1 := by decide +kernel
theorem tyk_Wk : ∀ k, k < 7 → parseFieldDescriptor (T_Wk k).2.2.1 = some (ty_Wk k) := by decide +kernel
abbrev classes : List vw_C := [("ScopeKeeper", T_K, 12), ("ScopeKeeper$Script", T_Sc, 4), ("ScopeKeeper$Client", T_Cl, 3), ("ScopeKeeper$Trace", T_Tr, 2), ("ScopeKeeper$Job", T_Jb, 6), ("ScopeKeeper$Registration", T_Rg, 6), ("ScopeKeeper$Cache", T_Ca, 3), ("ScopeKeeper$Worker", T_Wk, 7)]
/-- kinds: 0 ScopeKeeper, 1 Script, 2 Client, 3 Trace, 4 Job, 5 Registration, 6 Cache, 7 Worker; arrays: 8 scripts, 9 workers, 10 registrations, 11 clients, 12 claimedFrom, 13 jobs, 14 numbers, 15 paths, 16 values, 17 out -/
def sh : Nat → Nat ⊕ (Nat × Nat) := fun k => match k with
  | 0 => .inl 0
  | 1 => .inl 1
  | 2 => .inl 2
  | 3 => .inl 3
  | 4 => .inl 4
  | 5 => .inl 5
  | 6 => .inl 6
  | 7 => .inl 7
  | 8 => .inr (1, 4)
  | 9 => .inr (2, 40)
  | 10 => .inr (3, 5)
  | 11 => .inr (4, 8)
  | 12 => .inr (2, 8)
  | 13 => .inr (5, 60)
  | 14 => .inr (0, 60)
  | 15 => .inr (0, 4)
  | 16 => .inr (0, 4)
  | _ => .inr (6, 1)
/-- what a slot holds: 0 an int, 1 a long, t + 2 a reference to kind t -/
def ft : Nat → Nat → Nat := fun k j => match k with
  | 0 => (match j with | 0 => 10 | 1 => 0 | 2 => 0 | 3 => 11 | 4 => 0 | 5 => 12 | 6 => 0 | 7 => 13 | 8 => 14 | 9 => 15 | 10 => 0 | _ => 5)
  | 1 => 0
  | 2 => (match j with | 0 => 0 | 1 => 0 | _ => 9)
  | 3 => (match j with | 0 => 16 | _ => 0)
  | 4 => 0
  | 5 => (match j with | 0 => 0 | 1 => 0 | 2 => 9 | 3 => 9 | 4 => 9 | _ => 0)
  | 6 => (match j with | 0 => 17 | 1 => 18 | _ => 0)
  | 7 => (match j with | 0 => 0 | 1 => 0 | 2 => 0 | 3 => 0 | 4 => 8 | 5 => 0 | _ => 0)
  | 8 => 3
  | 9 => 9
  | 10 => 7
  | 11 => 4
  | 12 => 9
  | 13 => 6
  | 14 => 0
  | 15 => 0
  | 16 => 0
  | _ => 1
def atl (dA : Nat → ClassId) : List (ClassId × FieldType) := [(dA 0, .int), (dA 1, .object "ScopeKeeper$Script"), (dA 2, .object "ScopeKeeper$Worker"), (dA 3, .object "ScopeKeeper$Registration"), (dA 4, .object "ScopeKeeper$Client"), (dA 5, .object "ScopeKeeper$Job"), (dA 6, .long)]
/-- the texts that are thrown: class, pool entry, text -/
def txs : List (String × Nat × String) := [("ScopeKeeper", 77, "no such script, or broad is no path"), ("ScopeKeeper", 82, "no such flaw or mode"), ("ScopeKeeper", 96, "no such kind"), ("ScopeKeeper", 282, "no path"), ("ScopeKeeper", 102, "no such script"), ("ScopeKeeper", 126, "no room for another job"), ("ScopeKeeper", 137, "no job in the row"), ("ScopeKeeper", 157, "no room for another client"), ("ScopeKeeper", 284, "no such client"), ("ScopeKeeper", 289, "no such registration"), ("ScopeKeeper", 190, "no active worker"), ("ScopeKeeper", 202, "no worker waits or installs"), ("ScopeKeeper", 293, "the network is down"), ("ScopeKeeper", 233, "no such what"), ("ScopeKeeper", 245, "no such worker"), ("ScopeKeeper", 263, "no such job"), ("ScopeKeeper", 266, "the trace has no such number")]
abbrev b_K_init : ByteArray := prog_1_method_1_code
def y_K_init : MethodName := ⟨"ScopeKeeper", "<init>", "()V"⟩
abbrev b_K_serve : ByteArray := prog_1_method_2_code
def y_K_serve : MethodName := ⟨"ScopeKeeper", "serve", "(IIIII)V"⟩
abbrev b_K_network : ByteArray := prog_1_method_3_code
def y_K_network : MethodName := ⟨"ScopeKeeper", "network", "(ZI)Z"⟩
abbrev b_K_job : ByteArray := prog_1_method_4_code
def y_K_job : MethodName := ⟨"ScopeKeeper", "job", "(III)I"⟩
abbrev b_K_step : ByteArray := prog_1_method_5_code
def y_K_step : MethodName := ⟨"ScopeKeeper", "step", "(I)I"⟩
abbrev b_K_open : ByteArray := prog_1_method_6_code
def y_K_open : MethodName := ⟨"ScopeKeeper", "open", "(I)I"⟩
abbrev b_K_close : ByteArray := prog_1_method_7_code
def y_K_close : MethodName := ⟨"ScopeKeeper", "close", "(I)I"⟩
abbrev b_K_claim : ByteArray := prog_1_method_8_code
def y_K_claim : MethodName := ⟨"ScopeKeeper", "claim", "(I)I"⟩
abbrev b_K_skip : ByteArray := prog_1_method_9_code
def y_K_skip : MethodName := ⟨"ScopeKeeper", "skip", "(I)I"⟩
abbrev b_K_fetch : ByteArray := prog_1_method_10_code
def y_K_fetch : MethodName := ⟨"ScopeKeeper", "fetch", "(II)I"⟩
abbrev b_K_registration : ByteArray := prog_1_method_11_code
def y_K_registration : MethodName := ⟨"ScopeKeeper", "registration", "(II)I"⟩
abbrev b_K_worker : ByteArray := prog_1_method_12_code
def y_K_worker : MethodName := ⟨"ScopeKeeper", "worker", "(II)I"⟩
abbrev b_K_outcome : ByteArray := prog_1_method_13_code
def y_K_outcome : MethodName := ⟨"ScopeKeeper", "outcome", "(I)I"⟩
abbrev b_K_trace : ByteArray := prog_1_method_14_code
def y_K_trace : MethodName := ⟨"ScopeKeeper", "trace", "(I)I"⟩
abbrev b_K_count : ByteArray := prog_1_method_15_code
def y_K_count : MethodName := ⟨"ScopeKeeper", "count", "(I)I"⟩
abbrev b_K_isWithin : ByteArray := prog_1_method_16_code
def y_K_isWithin : MethodName := ⟨"ScopeKeeper", "isWithin", "(III)Z"⟩
abbrev b_K_isScript : ByteArray := prog_1_method_17_code
def y_K_isScript : MethodName := ⟨"ScopeKeeper", "isScript", "(I)Z"⟩
abbrev b_K_isPath : ByteArray := prog_1_method_18_code
def y_K_isPath : MethodName := ⟨"ScopeKeeper", "isPath", "(I)Z"⟩
abbrev b_K_begins : ByteArray := prog_1_method_19_code
def y_K_begins : MethodName := ⟨"ScopeKeeper", "begins", "(II)Z"⟩
abbrev b_K_refuseNoPath : ByteArray := prog_1_method_20_code
def y_K_refuseNoPath : MethodName := ⟨"ScopeKeeper", "refuseNoPath", "(I)V"⟩
abbrev b_K_refuseNoClient : ByteArray := prog_1_method_21_code
def y_K_refuseNoClient : MethodName := ⟨"ScopeKeeper", "refuseNoClient", "(I)V"⟩
abbrev b_K_needRegistration : ByteArray := prog_1_method_22_code
def y_K_needRegistration : MethodName := ⟨"ScopeKeeper", "needRegistration", "(I)LScopeKeeper$Registration;"⟩
abbrev b_K_networkAnswer : ByteArray := prog_1_method_23_code
def y_K_networkAnswer : MethodName := ⟨"ScopeKeeper", "networkAnswer", "(I)I"⟩
abbrev b_K_isInRow : ByteArray := prog_1_method_24_code
def y_K_isInRow : MethodName := ⟨"ScopeKeeper", "isInRow", "(LScopeKeeper$Job;I)Z"⟩
abbrev b_K_firstOfRow : ByteArray := prog_1_method_25_code
def y_K_firstOfRow : MethodName := ⟨"ScopeKeeper", "firstOfRow", "(I)LScopeKeeper$Job;"⟩
abbrev b_K_lastOfRow : ByteArray := prog_1_method_26_code
def y_K_lastOfRow : MethodName := ⟨"ScopeKeeper", "lastOfRow", "(I)LScopeKeeper$Job;"⟩
abbrev b_K_rowLength : ByteArray := prog_1_method_27_code
def y_K_rowLength : MethodName := ⟨"ScopeKeeper", "rowLength", "(I)I"⟩
abbrev b_K_jobsNotEnded : ByteArray := prog_1_method_28_code
def y_K_jobsNotEnded : MethodName := ⟨"ScopeKeeper", "jobsNotEnded", "()I"⟩
abbrev b_K_beginJob : ByteArray := prog_1_method_29_code
def y_K_beginJob : MethodName := ⟨"ScopeKeeper", "beginJob", "(LScopeKeeper$Job;)I"⟩
abbrev b_K_beginRegister : ByteArray := prog_1_method_30_code
def y_K_beginRegister : MethodName := ⟨"ScopeKeeper", "beginRegister", "(LScopeKeeper$Job;)I"⟩
abbrev b_K_beginUpdate : ByteArray := prog_1_method_31_code
def y_K_beginUpdate : MethodName := ⟨"ScopeKeeper", "beginUpdate", "(I)I"⟩
abbrev b_K_unregister : ByteArray := prog_1_method_32_code
def y_K_unregister : MethodName := ⟨"ScopeKeeper", "unregister", "(I)I"⟩
abbrev b_K_isUpToDate : ByteArray := prog_1_method_33_code
def y_K_isUpToDate : MethodName := ⟨"ScopeKeeper", "isUpToDate", "(LScopeKeeper$Registration;)Z"⟩
abbrev b_K_beginInstall : ByteArray := prog_1_method_34_code
def y_K_beginInstall : MethodName := ⟨"ScopeKeeper", "beginInstall", "(LScopeKeeper$Registration;)V"⟩
abbrev b_K_finishInstall : ByteArray := prog_1_method_35_code
def y_K_finishInstall : MethodName := ⟨"ScopeKeeper", "finishInstall", "(I)I"⟩
abbrev b_K_tryActivation : ByteArray := prog_1_method_36_code
def y_K_tryActivation : MethodName := ⟨"ScopeKeeper", "tryActivation", "(LScopeKeeper$Registration;)V"⟩
abbrev b_K_tryClearing : ByteArray := prog_1_method_37_code
def y_K_tryClearing : MethodName := ⟨"ScopeKeeper", "tryClearing", "(LScopeKeeper$Registration;)Z"⟩
abbrev b_K_settleAfterLoss : ByteArray := prog_1_method_38_code
def y_K_settleAfterLoss : MethodName := ⟨"ScopeKeeper", "settleAfterLoss", "(LScopeKeeper$Worker;)V"⟩
abbrev b_K_numberOf : ByteArray := prog_1_method_39_code
def y_K_numberOf : MethodName := ⟨"ScopeKeeper", "numberOf", "(LScopeKeeper$Worker;)I"⟩
abbrev b_K_bring : ByteArray := prog_1_method_40_code
def y_K_bring : MethodName := ⟨"ScopeKeeper", "bring", "(LScopeKeeper$Worker;I)V"⟩
abbrev b_K_control : ByteArray := prog_1_method_41_code
def y_K_control : MethodName := ⟨"ScopeKeeper", "control", "(ILScopeKeeper$Worker;)V"⟩
abbrev b_K_controlledBy : ByteArray := prog_1_method_42_code
def y_K_controlledBy : MethodName := ⟨"ScopeKeeper", "controlledBy", "(LScopeKeeper$Worker;)I"⟩
abbrev b_K_clientsThere : ByteArray := prog_1_method_43_code
def y_K_clientsThere : MethodName := ⟨"ScopeKeeper", "clientsThere", "()I"⟩
abbrev b_K_leastFreeClient : ByteArray := prog_1_method_44_code
def y_K_leastFreeClient : MethodName := ⟨"ScopeKeeper", "leastFreeClient", "()I"⟩
abbrev b_K_registrationOf : ByteArray := prog_1_method_45_code
def y_K_registrationOf : MethodName := ⟨"ScopeKeeper", "registrationOf", "(I)LScopeKeeper$Registration;"⟩
abbrev b_K_registrationFor : ByteArray := prog_1_method_46_code
def y_K_registrationFor : MethodName := ⟨"ScopeKeeper", "registrationFor", "(I)LScopeKeeper$Registration;"⟩
abbrev b_K_registrationWithActive : ByteArray := prog_1_method_47_code
def y_K_registrationWithActive : MethodName := ⟨"ScopeKeeper", "registrationWithActive", "(LScopeKeeper$Worker;)LScopeKeeper$Registration;"⟩
abbrev b_K_addRegistration : ByteArray := prog_1_method_48_code
def y_K_addRegistration : MethodName := ⟨"ScopeKeeper", "addRegistration", "(I)LScopeKeeper$Registration;"⟩
abbrev b_K_removeRegistration : ByteArray := prog_1_method_49_code
def y_K_removeRegistration : MethodName := ⟨"ScopeKeeper", "removeRegistration", "(LScopeKeeper$Registration;)V"⟩
abbrev b_Ca_init : ByteArray := prog_2_method_1_code
def y_Ca_init : MethodName := ⟨"ScopeKeeper$Cache", "<init>", "()V"⟩
abbrev b_Ca_placeOf : ByteArray := prog_2_method_2_code
def y_Ca_placeOf : MethodName := ⟨"ScopeKeeper$Cache", "placeOf", "(I)I"⟩
abbrev b_Ca_has : ByteArray := prog_2_method_3_code
def y_Ca_has : MethodName := ⟨"ScopeKeeper$Cache", "has", "(I)Z"⟩
abbrev b_Ca_valueOf : ByteArray := prog_2_method_4_code
def y_Ca_valueOf : MethodName := ⟨"ScopeKeeper$Cache", "valueOf", "(I)I"⟩
abbrev b_Ca_pathAt : ByteArray := prog_2_method_5_code
def y_Ca_pathAt : MethodName := ⟨"ScopeKeeper$Cache", "pathAt", "(I)I"⟩
abbrev b_Ca_valueAt : ByteArray := prog_2_method_6_code
def y_Ca_valueAt : MethodName := ⟨"ScopeKeeper$Cache", "valueAt", "(I)I"⟩
abbrev b_Ca_keep : ByteArray := prog_2_method_7_code
def y_Ca_keep : MethodName := ⟨"ScopeKeeper$Cache", "keep", "(II)V"⟩
abbrev b_Ca_drop : ByteArray := prog_2_method_8_code
def y_Ca_drop : MethodName := ⟨"ScopeKeeper$Cache", "drop", "(I)V"⟩
abbrev b_Cl_init : ByteArray := prog_3_method_1_code
def y_Cl_init : MethodName := ⟨"ScopeKeeper$Client", "<init>", "()V"⟩
abbrev b_Jb_init : ByteArray := prog_4_method_1_code
def y_Jb_init : MethodName := ⟨"ScopeKeeper$Job", "<init>", "(IIII)V"⟩
abbrev b_Rg_init : ByteArray := prog_5_method_1_code
def y_Rg_init : MethodName := ⟨"ScopeKeeper$Registration", "<init>", "(I)V"⟩
abbrev b_Rg_newest : ByteArray := prog_5_method_2_code
def y_Rg_newest : MethodName := ⟨"ScopeKeeper$Registration", "newest", "()LScopeKeeper$Worker;"⟩
abbrev b_Sc_init : ByteArray := prog_6_method_1_code
def y_Sc_init : MethodName := ⟨"ScopeKeeper$Script", "<init>", "()V"⟩
abbrev b_Tr_init : ByteArray := prog_7_method_1_code
def y_Tr_init : MethodName := ⟨"ScopeKeeper$Trace", "<init>", "()V"⟩
abbrev b_Tr_workerComesTo : ByteArray := prog_7_method_2_code
def y_Tr_workerComesTo : MethodName := ⟨"ScopeKeeper$Trace", "workerComesTo", "(II)V"⟩
abbrev b_Tr_clientIsControlled : ByteArray := prog_7_method_3_code
def y_Tr_clientIsControlled : MethodName := ⟨"ScopeKeeper$Trace", "clientIsControlled", "(II)V"⟩
abbrev b_Tr_jobEnds : ByteArray := prog_7_method_4_code
def y_Tr_jobEnds : MethodName := ⟨"ScopeKeeper$Trace", "jobEnds", "(I)V"⟩
abbrev b_Tr_append : ByteArray := prog_7_method_5_code
def y_Tr_append : MethodName := ⟨"ScopeKeeper$Trace", "append", "(I)V"⟩
abbrev b_Wk_init : ByteArray := prog_8_method_1_code
def y_Wk_init : MethodName := ⟨"ScopeKeeper$Worker", "<init>", "(ILScopeKeeper$Script;)V"⟩
abbrev b_Lw_serve : ByteArray := method_3_code
def y_Lw_serve : MethodName := ⟨"ScopeKeeperLaw", "serve", "(LScopeKeeper;IIIII)I"⟩
abbrev b_Lw_job : ByteArray := method_4_code
def y_Lw_job : MethodName := ⟨"ScopeKeeperLaw", "job", "(LScopeKeeper;III[J)I"⟩
abbrev b_Lw_step : ByteArray := method_5_code
def y_Lw_step : MethodName := ⟨"ScopeKeeperLaw", "step", "(LScopeKeeper;I[J)I"⟩
abbrev b_Lw_open : ByteArray := method_6_code
def y_Lw_open : MethodName := ⟨"ScopeKeeperLaw", "open", "(LScopeKeeper;I[J)I"⟩
abbrev b_Lw_close : ByteArray := method_7_code
def y_Lw_close : MethodName := ⟨"ScopeKeeperLaw", "close", "(LScopeKeeper;I[J)I"⟩
abbrev b_Lw_claim : ByteArray := method_8_code
def y_Lw_claim : MethodName := ⟨"ScopeKeeperLaw", "claim", "(LScopeKeeper;I[J)I"⟩
abbrev b_Lw_skip : ByteArray := method_9_code
def y_Lw_skip : MethodName := ⟨"ScopeKeeperLaw", "skip", "(LScopeKeeper;I[J)I"⟩
abbrev b_Lw_fetch : ByteArray := method_10_code
def y_Lw_fetch : MethodName := ⟨"ScopeKeeperLaw", "fetch", "(LScopeKeeper;II[J)I"⟩
abbrev b_Lw_registration : ByteArray := method_11_code
def y_Lw_registration : MethodName := ⟨"ScopeKeeperLaw", "registration", "(LScopeKeeper;II[J)I"⟩
abbrev b_Lw_worker : ByteArray := method_12_code
def y_Lw_worker : MethodName := ⟨"ScopeKeeperLaw", "worker", "(LScopeKeeper;II[J)I"⟩
abbrev b_Lw_outcome : ByteArray := method_13_code
def y_Lw_outcome : MethodName := ⟨"ScopeKeeperLaw", "outcome", "(LScopeKeeper;I[J)I"⟩
abbrev b_Lw_trace : ByteArray := method_14_code
def y_Lw_trace : MethodName := ⟨"ScopeKeeperLaw", "trace", "(LScopeKeeper;I[J)I"⟩
abbrev b_Lw_count : ByteArray := method_15_code
def y_Lw_count : MethodName := ⟨"ScopeKeeperLaw", "count", "(LScopeKeeper;I[J)I"⟩
abbrev b_Lw_law : ByteArray := code
def y_Lw_law : MethodName := ⟨"ScopeKeeperLaw", "law", "([I)Z"⟩
