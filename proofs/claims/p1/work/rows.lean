section
-- ===== PART A: goes FIRST, ahead of the names: the tables' words, and 'selects' of the private methods out of them =====
/-- a private method of a class that the tables say can be made, by its rows of tables_1 -/
def lw_okq (q : MethodName × Nat) : Prop := (q.1.cls ≠ "java/lang/invoke/MethodHandle" ∧ q.1.cls ≠ "java/lang/invoke/VarHandle") ∧ Cond.instantiable q.1.cls q.2 ∈ tables_1 ∧ Cond.privateMethod q.1 ∈ tables_1 ∧ Cond.instanceMethod q.1 ∈ tables_1
theorem lw_p0 : lw_okq (⟨"java/lang/Throwable", "fillInStackTrace", "(I)Ljava/lang/Throwable;"⟩, 6) := ⟨⟨by decide +kernel, by decide +kernel⟩, List.mem_of_getElem? (i := 192) (by decide +kernel), List.mem_of_getElem? (i := 190) (by decide +kernel), List.mem_of_getElem? (i := 191) (by decide +kernel)⟩
theorem lw_p1 : lw_okq (⟨"ScopeKeeper", "lastOfRow", "(I)LScopeKeeper$Job;"⟩, 12) := ⟨⟨by decide +kernel, by decide +kernel⟩, List.mem_of_getElem? (i := 19) (by decide +kernel), List.mem_of_getElem? (i := 237) (by decide +kernel), List.mem_of_getElem? (i := 238) (by decide +kernel)⟩
theorem lw_p2 : lw_okq (⟨"ScopeKeeper", "rowLength", "(I)I"⟩, 12) := ⟨⟨by decide +kernel, by decide +kernel⟩, List.mem_of_getElem? (i := 19) (by decide +kernel), List.mem_of_getElem? (i := 244) (by decide +kernel), List.mem_of_getElem? (i := 245) (by decide +kernel)⟩
theorem lw_p3 : lw_okq (⟨"ScopeKeeper", "firstOfRow", "(I)LScopeKeeper$Job;"⟩, 12) := ⟨⟨by decide +kernel, by decide +kernel⟩, List.mem_of_getElem? (i := 19) (by decide +kernel), List.mem_of_getElem? (i := 302) (by decide +kernel), List.mem_of_getElem? (i := 303) (by decide +kernel)⟩
theorem lw_p4 : lw_okq (⟨"ScopeKeeper", "finishInstall", "(I)I"⟩, 12) := ⟨⟨by decide +kernel, by decide +kernel⟩, List.mem_of_getElem? (i := 19) (by decide +kernel), List.mem_of_getElem? (i := 322) (by decide +kernel), List.mem_of_getElem? (i := 323) (by decide +kernel)⟩
theorem lw_p5 : lw_okq (⟨"ScopeKeeper", "registrationOf", "(I)LScopeKeeper$Registration;"⟩, 12) := ⟨⟨by decide +kernel, by decide +kernel⟩, List.mem_of_getElem? (i := 19) (by decide +kernel), List.mem_of_getElem? (i := 326) (by decide +kernel), List.mem_of_getElem? (i := 327) (by decide +kernel)⟩
theorem lw_p6 : lw_okq (⟨"ScopeKeeper", "bring", "(LScopeKeeper$Worker;I)V"⟩, 12) := ⟨⟨by decide +kernel, by decide +kernel⟩, List.mem_of_getElem? (i := 19) (by decide +kernel), List.mem_of_getElem? (i := 330) (by decide +kernel), List.mem_of_getElem? (i := 331) (by decide +kernel)⟩
theorem lw_p7 : lw_okq (⟨"ScopeKeeper$Trace", "append", "(I)V"⟩, 2) := ⟨⟨by decide +kernel, by decide +kernel⟩, List.mem_of_getElem? (i := 37) (by decide +kernel), List.mem_of_getElem? (i := 338) (by decide +kernel), List.mem_of_getElem? (i := 339) (by decide +kernel)⟩
theorem lw_p8 : lw_okq (⟨"ScopeKeeper", "removeRegistration", "(LScopeKeeper$Registration;)V"⟩, 12) := ⟨⟨by decide +kernel, by decide +kernel⟩, List.mem_of_getElem? (i := 19) (by decide +kernel), List.mem_of_getElem? (i := 346) (by decide +kernel), List.mem_of_getElem? (i := 347) (by decide +kernel)⟩
theorem lw_p9 : lw_okq (⟨"ScopeKeeper", "tryActivation", "(LScopeKeeper$Registration;)V"⟩, 12) := ⟨⟨by decide +kernel, by decide +kernel⟩, List.mem_of_getElem? (i := 19) (by decide +kernel), List.mem_of_getElem? (i := 350) (by decide +kernel), List.mem_of_getElem? (i := 351) (by decide +kernel)⟩
theorem lw_p10 : lw_okq (⟨"ScopeKeeper", "controlledBy", "(LScopeKeeper$Worker;)I"⟩, 12) := ⟨⟨by decide +kernel, by decide +kernel⟩, List.mem_of_getElem? (i := 19) (by decide +kernel), List.mem_of_getElem? (i := 354) (by decide +kernel), List.mem_of_getElem? (i := 355) (by decide +kernel)⟩
theorem lw_p11 : lw_okq (⟨"ScopeKeeper", "control", "(ILScopeKeeper$Worker;)V"⟩, 12) := ⟨⟨by decide +kernel, by decide +kernel⟩, List.mem_of_getElem? (i := 19) (by decide +kernel), List.mem_of_getElem? (i := 358) (by decide +kernel), List.mem_of_getElem? (i := 359) (by decide +kernel)⟩
theorem lw_p12 : lw_okq (⟨"ScopeKeeper", "beginJob", "(LScopeKeeper$Job;)I"⟩, 12) := ⟨⟨by decide +kernel, by decide +kernel⟩, List.mem_of_getElem? (i := 19) (by decide +kernel), List.mem_of_getElem? (i := 369) (by decide +kernel), List.mem_of_getElem? (i := 370) (by decide +kernel)⟩
theorem lw_p13 : lw_okq (⟨"ScopeKeeper", "beginRegister", "(LScopeKeeper$Job;)I"⟩, 12) := ⟨⟨by decide +kernel, by decide +kernel⟩, List.mem_of_getElem? (i := 19) (by decide +kernel), List.mem_of_getElem? (i := 373) (by decide +kernel), List.mem_of_getElem? (i := 374) (by decide +kernel)⟩
theorem lw_p14 : lw_okq (⟨"ScopeKeeper", "addRegistration", "(I)LScopeKeeper$Registration;"⟩, 12) := ⟨⟨by decide +kernel, by decide +kernel⟩, List.mem_of_getElem? (i := 19) (by decide +kernel), List.mem_of_getElem? (i := 380) (by decide +kernel), List.mem_of_getElem? (i := 381) (by decide +kernel)⟩
theorem lw_p15 : lw_okq (⟨"ScopeKeeper", "isUpToDate", "(LScopeKeeper$Registration;)Z"⟩, 12) := ⟨⟨by decide +kernel, by decide +kernel⟩, List.mem_of_getElem? (i := 19) (by decide +kernel), List.mem_of_getElem? (i := 414) (by decide +kernel), List.mem_of_getElem? (i := 415) (by decide +kernel)⟩
def lw_privs_1 : List (MethodName × Nat) := [(⟨"java/lang/Throwable", "fillInStackTrace", "(I)Ljava/lang/Throwable;"⟩, 6), (⟨"ScopeKeeper", "lastOfRow", "(I)LScopeKeeper$Job;"⟩, 12), (⟨"ScopeKeeper", "rowLength", "(I)I"⟩, 12), (⟨"ScopeKeeper", "firstOfRow", "(I)LScopeKeeper$Job;"⟩, 12), (⟨"ScopeKeeper", "finishInstall", "(I)I"⟩, 12), (⟨"ScopeKeeper", "registrationOf", "(I)LScopeKeeper$Registration;"⟩, 12), (⟨"ScopeKeeper", "bring", "(LScopeKeeper$Worker;I)V"⟩, 12), (⟨"ScopeKeeper$Trace", "append", "(I)V"⟩, 2), (⟨"ScopeKeeper", "removeRegistration", "(LScopeKeeper$Registration;)V"⟩, 12), (⟨"ScopeKeeper", "tryActivation", "(LScopeKeeper$Registration;)V"⟩, 12), (⟨"ScopeKeeper", "controlledBy", "(LScopeKeeper$Worker;)I"⟩, 12), (⟨"ScopeKeeper", "control", "(ILScopeKeeper$Worker;)V"⟩, 12), (⟨"ScopeKeeper", "beginJob", "(LScopeKeeper$Job;)I"⟩, 12), (⟨"ScopeKeeper", "beginRegister", "(LScopeKeeper$Job;)I"⟩, 12), (⟨"ScopeKeeper", "addRegistration", "(I)LScopeKeeper$Registration;"⟩, 12), (⟨"ScopeKeeper", "isUpToDate", "(LScopeKeeper$Registration;)Z"⟩, 12)]
theorem lw_r1 : ∀ q ∈ lw_privs_1, lw_okq q := List.forall_mem_cons.mpr ⟨lw_p0, List.forall_mem_cons.mpr ⟨lw_p1, List.forall_mem_cons.mpr ⟨lw_p2, List.forall_mem_cons.mpr ⟨lw_p3, List.forall_mem_cons.mpr ⟨lw_p4, List.forall_mem_cons.mpr ⟨lw_p5, List.forall_mem_cons.mpr ⟨lw_p6, List.forall_mem_cons.mpr ⟨lw_p7, List.forall_mem_cons.mpr ⟨lw_p8, List.forall_mem_cons.mpr ⟨lw_p9, List.forall_mem_cons.mpr ⟨lw_p10, List.forall_mem_cons.mpr ⟨lw_p11, List.forall_mem_cons.mpr ⟨lw_p12, List.forall_mem_cons.mpr ⟨lw_p13, List.forall_mem_cons.mpr ⟨lw_p14, List.forall_mem_cons.mpr ⟨lw_p15, fun _ h => absurd h List.not_mem_nil⟩⟩⟩⟩⟩⟩⟩⟩⟩⟩⟩⟩⟩⟩⟩⟩
theorem lw_p16 : lw_okq (⟨"ScopeKeeper", "beginInstall", "(LScopeKeeper$Registration;)V"⟩, 12) := ⟨⟨by decide +kernel, by decide +kernel⟩, List.mem_of_getElem? (i := 19) (by decide +kernel), List.mem_of_getElem? (i := 418) (by decide +kernel), List.mem_of_getElem? (i := 419) (by decide +kernel)⟩
theorem lw_p17 : lw_okq (⟨"ScopeKeeper", "beginUpdate", "(I)I"⟩, 12) := ⟨⟨by decide +kernel, by decide +kernel⟩, List.mem_of_getElem? (i := 19) (by decide +kernel), List.mem_of_getElem? (i := 473) (by decide +kernel), List.mem_of_getElem? (i := 474) (by decide +kernel)⟩
theorem lw_p18 : lw_okq (⟨"ScopeKeeper", "unregister", "(I)I"⟩, 12) := ⟨⟨by decide +kernel, by decide +kernel⟩, List.mem_of_getElem? (i := 19) (by decide +kernel), List.mem_of_getElem? (i := 477) (by decide +kernel), List.mem_of_getElem? (i := 478) (by decide +kernel)⟩
theorem lw_p19 : lw_okq (⟨"ScopeKeeper", "tryClearing", "(LScopeKeeper$Registration;)Z"⟩, 12) := ⟨⟨by decide +kernel, by decide +kernel⟩, List.mem_of_getElem? (i := 19) (by decide +kernel), List.mem_of_getElem? (i := 481) (by decide +kernel), List.mem_of_getElem? (i := 482) (by decide +kernel)⟩
theorem lw_p20 : lw_okq (⟨"ScopeKeeper", "leastFreeClient", "()I"⟩, 12) := ⟨⟨by decide +kernel, by decide +kernel⟩, List.mem_of_getElem? (i := 19) (by decide +kernel), List.mem_of_getElem? (i := 496) (by decide +kernel), List.mem_of_getElem? (i := 497) (by decide +kernel)⟩
theorem lw_p21 : lw_okq (⟨"ScopeKeeper", "registrationFor", "(I)LScopeKeeper$Registration;"⟩, 12) := ⟨⟨by decide +kernel, by decide +kernel⟩, List.mem_of_getElem? (i := 19) (by decide +kernel), List.mem_of_getElem? (i := 501) (by decide +kernel), List.mem_of_getElem? (i := 502) (by decide +kernel)⟩
theorem lw_p22 : lw_okq (⟨"ScopeKeeper", "refuseNoClient", "(I)V"⟩, 12) := ⟨⟨by decide +kernel, by decide +kernel⟩, List.mem_of_getElem? (i := 19) (by decide +kernel), List.mem_of_getElem? (i := 512) (by decide +kernel), List.mem_of_getElem? (i := 513) (by decide +kernel)⟩
theorem lw_p23 : lw_okq (⟨"ScopeKeeper", "settleAfterLoss", "(LScopeKeeper$Worker;)V"⟩, 12) := ⟨⟨by decide +kernel, by decide +kernel⟩, List.mem_of_getElem? (i := 19) (by decide +kernel), List.mem_of_getElem? (i := 517) (by decide +kernel), List.mem_of_getElem? (i := 518) (by decide +kernel)⟩
theorem lw_p24 : lw_okq (⟨"ScopeKeeper", "registrationWithActive", "(LScopeKeeper$Worker;)LScopeKeeper$Registration;"⟩, 12) := ⟨⟨by decide +kernel, by decide +kernel⟩, List.mem_of_getElem? (i := 19) (by decide +kernel), List.mem_of_getElem? (i := 521) (by decide +kernel), List.mem_of_getElem? (i := 522) (by decide +kernel)⟩
theorem lw_p25 : lw_okq (⟨"ScopeKeeper", "needRegistration", "(I)LScopeKeeper$Registration;"⟩, 12) := ⟨⟨by decide +kernel, by decide +kernel⟩, List.mem_of_getElem? (i := 19) (by decide +kernel), List.mem_of_getElem? (i := 532) (by decide +kernel), List.mem_of_getElem? (i := 533) (by decide +kernel)⟩
theorem lw_p26 : lw_okq (⟨"ScopeKeeper", "networkAnswer", "(I)I"⟩, 12) := ⟨⟨by decide +kernel, by decide +kernel⟩, List.mem_of_getElem? (i := 19) (by decide +kernel), List.mem_of_getElem? (i := 554) (by decide +kernel), List.mem_of_getElem? (i := 555) (by decide +kernel)⟩
theorem lw_p27 : lw_okq (⟨"ScopeKeeper$Cache", "placeOf", "(I)I"⟩, 3) := ⟨⟨by decide +kernel, by decide +kernel⟩, List.mem_of_getElem? (i := 427) (by decide +kernel), List.mem_of_getElem? (i := 578) (by decide +kernel), List.mem_of_getElem? (i := 579) (by decide +kernel)⟩
theorem lw_p28 : lw_okq (⟨"ScopeKeeper$Cache", "drop", "(I)V"⟩, 3) := ⟨⟨by decide +kernel, by decide +kernel⟩, List.mem_of_getElem? (i := 427) (by decide +kernel), List.mem_of_getElem? (i := 595) (by decide +kernel), List.mem_of_getElem? (i := 596) (by decide +kernel)⟩
theorem lw_p29 : lw_okq (⟨"ScopeKeeper", "clientsThere", "()I"⟩, 12) := ⟨⟨by decide +kernel, by decide +kernel⟩, List.mem_of_getElem? (i := 19) (by decide +kernel), List.mem_of_getElem? (i := 662) (by decide +kernel), List.mem_of_getElem? (i := 663) (by decide +kernel)⟩
theorem lw_p30 : lw_okq (⟨"ScopeKeeper", "jobsNotEnded", "()I"⟩, 12) := ⟨⟨by decide +kernel, by decide +kernel⟩, List.mem_of_getElem? (i := 19) (by decide +kernel), List.mem_of_getElem? (i := 666) (by decide +kernel), List.mem_of_getElem? (i := 667) (by decide +kernel)⟩
theorem lw_p31 : lw_okq (⟨"ScopeKeeperModel", "fail", "(I)I"⟩, 36) := ⟨⟨by decide +kernel, by decide +kernel⟩, List.mem_of_getElem? (i := 670) (by decide +kernel), List.mem_of_getElem? (i := 809) (by decide +kernel), List.mem_of_getElem? (i := 810) (by decide +kernel)⟩
def lw_privs_2 : List (MethodName × Nat) := [(⟨"ScopeKeeper", "beginInstall", "(LScopeKeeper$Registration;)V"⟩, 12), (⟨"ScopeKeeper", "beginUpdate", "(I)I"⟩, 12), (⟨"ScopeKeeper", "unregister", "(I)I"⟩, 12), (⟨"ScopeKeeper", "tryClearing", "(LScopeKeeper$Registration;)Z"⟩, 12), (⟨"ScopeKeeper", "leastFreeClient", "()I"⟩, 12), (⟨"ScopeKeeper", "registrationFor", "(I)LScopeKeeper$Registration;"⟩, 12), (⟨"ScopeKeeper", "refuseNoClient", "(I)V"⟩, 12), (⟨"ScopeKeeper", "settleAfterLoss", "(LScopeKeeper$Worker;)V"⟩, 12), (⟨"ScopeKeeper", "registrationWithActive", "(LScopeKeeper$Worker;)LScopeKeeper$Registration;"⟩, 12), (⟨"ScopeKeeper", "needRegistration", "(I)LScopeKeeper$Registration;"⟩, 12), (⟨"ScopeKeeper", "networkAnswer", "(I)I"⟩, 12), (⟨"ScopeKeeper$Cache", "placeOf", "(I)I"⟩, 3), (⟨"ScopeKeeper$Cache", "drop", "(I)V"⟩, 3), (⟨"ScopeKeeper", "clientsThere", "()I"⟩, 12), (⟨"ScopeKeeper", "jobsNotEnded", "()I"⟩, 12), (⟨"ScopeKeeperModel", "fail", "(I)I"⟩, 36)]
theorem lw_r2 : ∀ q ∈ lw_privs_2, lw_okq q := List.forall_mem_cons.mpr ⟨lw_p16, List.forall_mem_cons.mpr ⟨lw_p17, List.forall_mem_cons.mpr ⟨lw_p18, List.forall_mem_cons.mpr ⟨lw_p19, List.forall_mem_cons.mpr ⟨lw_p20, List.forall_mem_cons.mpr ⟨lw_p21, List.forall_mem_cons.mpr ⟨lw_p22, List.forall_mem_cons.mpr ⟨lw_p23, List.forall_mem_cons.mpr ⟨lw_p24, List.forall_mem_cons.mpr ⟨lw_p25, List.forall_mem_cons.mpr ⟨lw_p26, List.forall_mem_cons.mpr ⟨lw_p27, List.forall_mem_cons.mpr ⟨lw_p28, List.forall_mem_cons.mpr ⟨lw_p29, List.forall_mem_cons.mpr ⟨lw_p30, List.forall_mem_cons.mpr ⟨lw_p31, fun _ h => absurd h List.not_mem_nil⟩⟩⟩⟩⟩⟩⟩⟩⟩⟩⟩⟩⟩⟩⟩⟩
theorem lw_p32 : lw_okq (⟨"ScopeKeeperModel", "firstOf", "(I)I"⟩, 36) := ⟨⟨by decide +kernel, by decide +kernel⟩, List.mem_of_getElem? (i := 670) (by decide +kernel), List.mem_of_getElem? (i := 817) (by decide +kernel), List.mem_of_getElem? (i := 818) (by decide +kernel)⟩
theorem lw_p33 : lw_okq (⟨"ScopeKeeperModel", "installed", "(I)V"⟩, 36) := ⟨⟨by decide +kernel, by decide +kernel⟩, List.mem_of_getElem? (i := 670) (by decide +kernel), List.mem_of_getElem? (i := 821) (by decide +kernel), List.mem_of_getElem? (i := 822) (by decide +kernel)⟩
theorem lw_p34 : lw_okq (⟨"ScopeKeeperModel", "find", "(I)I"⟩, 36) := ⟨⟨by decide +kernel, by decide +kernel⟩, List.mem_of_getElem? (i := 670) (by decide +kernel), List.mem_of_getElem? (i := 825) (by decide +kernel), List.mem_of_getElem? (i := 826) (by decide +kernel)⟩
theorem lw_p35 : lw_okq (⟨"ScopeKeeperModel", "come", "(II)V"⟩, 36) := ⟨⟨by decide +kernel, by decide +kernel⟩, List.mem_of_getElem? (i := 670) (by decide +kernel), List.mem_of_getElem? (i := 829) (by decide +kernel), List.mem_of_getElem? (i := 830) (by decide +kernel)⟩
theorem lw_p36 : lw_okq (⟨"ScopeKeeperModel", "write", "(I)V"⟩, 36) := ⟨⟨by decide +kernel, by decide +kernel⟩, List.mem_of_getElem? (i := 670) (by decide +kernel), List.mem_of_getElem? (i := 833) (by decide +kernel), List.mem_of_getElem? (i := 834) (by decide +kernel)⟩
theorem lw_p37 : lw_okq (⟨"ScopeKeeperModel", "go", "(I)V"⟩, 36) := ⟨⟨by decide +kernel, by decide +kernel⟩, List.mem_of_getElem? (i := 670) (by decide +kernel), List.mem_of_getElem? (i := 837) (by decide +kernel), List.mem_of_getElem? (i := 838) (by decide +kernel)⟩
theorem lw_p38 : lw_okq (⟨"ScopeKeeperModel", "finish", "(II)V"⟩, 36) := ⟨⟨by decide +kernel, by decide +kernel⟩, List.mem_of_getElem? (i := 670) (by decide +kernel), List.mem_of_getElem? (i := 841) (by decide +kernel), List.mem_of_getElem? (i := 842) (by decide +kernel)⟩
theorem lw_p39 : lw_okq (⟨"ScopeKeeperModel", "activate", "(I)V"⟩, 36) := ⟨⟨by decide +kernel, by decide +kernel⟩, List.mem_of_getElem? (i := 670) (by decide +kernel), List.mem_of_getElem? (i := 845) (by decide +kernel), List.mem_of_getElem? (i := 846) (by decide +kernel)⟩
theorem lw_p40 : lw_okq (⟨"ScopeKeeperModel", "isControlling", "(I)Z"⟩, 36) := ⟨⟨by decide +kernel, by decide +kernel⟩, List.mem_of_getElem? (i := 670) (by decide +kernel), List.mem_of_getElem? (i := 849) (by decide +kernel), List.mem_of_getElem? (i := 850) (by decide +kernel)⟩
theorem lw_p41 : lw_okq (⟨"ScopeKeeperModel", "control", "(II)V"⟩, 36) := ⟨⟨by decide +kernel, by decide +kernel⟩, List.mem_of_getElem? (i := 670) (by decide +kernel), List.mem_of_getElem? (i := 853) (by decide +kernel), List.mem_of_getElem? (i := 854) (by decide +kernel)⟩
theorem lw_p42 : lw_okq (⟨"ScopeKeeperModel", "register", "(I)V"⟩, 36) := ⟨⟨by decide +kernel, by decide +kernel⟩, List.mem_of_getElem? (i := 670) (by decide +kernel), List.mem_of_getElem? (i := 857) (by decide +kernel), List.mem_of_getElem? (i := 858) (by decide +kernel)⟩
theorem lw_p43 : lw_okq (⟨"ScopeKeeperModel", "isSame", "(II)Z"⟩, 36) := ⟨⟨by decide +kernel, by decide +kernel⟩, List.mem_of_getElem? (i := 670) (by decide +kernel), List.mem_of_getElem? (i := 867) (by decide +kernel), List.mem_of_getElem? (i := 868) (by decide +kernel)⟩
theorem lw_p44 : lw_okq (⟨"ScopeKeeperModel", "install", "(II)V"⟩, 36) := ⟨⟨by decide +kernel, by decide +kernel⟩, List.mem_of_getElem? (i := 670) (by decide +kernel), List.mem_of_getElem? (i := 871) (by decide +kernel), List.mem_of_getElem? (i := 872) (by decide +kernel)⟩
theorem lw_p45 : lw_okq (⟨"ScopeKeeperModel", "update", "(I)V"⟩, 36) := ⟨⟨by decide +kernel, by decide +kernel⟩, List.mem_of_getElem? (i := 670) (by decide +kernel), List.mem_of_getElem? (i := 875) (by decide +kernel), List.mem_of_getElem? (i := 876) (by decide +kernel)⟩
theorem lw_p46 : lw_okq (⟨"ScopeKeeperModel", "unregister", "(I)V"⟩, 36) := ⟨⟨by decide +kernel, by decide +kernel⟩, List.mem_of_getElem? (i := 670) (by decide +kernel), List.mem_of_getElem? (i := 879) (by decide +kernel), List.mem_of_getElem? (i := 880) (by decide +kernel)⟩
theorem lw_p47 : lw_okq (⟨"ScopeKeeperModel", "clearAway", "(I)Z"⟩, 36) := ⟨⟨by decide +kernel, by decide +kernel⟩, List.mem_of_getElem? (i := 670) (by decide +kernel), List.mem_of_getElem? (i := 883) (by decide +kernel), List.mem_of_getElem? (i := 884) (by decide +kernel)⟩
def lw_privs_3 : List (MethodName × Nat) := [(⟨"ScopeKeeperModel", "firstOf", "(I)I"⟩, 36), (⟨"ScopeKeeperModel", "installed", "(I)V"⟩, 36), (⟨"ScopeKeeperModel", "find", "(I)I"⟩, 36), (⟨"ScopeKeeperModel", "come", "(II)V"⟩, 36), (⟨"ScopeKeeperModel", "write", "(I)V"⟩, 36), (⟨"ScopeKeeperModel", "go", "(I)V"⟩, 36), (⟨"ScopeKeeperModel", "finish", "(II)V"⟩, 36), (⟨"ScopeKeeperModel", "activate", "(I)V"⟩, 36), (⟨"ScopeKeeperModel", "isControlling", "(I)Z"⟩, 36), (⟨"ScopeKeeperModel", "control", "(II)V"⟩, 36), (⟨"ScopeKeeperModel", "register", "(I)V"⟩, 36), (⟨"ScopeKeeperModel", "isSame", "(II)Z"⟩, 36), (⟨"ScopeKeeperModel", "install", "(II)V"⟩, 36), (⟨"ScopeKeeperModel", "update", "(I)V"⟩, 36), (⟨"ScopeKeeperModel", "unregister", "(I)V"⟩, 36), (⟨"ScopeKeeperModel", "clearAway", "(I)Z"⟩, 36)]
theorem lw_r3 : ∀ q ∈ lw_privs_3, lw_okq q := List.forall_mem_cons.mpr ⟨lw_p32, List.forall_mem_cons.mpr ⟨lw_p33, List.forall_mem_cons.mpr ⟨lw_p34, List.forall_mem_cons.mpr ⟨lw_p35, List.forall_mem_cons.mpr ⟨lw_p36, List.forall_mem_cons.mpr ⟨lw_p37, List.forall_mem_cons.mpr ⟨lw_p38, List.forall_mem_cons.mpr ⟨lw_p39, List.forall_mem_cons.mpr ⟨lw_p40, List.forall_mem_cons.mpr ⟨lw_p41, List.forall_mem_cons.mpr ⟨lw_p42, List.forall_mem_cons.mpr ⟨lw_p43, List.forall_mem_cons.mpr ⟨lw_p44, List.forall_mem_cons.mpr ⟨lw_p45, List.forall_mem_cons.mpr ⟨lw_p46, List.forall_mem_cons.mpr ⟨lw_p47, fun _ h => absurd h List.not_mem_nil⟩⟩⟩⟩⟩⟩⟩⟩⟩⟩⟩⟩⟩⟩⟩⟩
theorem lw_p48 : lw_okq (⟨"ScopeKeeperModel", "forPath", "(I)I"⟩, 36) := ⟨⟨by decide +kernel, by decide +kernel⟩, List.mem_of_getElem? (i := 670) (by decide +kernel), List.mem_of_getElem? (i := 891) (by decide +kernel), List.mem_of_getElem? (i := 892) (by decide +kernel)⟩
theorem lw_p49 : lw_okq (⟨"ScopeKeeperModel", "settle", "(I)V"⟩, 36) := ⟨⟨by decide +kernel, by decide +kernel⟩, List.mem_of_getElem? (i := 670) (by decide +kernel), List.mem_of_getElem? (i := 899) (by decide +kernel), List.mem_of_getElem? (i := 900) (by decide +kernel)⟩
theorem lw_p50 : lw_okq (⟨"ScopeKeeperModel", "withActive", "(I)I"⟩, 36) := ⟨⟨by decide +kernel, by decide +kernel⟩, List.mem_of_getElem? (i := 670) (by decide +kernel), List.mem_of_getElem? (i := 903) (by decide +kernel), List.mem_of_getElem? (i := 904) (by decide +kernel)⟩
theorem lw_p51 : lw_okq (⟨"ScopeKeeperModel", "cached", "(II)I"⟩, 36) := ⟨⟨by decide +kernel, by decide +kernel⟩, List.mem_of_getElem? (i := 670) (by decide +kernel), List.mem_of_getElem? (i := 919) (by decide +kernel), List.mem_of_getElem? (i := 920) (by decide +kernel)⟩
theorem lw_p52 : lw_okq (⟨"ScopeKeeperModel", "keep", "(III)V"⟩, 36) := ⟨⟨by decide +kernel, by decide +kernel⟩, List.mem_of_getElem? (i := 670) (by decide +kernel), List.mem_of_getElem? (i := 923) (by decide +kernel), List.mem_of_getElem? (i := 924) (by decide +kernel)⟩
def lw_privs_4 : List (MethodName × Nat) := [(⟨"ScopeKeeperModel", "forPath", "(I)I"⟩, 36), (⟨"ScopeKeeperModel", "settle", "(I)V"⟩, 36), (⟨"ScopeKeeperModel", "withActive", "(I)I"⟩, 36), (⟨"ScopeKeeperModel", "cached", "(II)I"⟩, 36), (⟨"ScopeKeeperModel", "keep", "(III)V"⟩, 36)]
theorem lw_r4 : ∀ q ∈ lw_privs_4, lw_okq q := List.forall_mem_cons.mpr ⟨lw_p48, List.forall_mem_cons.mpr ⟨lw_p49, List.forall_mem_cons.mpr ⟨lw_p50, List.forall_mem_cons.mpr ⟨lw_p51, List.forall_mem_cons.mpr ⟨lw_p52, fun _ h => absurd h List.not_mem_nil⟩⟩⟩⟩⟩
def lw_privs : List (MethodName × Nat) := lw_privs_1 ++ (lw_privs_2 ++ (lw_privs_3 ++ (lw_privs_4)))
def lw_tbl : List Cond := k2_sels lw_privs ++ tables_1
theorem lw_privs_ok : ∀ q ∈ lw_privs, lw_okq q := by
  show ∀ q ∈ lw_privs_1 ++ (lw_privs_2 ++ (lw_privs_3 ++ (lw_privs_4))), lw_okq q
  exact List.forall_mem_append.mpr ⟨lw_r1, List.forall_mem_append.mpr ⟨lw_r2, List.forall_mem_append.mpr ⟨lw_r3, lw_r4⟩⟩⟩
end
section
/-! ===== BEGIN words of one list among another's, by their places ===== -/
theorem goodIn_r {big : List Cond} (ws : List Cond) (ps : List Nat) (hp : ws = ps.filterMap (fun i => big[i]?)) (h : ws.all goodWord = true) : GoodIn big ws := by
  intro w hw
  have h1 := List.all_eq_true.mp h w hw
  rw [hp] at hw
  obtain ⟨i, -, hi⟩ := List.mem_filterMap.mp hw
  have hm : w ∈ big := by first | exact List.mem_of_getElem? hi | exact List.getElem?_mem hi
  exact ⟨hm, good_of_word h1⟩
theorem goodIn_app {big a b : List Cond} (ha : GoodIn big a) (hb : GoodIn big b) : GoodIn big (a ++ b) := fun w h => (List.mem_append.mp h).elim (ha w) (hb w)
theorem goodIn_ca {big a b : List Cond} {c : Cond} (ha : GoodIn big (c :: a)) (hb : GoodIn big b) : GoodIn big (c :: (a ++ b)) := fun w h => (List.mem_cons.mp h).elim (fun e => ha w (List.mem_cons.mpr (Or.inl e))) (fun h => (List.mem_append.mp h).elim (fun h => ha w (List.mem_cons.mpr (Or.inr h))) (hb w))
theorem goodIn_sub {big ws : List Cond} (hm : ∀ w ∈ ws, w ∈ big) (h : ws.all goodWord = true) : GoodIn big ws := fun w hw => ⟨hm w hw, good_of_word (List.all_eq_true.mp h w hw)⟩
/-! ===== END ===== -/

/-! ===== BEGIN exceptions that leave a method, and their catching by the caller (launches without stack traces) ===== -/
section VXA
/-! The laws vx_back, vx_callV, vx_callS, vx_callSW, vx_throw0, vx_throwS follow proofs of the library, with one case more: JvmDerived/Free/Laws.lean (Back.of_free), Shelf42/LK1.lean (callV, callS), Shelf/KitTraced.lean (throwNew0V, throwNewS). -/
/-- where a method has thrown q: the class by its name, the cell, what was written, the world -/
def vx_T (XC : String → State → State → Prop) (st : State) (q : Addr) (t : State) (mc ms : Nat) (free : Addr → Prop) : Prop :=
  ∃ (E : String) (ce : Cell) (L : List Loc), XC E st t ∧ t.heap[q]? = some ce ∧ ce.vm = .none ∧ st.vm.findClass E = some ce.cls ∧ st.WarmedH t.vm ∧ st.sameButNew ({ t with vm := st.vm } : State) L mc ms ∧ ∀ z ∈ L, free z.base
def vx_Q (Qc : Array Value → State → Outcome → State → Prop) (XC : String → State → State → Prop) (mc ms : Nat) (free : Addr → Prop) : Array Value → State → Outcome → State → Prop := fun a st o t =>
  (Qc a st o t ∧ ∃ L, FrameEnd st o t L mc ms ∧ ∀ q ∈ L, free q.base) ∨ ∃ q, o = .threw q ∧ vx_T XC st q t mc ms free
/-- a callee that returns or throws -/
def vx_Met (l : Launch) (y : MethodName) (ws : List Cond) (rm : Room) (Pc : Array Value → State → Prop) (Qc : Array Value → State → Outcome → State → Prop) (XC : String → State → State → Prop) (mc ms : Nat) (free : Addr → Prop) : Prop :=
  MetFree l y (headSpec ws rm) Pc (fun _ _ _ _ _ => True) (vx_Q Qc XC mc ms free)
def vx_Post (XC : String → State → State → Prop) (mc ms : Nat) (free : Addr → Prop) : Pt → Array Value → Addr → Pt → Prop := fun A a q B =>
  ∃ (g : JFrame) (mk : MethodId) (t : State) (L : List Loc) (E : String) (ce : Cell), B.U.heap = t.heap ∧ B.U.vm = t.vm ∧ XC E (A.U.calling g mk a) t ∧ t.heap[q]? = some ce ∧ ce.vm = .none ∧ A.U.vm.findClass E = some ce.cls ∧ B.locs = A.locs ++ L ∧ (∀ z ∈ L, free z.base) ∧ B.cells = A.cells + mc ∧ B.slots = A.slots + ms
def vx_Back (l : Launch) (R : Room) (p : Program) (e : Env) (below : List Frame) (s : State) (sargs : Array Value) (y : MethodName) (len W9 : Nat)
    (Pre : Pt → Array Value → Prop) (Post : Pt → Array Value → Option Value → Pt → Prop) (PostX : Pt → Array Value → Addr → Pt → Prop) : Prop :=
  ∀ (m : MethodId) (meth : Method) (c : Code) (A : Pt) (g : JFrame) (ig : Instr) (mk : MethodId) (a : Array Value),
    Stand p l e R s m sargs below meth c A.U A.locs A.cells A.slots → g.method = m → g.locals.size = c.maxLocals → decode c.code g.pc = .ok (ig, len) →
    2 * g.monitorRoom + (g.stack.map fun v => v.category).sum ≤ W9 → A.U.methodNamed? y = some mk → Pre A a →
    (∃ (v : Option Value) (B : Pt), Stand p l e R s m sargs below meth c B.U B.locs B.cells B.slots ∧ Post A a v B ∧
      Steps p.tables e below (doInvoke e (A.U.setTop g) [] mk a).1 (B.U.setTop { g with pc := g.pc + len, stack := v.toList ++ g.stack })) ∨
    (∃ (q : Addr) (B : Pt), Stand p l e R s m sargs below meth c B.U B.locs B.cells B.slots ∧ PostX A a q B ∧
      Steps p.tables e below (doInvoke e (A.U.setTop g) [] mk a).1 ((B.U.setTop g).pushFrame (.throwing q)))
section Payer
variable {l : Launch} {R : Room} {p : Program} {e : Env} {below : List Frame} {s : State} {sargs : Array Value} {y : MethodName} {len W9 : Nat}
theorem vx_back {ws : List Cond} {rm : Room} {Pc : Array Value → State → Prop} {Qc : Array Value → State → Outcome → State → Prop} {XC : String → State → State → Prop} {mc ms : Nat} {free : Addr → Prop} {bytes : ByteArray} {maxL : Nat} {ret : Option FieldType}
    (hM : vx_Met l y ws rm Pc Qc XC mc ms free) (hblind : FrameBlind Pc) (hrc : rm.cells = mc) (hrs : rm.slots = ms)
    (hframes : rm.frames + 1 ≤ R.frames) (hlocals : W9 + (maxL + 11) + rm.locals ≤ R.locals)
    (hws : ∀ w ∈ ws, ∀ a' U, s.WarmedH U.vm → w.before a' U = true) (hcode : Cond.code y bytes maxL ret ∈ ws) (hinit : ∀ a' U, s.WarmedH U.vm → (Cond.initialized y.cls).before a' U = true) :
    vx_Back l R p e below s sargs y len W9 (PreOf R mc ms Pc) (PostOf Qc mc ms free) (vx_Post XC mc ms free) := by
  intro m meth c A g ig mk a X hg hsize hdg hW hn hp
  have h1 : (headSpec ws rm).pre.before a A.U = true := atoms_intro fun w hw => hws w hw _ _ X.warmed
  have h2 : (Cond.code y bytes maxL ret).before a A.U = true := hws _ hcode _ _ X.warmed
  have h3 : (Cond.initialized y.cls).before a A.U = true := hinit _ _ X.warmed
  have h4 : A.cells + (headSpec ws rm).room.cells ≤ R.cells := by rw [show (headSpec ws rm).room.cells = mc from hrc]; exact hp.1
  have h5 : A.slots + (headSpec ws rm).room.slots ≤ R.slots := by rw [show (headSpec ws rm).room.slots = ms from hrs]; exact hp.2.1
  have hPc : Pc a (A.U.calling g mk a) := hblind _ _ _ _ hp.2.2
  obtain ⟨U, Ls, c0, s0⟩ := A
  dsimp only [Pt.U, Pt.locs, Pt.cells, Pt.slots] at h1 h2 h3 h4 h5 X hn hPc ⊢
  obtain ⟨methY, cY, hmY, hcY, -, hlY, -, -, -, -⟩ := Cond.code_spec hn h2
  obtain ⟨kY, hkY, -⟩ := className_of_methodNamed hn
  have hinitY : kY.init = .initialized := Cond.initialized_spec (findClass_of_methodNamed hn) hkY h3
  have h : At U g.method c below := by rw [hg]; exact X.here
  have hlocals9 : W9 + (maxL + 11) + (headSpec ws rm).room.locals ≤ R.locals := hlocals
  have happ : (headSpec ws rm).appliesLoose y e.platform (U.calling g mk a) = true :=
    Spec.appliesLoose_calling (g := g) h hdg hn hkY hinitY
      (X.room_calling (g := g) (R' := (headSpec ws rm).room) hsize hmY hcY hframes (by rw [hlY]; omega) h4 h5) h1
  obtain ⟨mid, hmid⟩ := h.above
  have hfr : (U.setTop g).frames = (.java g :: mid) ++ below := by rw [State.frames_setTop' g h.top, hmid]; rfl
  obtain ⟨o, s₂, hsteps, -, hend, hq⟩ := Steps.callFree hM p X.admits X.cas X.clock (acts := []) hfr happ hPc trivial
  have hq' : vx_Q Qc XC mc ms free a (U.calling g mk a) o s₂ := hq
  rw [State.frames_setTop' g h.top] at hend
  obtain ⟨g₀, hg0⟩ := Option.isSome_iff_exists.mp h.top
  obtain ⟨r, hr⟩ := State.topJava?_eq_some.mp hg0
  have hr' : (({ U with heap := s₂.heap, slotsUsed := s₂.slotsUsed } : State).setVm s₂.vm).frames = .java g₀ :: r := hr
  rcases hq' with ⟨hqc, L, hfe, hL⟩ | ⟨q, rfl, E, ce, L, hx, hce, hcv, hcl, hW₂, hsm, hL⟩
  · obtain ⟨⟨v, rfl⟩, hW₂, e2, q2, q3, q4, q5, q6⟩ := id hfe
    have e3 : s₂ = ({ (U.calling g mk a).setFrames s₂.frames with heap := s₂.heap, slotsUsed := s₂.slotsUsed } : State).setVm s₂.vm := by
      have : s₂ = ({ s₂ with vm := (U.calling g mk a).vm } : State).setVm s₂.vm := rfl
      rw [e2] at this
      exact this
    obtain ⟨c₂, i₂, len₂, hc₂, hd₂, hf₂⟩ := hend
    have hW' : U.WarmedH s₂.vm := hW₂
    have hcc : c₂ = c := by
      have h1 : s₂.code? g.method = U.code? g.method := by
        rw [State.code?_eq, State.code?_eq, hW'.alike.method?]
      exact Option.some.inj (hc₂.symm.trans (h1.trans h.code))
    subst hcc
    have hlen : len₂ = len := by rw [hdg] at hd₂; cases hd₂; rfl
    subst hlen
    have hs₂ : s₂ = (({ U with heap := s₂.heap, slotsUsed := s₂.slotsUsed } : State).setVm s₂.vm).setTop { g with pc := g.pc + len₂, stack := v.toList ++ g.stack } := by
      refine e3.trans ?_
      rw [hf₂, State.calling_eq h.top, State.setFrames_setFrames, State.setTop_of_frames _ hr', hr]
      rfl
    have hsame : U.sameButNew ({ U with heap := s₂.heap, slotsUsed := s₂.slotsUsed } : State) L mc ms := by
      refine ⟨?_, q2, q3, q4, q5, q6⟩
      obtain ⟨t, ht, -⟩ := State.frames_cons hr
      show ({ U with heap := s₂.heap, slotsUsed := s₂.slotsUsed } : State) = { U.setFrames U.frames with heap := s₂.heap, slotsUsed := s₂.slotsUsed }
      rw [State.setFrames_self ht]
    subst hg
    refine Or.inl ⟨v, ⟨(({ U with heap := s₂.heap, slotsUsed := s₂.slotsUsed } : State).setVm s₂.vm), Ls ++ L, c0 + mc, s0 + ms⟩,
      ⟨X.admits, X.cas, X.clock, X.frames, X.room, X.hears, X.method, X.code, (X.here.setHeapUsed s₂.heap s₂.slotsUsed).setVm hW'.alike, X.tail, State.WarmedH.trans X.warmed hW', X.limits, X.bytes, X.same.trans (hsame.setVm s.vm)⟩,
      ⟨g, mk, s₂, L, rfl, rfl, hqc, rfl, hL, rfl, rfl⟩, ?_⟩
    show Steps p.tables e below _ ((({ U with heap := s₂.heap, slotsUsed := s₂.slotsUsed } : State).setVm s₂.vm).setTop { g with pc := g.pc + len₂, stack := v.toList ++ g.stack })
    rw [← hs₂]
    exact hsteps
  · obtain ⟨e2, q2, q3, q4, q5, q6⟩ := id hsm
    have e3 : s₂ = ({ (U.calling g mk a).setFrames s₂.frames with heap := s₂.heap, slotsUsed := s₂.slotsUsed } : State).setVm s₂.vm := by
      have : s₂ = ({ s₂ with vm := (U.calling g mk a).vm } : State).setVm s₂.vm := rfl
      rw [e2] at this
      exact this
    have hf₂ : s₂.frames = .throwing q :: .java g :: U.frames.tail := hend
    have hW' : U.WarmedH s₂.vm := hW₂
    have hs₂ : s₂ = ((({ U with heap := s₂.heap, slotsUsed := s₂.slotsUsed } : State).setVm s₂.vm).setTop g).pushFrame (.throwing q) := by
      refine e3.trans ?_
      rw [hf₂, State.calling_eq h.top, State.setFrames_setFrames, State.pushFrame, State.frames_setTop _ hr', State.setTop_of_frames _ hr', State.setFrames_setFrames, hr]
      rfl
    have hsame : U.sameButNew ({ U with heap := s₂.heap, slotsUsed := s₂.slotsUsed } : State) L mc ms := by
      refine ⟨?_, q2, q3, q4, q5, q6⟩
      obtain ⟨t, ht, -⟩ := State.frames_cons hr
      show ({ U with heap := s₂.heap, slotsUsed := s₂.slotsUsed } : State) = { U.setFrames U.frames with heap := s₂.heap, slotsUsed := s₂.slotsUsed }
      rw [State.setFrames_self ht]
    subst hg
    refine Or.inr ⟨q, ⟨(({ U with heap := s₂.heap, slotsUsed := s₂.slotsUsed } : State).setVm s₂.vm), Ls ++ L, c0 + mc, s0 + ms⟩,
      ⟨X.admits, X.cas, X.clock, X.frames, X.room, X.hears, X.method, X.code, (X.here.setHeapUsed s₂.heap s₂.slotsUsed).setVm hW'.alike, X.tail, State.WarmedH.trans X.warmed hW', X.limits, X.bytes, X.same.trans (hsame.setVm s.vm)⟩,
      ⟨g, mk, s₂, L, E, ce, rfl, rfl, hx, hce, hcv, hcl, rfl, hL, rfl, rfl⟩, ?_⟩
    show Steps p.tables e below _ (((({ U with heap := s₂.heap, slotsUsed := s₂.slotsUsed } : State).setVm s₂.vm).setTop g).pushFrame (.throwing q))
    rw [← hs₂]
    exact hsteps
end Payer
section Calls
variable {p : Program} {l : Launch} {e : Env} {R : Room} {s : State} {m : MethodId} {args : Array Value} {below : List Frame} {meth : Method} {c : Code} {T : State} {locs : List Loc} {cells slots : Nat}
theorem vx_callV (X : Stand p l e R s m args below meth c T locs cells slots) (hexec : p.tables.exec = Jvm.exec) {own C : String} {index : Nat} {y : MethodName} {bytes : ByteArray} {maxL : Nat} {ret : Option FieldType}
    (hown : s.vm.findClass own = some m.cls) (hlink : (Cond.methodLink own index y).before args s = true) (hinst : (Cond.instanceMethod y).before args s = true) (hsel : (Cond.selects C y y).before args s = true)
    (hcode : (Cond.code y bytes maxL ret).before args s = true) (hy : y.cls ≠ "java/lang/invoke/MethodHandle" ∧ y.cls ≠ "java/lang/invoke/VarHandle")
    {W9 : Nat} {Pre : Pt → Array Value → Prop} {Post : Pt → Array Value → Option Value → Pt → Prop} {PostX : Pt → Array Value → Addr → Pt → Prop} (hK : vx_Back l R p e below s args y 3 W9 Pre Post PostX)
    {b : Addr} {cellB : Cell} (hcell : T.heap[b]? = some cellB) (hobj : cellB.vm.isStatics = false) (hcls : s.vm.findClass C = some cellB.cls)
    {g : JFrame} (hg : g.method = m) (hsize : g.locals.size = c.maxLocals) {argsL rest : List Value} (hlen : ∀ sig, parseMethodDescriptor y.desc = some sig → argsL.length = sig.parameters.length)
    (hstack : g.stack = argsL.reverse ++ .ref b :: rest) (hW : 2 * g.monitorRoom + (rest.map fun v => v.category).sum ≤ W9) (hdg : decode c.code g.pc = .ok (.invokevirtual index, 3))
    (hpre : ∀ vm₁, s.WarmedH vm₁ → Pre ⟨T.setVm vm₁, locs, cells, slots⟩ (Value.ref b :: argsL).toArray) :
    (∃ (v : Option Value) (vm₁ : Vm) (B : Pt), s.WarmedH vm₁ ∧ Stand p l e R s m args below meth c B.U B.locs B.cells B.slots ∧ Post ⟨T.setVm vm₁, locs, cells, slots⟩ (Value.ref b :: argsL).toArray v B ∧
      ∀ target, Steps p.tables e below (B.U.setTop { g with pc := g.pc + 3, stack := v.toList ++ rest }) target → Steps p.tables e below (T.setTop g) target) ∨
    (∃ (q : Addr) (vm₁ : Vm) (B : Pt), s.WarmedH vm₁ ∧ Stand p l e R s m args below meth c B.U B.locs B.cells B.slots ∧ PostX ⟨T.setVm vm₁, locs, cells, slots⟩ (Value.ref b :: argsL).toArray q B ∧
      Steps p.tables e below (T.setTop g) ((B.U.setTop { g with stack := rest }).pushFrame (.throwing q))) := by
  obtain ⟨mk, methM, hnamed, hmethM, hstM, habM⟩ := Cond.instanceMethod_spec hinst
  obtain ⟨methM', cM, hmethM', -, -, -, -, -, -, hsigM⟩ := Cond.code_spec hnamed hcode
  cases hmethM.symm.trans hmethM'
  obtain ⟨c2, r2, m2, q1, q2, q3, q4, kP, hkP, hkPi⟩ := Cond.selects_spec hsel
  cases hcls.symm.trans q1
  cases (State.methodFound?_of_named hnamed hy).symm.trans q2
  cases hnamed.symm.trans q3
  have hselP : selectMethod e.platform s.vm cellB.cls mk = .method mk := by rw [Launch.admits_selectMethod X.admits]; exact q4
  obtain ⟨vm₁, X₁, hstep₁⟩ := X.invokevirtual hexec hown hlink hnamed hmethM hstM hkP hkPi hy (a := b) (cell := cellB) hcell
    (fun z h => by rw [h] at hobj; cases hobj) hselP hmethM habM hkP hkPi (g := g) hg (argsL := argsL) (rest := rest) (hlen _ hsigM) hstack hdg
  rcases hK m meth c ⟨T.setVm vm₁, locs, cells, slots⟩ { g with stack := rest } (.invokevirtual index) mk (Value.ref b :: argsL).toArray X₁ hg hsize hdg hW (X₁.named hnamed) (hpre vm₁ X₁.warmed) with ⟨v, B, X', hpost, hsteps⟩ | ⟨q, B, X', hpost, hsteps⟩
  · exact Or.inl ⟨v, vm₁, B, X₁.warmed, X', hpost, fun target h => hstep₁ _ fun acts => by rw [doInvoke_state]; exact hsteps.trans h⟩
  · exact Or.inr ⟨q, vm₁, B, X₁.warmed, X', hpost, hstep₁ _ fun acts => by rw [doInvoke_state]; exact hsteps⟩
theorem vx_callS (X : Stand p l e R s m args below meth c T locs cells slots) (hexec : p.tables.exec = Jvm.exec) {own : String} {index : Nat} {y : MethodName} {bytes : ByteArray} {maxL : Nat} {ret : Option FieldType}
    (hown : s.vm.findClass own = some m.cls) (hlink : (Cond.methodLink own index y).before args s = true) (hstat : (Cond.static y).before args s = true) (hinit : (Cond.initialized y.cls).before args s = true)
    (hcode : (Cond.code y bytes maxL ret).before args s = true) (hy : y.cls ≠ "java/lang/invoke/MethodHandle" ∧ y.cls ≠ "java/lang/invoke/VarHandle")
    {W9 : Nat} {Pre : Pt → Array Value → Prop} {Post : Pt → Array Value → Option Value → Pt → Prop} {PostX : Pt → Array Value → Addr → Pt → Prop} (hK : vx_Back l R p e below s args y 3 W9 Pre Post PostX)
    {g : JFrame} (hg : g.method = m) (hsize : g.locals.size = c.maxLocals) {argsL rest : List Value} (hlen : ∀ sig, parseMethodDescriptor y.desc = some sig → argsL.length = sig.parameters.length)
    (hstack : g.stack = argsL.reverse ++ rest) (hW : 2 * g.monitorRoom + (rest.map fun v => v.category).sum ≤ W9) (hdg : decode c.code g.pc = .ok (.invokestatic index, 3))
    (hpre : ∀ vm₁, s.WarmedH vm₁ → Pre ⟨T.setVm vm₁, locs, cells, slots⟩ argsL.toArray) :
    (∃ (v : Option Value) (vm₁ : Vm) (B : Pt), s.WarmedH vm₁ ∧ Stand p l e R s m args below meth c B.U B.locs B.cells B.slots ∧ Post ⟨T.setVm vm₁, locs, cells, slots⟩ argsL.toArray v B ∧
      ∀ target, Steps p.tables e below (B.U.setTop { g with pc := g.pc + 3, stack := v.toList ++ rest }) target → Steps p.tables e below (T.setTop g) target) ∨
    (∃ (q : Addr) (vm₁ : Vm) (B : Pt), s.WarmedH vm₁ ∧ Stand p l e R s m args below meth c B.U B.locs B.cells B.slots ∧ PostX ⟨T.setVm vm₁, locs, cells, slots⟩ argsL.toArray q B ∧
      Steps p.tables e below (T.setTop g) ((B.U.setTop { g with stack := rest }).pushFrame (.throwing q))) := by
  obtain ⟨mk, hnamed⟩ := Cond.code_named hcode
  obtain ⟨methM, cM, hmethM, -, -, -, -, -, -, hsigM⟩ := Cond.code_spec hnamed hcode
  have hstatic : methM.isStatic = true := Cond.static_spec hnamed hmethM hstat
  obtain ⟨kP, hkP, -⟩ := className_of_methodNamed hnamed
  have hinitP : kP.init = .initialized := Cond.initialized_spec (findClass_of_methodNamed hnamed) hkP hinit
  obtain ⟨vm₁, X₁, hstep₁⟩ := X.invokestatic hexec hown hlink hnamed hmethM hstatic hkP hinitP hy (g := g) hg (argsL := argsL) (rest := rest) (hlen _ hsigM) hstack hdg
  rcases hK m meth c ⟨T.setVm vm₁, locs, cells, slots⟩ { g with stack := rest } (.invokestatic index) mk argsL.toArray X₁ hg hsize hdg hW (X₁.named hnamed) (hpre vm₁ X₁.warmed) with ⟨v, B, X', hpost, hsteps⟩ | ⟨q, B, X', hpost, hsteps⟩
  · exact Or.inl ⟨v, vm₁, B, X₁.warmed, X', hpost, fun target h => hstep₁ _ fun acts => by rw [doInvoke_state]; exact hsteps.trans h⟩
  · exact Or.inr ⟨q, vm₁, B, X₁.warmed, X', hpost, hstep₁ _ fun acts => by rw [doInvoke_state]; exact hsteps⟩
end Calls
theorem vx_cls {s : State} {T : State} {vm₁ : Vm} {E : String} {k : ClassId} (hW : s.WarmedH vm₁) (h : (T.setVm vm₁).vm.findClass E = some k) : s.vm.findClass E = some k := by
  have h1 : vm₁.findClass E = some k := h
  rw [hW.alike.findClass] at h1
  exact h1
/-- the method's frame g, with q thrown over it -/
def vx_W (p : Program) (l : Launch) (e : Env) (R : Room) (s : State) (m : MethodId) (args : Array Value) (below : List Frame) (meth : Method) (c : Code) (H : Heap) (locs : List Loc) (cells slots : Nat) (Q : State → Prop) (g : JFrame) (q : Addr) : Prop :=
  ∀ T : State, T.heap = H → Stand p l e R s m args below meth c T locs cells slots → ∃ t, Steps p.tables e below ((T.setTop g).pushFrame (.throwing q)) t ∧ Q t
def vx_Run (p : Program) (l : Launch) (e : Env) (R : Room) (s : State) (m : MethodId) (args : Array Value) (below : List Frame) (meth : Method) (c : Code) (H : Heap) (locs : List Loc) (cells slots mc ms : Nat) (g : JFrame) (rest : List Value) (Qa : State → Outcome → State → Prop) (XC : String → State → State → Prop) (free : Addr → Prop) : Prop :=
  ∀ T : State, T.heap = H → Stand p l e R s m args below meth c T locs cells slots →
    (∃ (v : Option Value) (st₀ t T' : State) (L : List Loc), st₀.heap = H ∧ Stand p l e R s m args below meth c T' (locs ++ L) (cells + mc) (slots + ms) ∧ (∀ q ∈ L, free q.base) ∧ T'.heap = t.heap ∧ T'.vm = t.vm ∧ Qa st₀ (.returned v) t ∧
      Goes p e below T g T' { g with pc := g.pc + 3, stack := v.toList ++ rest }) ∨
    (∃ (q : Addr) (st₀ t T' : State) (L : List Loc) (E : String) (ce : Cell), st₀.heap = H ∧ Stand p l e R s m args below meth c T' (locs ++ L) (cells + mc) (slots + ms) ∧ (∀ z ∈ L, free z.base) ∧ T'.heap = t.heap ∧ T'.vm = t.vm ∧ XC E st₀ t ∧ t.heap[q]? = some ce ∧ ce.vm = .none ∧ s.vm.findClass E = some ce.cls ∧
      Steps p.tables e below (T.setTop g) ((T'.setTop { g with stack := rest }).pushFrame (.throwing q)))
def vx_X {S : Type} (px : S → Prop) (B : String → S → State → Prop) (A : Nat → Prop) : String → State → State → Prop := fun E st t => ∃ u : S, px u ∧ B E u t ∧ va_F A st t
section Runs
variable {p : Program} {l : Launch} {e : Env} {R : Room} {s : State} {m : MethodId} {args : Array Value} {below : List Frame} {meth : Method} {c : Code} {H : Heap} {locs : List Loc} {cells slots : Nat}
variable {y : MethodName} {bytes cc : ByteArray} {maxL nL mc ms n index : Nat} {ret : Option FieldType} {ws : List Cond} {rm : Room} {Pc : Array Value → State → Prop} {Qc : Array Value → State → Outcome → State → Prop} {XC : String → State → State → Prop} {free : Addr → Prop} {Ts : List Cond} {own C : String} {b : Addr} {As rest : List Value} {g : JFrame}
theorem vx_callBack (cb : CallB R s args own index y bytes maxL ret ws rm mc ms n) (hM : vx_Met l y ws rm Pc Qc XC mc ms free) (hbl : FrameBlind Pc) : vx_Back l R p e below s args y 3 8 (PreOf R mc ms Pc) (PostOf Qc mc ms free) (vx_Post XC mc ms free) := by
  obtain ⟨hrc, hrs, hfr, hlo, hws, hcw, -, hini, -⟩ := cb
  exact vx_back (bytes := bytes) (maxL := maxL) (ret := ret) hM hbl hrc hrs hfr hlo hws hcw (fun a' U hW => word_at hW (Or.inl (by first | rfl | simp [Cond.onTables, Cond.keeps, Cond.steady])) hini)
theorem vx_runV (S : CallFix p m c cc nL s args Ts own) (hM : vx_Met l y ws rm Pc Qc XC mc ms free) (cw : CallW R s args own C index y bytes maxL ret ws rm mc ms n) (hp : PreV s H C b Pc As)
    (hg : g.method = m) (hn : As.length = n) (hsize : g.locals.size = nL) (hstack : g.stack = As.reverse ++ .ref b :: rest) (hW : 2 * g.monitorRoom + (rest.map fun v => v.category).sum ≤ 8) (hdg : decode cc g.pc = .ok (.invokevirtual index, 3)) (hf : cells + mc ≤ R.cells ∧ slots + ms ≤ R.slots) :
    vx_Run p l e R s m args below meth c H locs cells slots mc ms g rest (Qc (Value.ref b :: As).toArray) XC free := by
  have hK : vx_Back l R p e below s args y 3 8 (PreOf R mc ms Pc) (PostOf Qc mc ms free) (vx_Post XC mc ms free) := vx_callBack cw.1 hM hp.1
  obtain ⟨⟨-, -, -, -, -, -, hcode, -, hy, hlen, hl⟩, hin, hse⟩ := cw
  obtain ⟨hx, hb, hml, ho, -⟩ := S
  obtain ⟨-, ⟨cellB, hcB, hoB, hclB⟩, hPc⟩ := hp
  intro T hT X
  rcases vx_callV X hx (C := C) (bytes := bytes) (maxL := maxL) (ret := ret) ho hl hin hse hcode hy hK (by rw [hT]; exact hcB) hoB hclB hg (hsize.trans hml.symm) (argsL := As) (rest := rest) (fun sig h => hn.trans (hlen sig h)) hstack hW (by rw [hb]; exact hdg)
    (fun vm₁ hW₁ => ⟨hf.1, hf.2, hPc (T.setVm vm₁) hT hW₁⟩) with ⟨v, vm₁, ⟨U', l2, c2, s2⟩, hW₁, X', ⟨g', mk, t, L, e1, e2, hq, h1, hL, h2, h3⟩, st⟩ | ⟨q, vm₁, ⟨U', l2, c2, s2⟩, hW₁, X', ⟨g', mk, t, L, E, ce, e1, e2, hq, hce, hcv, hcl, h1, hL, h2, h3⟩, st⟩
  · dsimp only [Pt.U, Pt.locs, Pt.cells, Pt.slots] at X' e1 e2 h1 h2 h3 st
    subst h1; subst h2; subst h3
    exact Or.inl ⟨v, (T.setVm vm₁).calling g' mk (Value.ref b :: As).toArray, t, U', L, hT, X', hL, e1, e2, hq, st⟩
  · dsimp only [Pt.U, Pt.locs, Pt.cells, Pt.slots] at X' e1 e2 h1 h2 h3 st hcl
    subst h1; subst h2; subst h3
    exact Or.inr ⟨q, (T.setVm vm₁).calling g' mk (Value.ref b :: As).toArray, t, U', L, E, ce, hT, X', hL, e1, e2, hq, hce, hcv, vx_cls hW₁ hcl, st⟩
theorem vx_runS (S : CallFix p m c cc nL s args Ts own) (hM : vx_Met l y ws rm Pc Qc XC mc ms free) (cw : CallB R s args own index y bytes maxL ret ws rm mc ms n ∧ (Cond.static y).before args s = true) (hp : PreS s H Pc As)
    (hg : g.method = m) (hn : As.length = n) (hsize : g.locals.size = nL) (hstack : g.stack = As.reverse ++ rest) (hW : 2 * g.monitorRoom + (rest.map fun v => v.category).sum ≤ 8) (hdg : decode cc g.pc = .ok (.invokestatic index, 3)) (hf : cells + mc ≤ R.cells ∧ slots + ms ≤ R.slots) :
    vx_Run p l e R s m args below meth c H locs cells slots mc ms g rest (Qc As.toArray) XC free := by
  have hK : vx_Back l R p e below s args y 3 8 (PreOf R mc ms Pc) (PostOf Qc mc ms free) (vx_Post XC mc ms free) := vx_callBack cw.1 hM hp.1
  obtain ⟨⟨-, -, -, -, -, -, hcode, hini, hy, hlen, hl⟩, hstt⟩ := cw
  obtain ⟨hx, hb, hml, ho, -⟩ := S
  intro T hT X
  rcases vx_callS X hx (bytes := bytes) (maxL := maxL) (ret := ret) ho hl hstt hini hcode hy hK hg (hsize.trans hml.symm) (argsL := As) (rest := rest) (fun sig h => hn.trans (hlen sig h)) hstack hW (by rw [hb]; exact hdg)
    (fun vm₁ hW₁ => ⟨hf.1, hf.2, hp.2 (T.setVm vm₁) hT hW₁⟩) with ⟨v, vm₁, ⟨U', l2, c2, s2⟩, hW₁, X', ⟨g', mk, t, L, e1, e2, hq, h1, hL, h2, h3⟩, st⟩ | ⟨q, vm₁, ⟨U', l2, c2, s2⟩, hW₁, X', ⟨g', mk, t, L, E, ce, e1, e2, hq, hce, hcv, hcl, h1, hL, h2, h3⟩, st⟩
  · dsimp only [Pt.U, Pt.locs, Pt.cells, Pt.slots] at X' e1 e2 h1 h2 h3 st
    subst h1; subst h2; subst h3
    exact Or.inl ⟨v, (T.setVm vm₁).calling g' mk As.toArray, t, U', L, hT, X', hL, e1, e2, hq, st⟩
  · dsimp only [Pt.U, Pt.locs, Pt.cells, Pt.slots] at X' e1 e2 h1 h2 h3 st hcl
    subst h1; subst h2; subst h3
    exact Or.inr ⟨q, (T.setVm vm₁).calling g' mk As.toArray, t, U', L, E, ce, hT, X', hL, e1, e2, hq, hce, hcv, vx_cls hW₁ hcl, st⟩
end Runs
section Rows
variable {p : Program} {l : Launch} {e : Env} {R : Room} {s : State} {m : MethodId} {args : Array Value} {below : List Frame} {meth : Method} {c : Code} {H : Heap} {locs : List Loc} {cells slots : Nat} {Q : State → Prop}
variable {mc ms : Nat} {free : Addr → Prop} {A0 A1 : Nat → Prop} {H0 : Heap} {a : Array Value} {pc : Nat} {ls : Array Slot} {st0 rest : List Value}
theorem vx_keep {st₀ t T' : State} {L : List Loc} (h0 : st₀.heap = H) (e1 : T'.heap = t.heap) (hS : va_S A0 H0 H locs) (hA : ∀ q, q < H.size → A1 q → A0 q) (hf : ∀ q, free q → A0 q) (hL : ∀ q ∈ L, free q.base) (hF : va_F A1 st₀ t) :
    H.size ≤ T'.heap.size ∧ (∀ q : Nat, q < H.size → ¬ A1 q → T'.heap[q]? = H[q]?) ∧ va_S A0 H0 T'.heap (locs ++ L) := by
  obtain ⟨hz, hk⟩ := hF
  rw [h0] at hz hk
  exact ⟨by rw [e1]; exact hz, fun q h1 h2 => by rw [e1]; exact hk q h1 h2,
    ⟨Nat.le_trans hS.1 (by rw [e1]; exact hz), fun q h1 h2 => by rw [e1, hk q (Nat.lt_of_lt_of_le h1 hS.1) (fun z => h2 (hA q (Nat.lt_of_lt_of_le h1 hS.1) z))]; exact hS.2.1 q h1 h2, fun q hq => by
      rcases List.mem_append.mp hq with h | h
      · exact hS.2.2 q h
      · exact hf _ (hL q h)⟩⟩
theorem vx_calli {S SX : Type} {post : Int32 → S → Prop} {px : SX → Prop} {B : S → State → Prop} {BX : String → SX → State → Prop} {AX : Nat → Prop} (hr : vx_Run p l e R s m args below meth c H locs cells slots mc ms (F0 m pc ls st0) rest (va_Qi post B A1 a) (vx_X px BX AX) free) (hS : va_S A0 H0 H locs) (hA : ∀ q, q < H.size → A1 q → A0 q) (hf : ∀ q, free q → A0 q) (hAX : ∀ q, q < H.size → AX q → A0 q)
    (kx : ∀ (E : String) (ce : Cell) (q9 : Addr) (u : SX) (t : State) (H1 : Heap) (locs1 : List Loc), t.heap = H1 → s.vm.Alike t.vm → px u → BX E u t → H.size ≤ H1.size → (∀ q : Nat, q < H.size → ¬ AX q → H1[q]? = H[q]?) → va_S A0 H0 H1 locs1 → H1[q9]? = some ce → ce.vm = .none → s.vm.findClass E = some ce.cls → vx_W p l e R s m args below meth c H1 locs1 (cells + mc) (slots + ms) Q (F0 m pc ls rest) q9)
    (kk : ∀ (r : Int32) (u : S) (t : State) (H1 : Heap) (locs1 : List Loc), t.heap = H1 → s.vm.Alike t.vm → post r u → B u t → H.size ≤ H1.size → (∀ q : Nat, q < H.size → ¬ A1 q → H1[q]? = H[q]?) → va_S A0 H0 H1 locs1 → W p l e R s m args below meth c H1 locs1 (cells + mc) (slots + ms) Q (F0 m (pc + 3) ls (.int r :: rest))) : W p l e R s m args below meth c H locs cells slots Q (F0 m pc ls st0) := by
  intro T hT X
  rcases hr T hT X with ⟨v, st₀, t, T', L, h0, X', hL, e1, e2, ⟨⟨r, u, hv, hp, hb⟩, hF⟩, st⟩ | ⟨q, st₀, t, T', L, E, ce, h0, X', hL, e1, e2, ⟨u, hp, hb, hF⟩, hce, hcv, hcl, st⟩
  · cases hv
    obtain ⟨k1, k2, k3⟩ := vx_keep h0 e1 hS hA hf hL hF
    obtain ⟨t2, a1, b1⟩ := kk r u t T'.heap (locs ++ L) e1.symm (by rw [← e2]; exact X'.warmed.alike) hp hb k1 k2 k3 T' rfl X'
    exact ⟨t2, st t2 a1, b1⟩
  · obtain ⟨k1, k2, k3⟩ := vx_keep h0 e1 hS hAX hf hL hF
    obtain ⟨t2, a1, b1⟩ := kx E ce q u t T'.heap (locs ++ L) e1.symm (by rw [← e2]; exact X'.warmed.alike) hp hb k1 k2 k3 (by rw [e1]; exact hce) hcv hcl T' rfl X'
    exact ⟨t2, st.trans a1, b1⟩
theorem vx_calll {S SX : Type} {post : Int64 → S → Prop} {px : SX → Prop} {B : S → State → Prop} {BX : String → SX → State → Prop} {AX : Nat → Prop} (hr : vx_Run p l e R s m args below meth c H locs cells slots mc ms (F0 m pc ls st0) rest (va_Ql post B A1 a) (vx_X px BX AX) free) (hS : va_S A0 H0 H locs) (hA : ∀ q, q < H.size → A1 q → A0 q) (hf : ∀ q, free q → A0 q) (hAX : ∀ q, q < H.size → AX q → A0 q)
    (kx : ∀ (E : String) (ce : Cell) (q9 : Addr) (u : SX) (t : State) (H1 : Heap) (locs1 : List Loc), t.heap = H1 → s.vm.Alike t.vm → px u → BX E u t → H.size ≤ H1.size → (∀ q : Nat, q < H.size → ¬ AX q → H1[q]? = H[q]?) → va_S A0 H0 H1 locs1 → H1[q9]? = some ce → ce.vm = .none → s.vm.findClass E = some ce.cls → vx_W p l e R s m args below meth c H1 locs1 (cells + mc) (slots + ms) Q (F0 m pc ls rest) q9)
    (kk : ∀ (r : Int64) (u : S) (t : State) (H1 : Heap) (locs1 : List Loc), t.heap = H1 → s.vm.Alike t.vm → post r u → B u t → H.size ≤ H1.size → (∀ q : Nat, q < H.size → ¬ A1 q → H1[q]? = H[q]?) → va_S A0 H0 H1 locs1 → W p l e R s m args below meth c H1 locs1 (cells + mc) (slots + ms) Q (F0 m (pc + 3) ls (.long r :: rest))) : W p l e R s m args below meth c H locs cells slots Q (F0 m pc ls st0) := by
  intro T hT X
  rcases hr T hT X with ⟨v, st₀, t, T', L, h0, X', hL, e1, e2, ⟨⟨r, u, hv, hp, hb⟩, hF⟩, st⟩ | ⟨q, st₀, t, T', L, E, ce, h0, X', hL, e1, e2, ⟨u, hp, hb, hF⟩, hce, hcv, hcl, st⟩
  · cases hv
    obtain ⟨k1, k2, k3⟩ := vx_keep h0 e1 hS hA hf hL hF
    obtain ⟨t2, a1, b1⟩ := kk r u t T'.heap (locs ++ L) e1.symm (by rw [← e2]; exact X'.warmed.alike) hp hb k1 k2 k3 T' rfl X'
    exact ⟨t2, st t2 a1, b1⟩
  · obtain ⟨k1, k2, k3⟩ := vx_keep h0 e1 hS hAX hf hL hF
    obtain ⟨t2, a1, b1⟩ := kx E ce q u t T'.heap (locs ++ L) e1.symm (by rw [← e2]; exact X'.warmed.alike) hp hb k1 k2 k3 (by rw [e1]; exact hce) hcv hcl T' rfl X'
    exact ⟨t2, st.trans a1, b1⟩
theorem vx_callf {S SX : Type} {post : UInt32 → S → Prop} {px : SX → Prop} {B : S → State → Prop} {BX : String → SX → State → Prop} {AX : Nat → Prop} (hr : vx_Run p l e R s m args below meth c H locs cells slots mc ms (F0 m pc ls st0) rest (va_Qf post B A1 a) (vx_X px BX AX) free) (hS : va_S A0 H0 H locs) (hA : ∀ q, q < H.size → A1 q → A0 q) (hf : ∀ q, free q → A0 q) (hAX : ∀ q, q < H.size → AX q → A0 q)
    (kx : ∀ (E : String) (ce : Cell) (q9 : Addr) (u : SX) (t : State) (H1 : Heap) (locs1 : List Loc), t.heap = H1 → s.vm.Alike t.vm → px u → BX E u t → H.size ≤ H1.size → (∀ q : Nat, q < H.size → ¬ AX q → H1[q]? = H[q]?) → va_S A0 H0 H1 locs1 → H1[q9]? = some ce → ce.vm = .none → s.vm.findClass E = some ce.cls → vx_W p l e R s m args below meth c H1 locs1 (cells + mc) (slots + ms) Q (F0 m pc ls rest) q9)
    (kk : ∀ (r : UInt32) (u : S) (t : State) (H1 : Heap) (locs1 : List Loc), t.heap = H1 → s.vm.Alike t.vm → post r u → B u t → H.size ≤ H1.size → (∀ q : Nat, q < H.size → ¬ A1 q → H1[q]? = H[q]?) → va_S A0 H0 H1 locs1 → W p l e R s m args below meth c H1 locs1 (cells + mc) (slots + ms) Q (F0 m (pc + 3) ls (.float r :: rest))) : W p l e R s m args below meth c H locs cells slots Q (F0 m pc ls st0) := by
  intro T hT X
  rcases hr T hT X with ⟨v, st₀, t, T', L, h0, X', hL, e1, e2, ⟨⟨r, u, hv, hp, hb⟩, hF⟩, st⟩ | ⟨q, st₀, t, T', L, E, ce, h0, X', hL, e1, e2, ⟨u, hp, hb, hF⟩, hce, hcv, hcl, st⟩
  · cases hv
    obtain ⟨k1, k2, k3⟩ := vx_keep h0 e1 hS hA hf hL hF
    obtain ⟨t2, a1, b1⟩ := kk r u t T'.heap (locs ++ L) e1.symm (by rw [← e2]; exact X'.warmed.alike) hp hb k1 k2 k3 T' rfl X'
    exact ⟨t2, st t2 a1, b1⟩
  · obtain ⟨k1, k2, k3⟩ := vx_keep h0 e1 hS hAX hf hL hF
    obtain ⟨t2, a1, b1⟩ := kx E ce q u t T'.heap (locs ++ L) e1.symm (by rw [← e2]; exact X'.warmed.alike) hp hb k1 k2 k3 (by rw [e1]; exact hce) hcv hcl T' rfl X'
    exact ⟨t2, st.trans a1, b1⟩
theorem vx_calld {S SX : Type} {post : UInt64 → S → Prop} {px : SX → Prop} {B : S → State → Prop} {BX : String → SX → State → Prop} {AX : Nat → Prop} (hr : vx_Run p l e R s m args below meth c H locs cells slots mc ms (F0 m pc ls st0) rest (va_Qd post B A1 a) (vx_X px BX AX) free) (hS : va_S A0 H0 H locs) (hA : ∀ q, q < H.size → A1 q → A0 q) (hf : ∀ q, free q → A0 q) (hAX : ∀ q, q < H.size → AX q → A0 q)
    (kx : ∀ (E : String) (ce : Cell) (q9 : Addr) (u : SX) (t : State) (H1 : Heap) (locs1 : List Loc), t.heap = H1 → s.vm.Alike t.vm → px u → BX E u t → H.size ≤ H1.size → (∀ q : Nat, q < H.size → ¬ AX q → H1[q]? = H[q]?) → va_S A0 H0 H1 locs1 → H1[q9]? = some ce → ce.vm = .none → s.vm.findClass E = some ce.cls → vx_W p l e R s m args below meth c H1 locs1 (cells + mc) (slots + ms) Q (F0 m pc ls rest) q9)
    (kk : ∀ (r : UInt64) (u : S) (t : State) (H1 : Heap) (locs1 : List Loc), t.heap = H1 → s.vm.Alike t.vm → post r u → B u t → H.size ≤ H1.size → (∀ q : Nat, q < H.size → ¬ A1 q → H1[q]? = H[q]?) → va_S A0 H0 H1 locs1 → W p l e R s m args below meth c H1 locs1 (cells + mc) (slots + ms) Q (F0 m (pc + 3) ls (.double r :: rest))) : W p l e R s m args below meth c H locs cells slots Q (F0 m pc ls st0) := by
  intro T hT X
  rcases hr T hT X with ⟨v, st₀, t, T', L, h0, X', hL, e1, e2, ⟨⟨r, u, hv, hp, hb⟩, hF⟩, st⟩ | ⟨q, st₀, t, T', L, E, ce, h0, X', hL, e1, e2, ⟨u, hp, hb, hF⟩, hce, hcv, hcl, st⟩
  · cases hv
    obtain ⟨k1, k2, k3⟩ := vx_keep h0 e1 hS hA hf hL hF
    obtain ⟨t2, a1, b1⟩ := kk r u t T'.heap (locs ++ L) e1.symm (by rw [← e2]; exact X'.warmed.alike) hp hb k1 k2 k3 T' rfl X'
    exact ⟨t2, st t2 a1, b1⟩
  · obtain ⟨k1, k2, k3⟩ := vx_keep h0 e1 hS hAX hf hL hF
    obtain ⟨t2, a1, b1⟩ := kx E ce q u t T'.heap (locs ++ L) e1.symm (by rw [← e2]; exact X'.warmed.alike) hp hb k1 k2 k3 (by rw [e1]; exact hce) hcv hcl T' rfl X'
    exact ⟨t2, st.trans a1, b1⟩
theorem vx_callv {S SX : Type} {post : S → Prop} {px : SX → Prop} {B : S → State → Prop} {BX : String → SX → State → Prop} {AX : Nat → Prop} (hr : vx_Run p l e R s m args below meth c H locs cells slots mc ms (F0 m pc ls st0) rest (va_Qv post B A1 a) (vx_X px BX AX) free) (hS : va_S A0 H0 H locs) (hA : ∀ q, q < H.size → A1 q → A0 q) (hf : ∀ q, free q → A0 q) (hAX : ∀ q, q < H.size → AX q → A0 q)
    (kx : ∀ (E : String) (ce : Cell) (q9 : Addr) (u : SX) (t : State) (H1 : Heap) (locs1 : List Loc), t.heap = H1 → s.vm.Alike t.vm → px u → BX E u t → H.size ≤ H1.size → (∀ q : Nat, q < H.size → ¬ AX q → H1[q]? = H[q]?) → va_S A0 H0 H1 locs1 → H1[q9]? = some ce → ce.vm = .none → s.vm.findClass E = some ce.cls → vx_W p l e R s m args below meth c H1 locs1 (cells + mc) (slots + ms) Q (F0 m pc ls rest) q9)
    (kk : ∀ (u : S) (t : State) (H1 : Heap) (locs1 : List Loc), t.heap = H1 → s.vm.Alike t.vm → post u → B u t → H.size ≤ H1.size → (∀ q : Nat, q < H.size → ¬ A1 q → H1[q]? = H[q]?) → va_S A0 H0 H1 locs1 → W p l e R s m args below meth c H1 locs1 (cells + mc) (slots + ms) Q (F0 m (pc + 3) ls (rest))) : W p l e R s m args below meth c H locs cells slots Q (F0 m pc ls st0) := by
  intro T hT X
  rcases hr T hT X with ⟨v, st₀, t, T', L, h0, X', hL, e1, e2, ⟨⟨u, hv, hp, hb⟩, hF⟩, st⟩ | ⟨q, st₀, t, T', L, E, ce, h0, X', hL, e1, e2, ⟨u, hp, hb, hF⟩, hce, hcv, hcl, st⟩
  · cases hv
    obtain ⟨k1, k2, k3⟩ := vx_keep h0 e1 hS hA hf hL hF
    obtain ⟨t2, a1, b1⟩ := kk u t T'.heap (locs ++ L) e1.symm (by rw [← e2]; exact X'.warmed.alike) hp hb k1 k2 k3 T' rfl X'
    exact ⟨t2, st t2 a1, b1⟩
  · obtain ⟨k1, k2, k3⟩ := vx_keep h0 e1 hS hAX hf hL hF
    obtain ⟨t2, a1, b1⟩ := kx E ce q u t T'.heap (locs ++ L) e1.symm (by rw [← e2]; exact X'.warmed.alike) hp hb k1 k2 k3 (by rw [e1]; exact hce) hcv hcl T' rfl X'
    exact ⟨t2, st.trans a1, b1⟩
/-- caught by the row x of this method's table; the rows ahead don't take it -/
theorem vx_catch {own name : String} {E : String} {ce : Cell} {q : Addr} (hown : s.vm.findClass own = some m.cls) (pre : List ExceptionTableEntry) (x : ExceptionTableEntry) (suf : List ExceptionTableEntry) (hsplit : c.exceptionTable.toList = pre ++ x :: suf)
    (hpass : ∀ z ∈ pre, covers z pc = false ∨ (z.catchType ≠ 0 ∧ ∃ nm : String, (Cond.classLink own z.catchType nm).before args s = true ∧ va_Nc E nm s)) (hx : covers x pc = true) (h0 : x.catchType ≠ 0)
    (hlink : (Cond.classLink own x.catchType name).before args s = true) (hcast : (Cond.castable E name).before args s = true) (hcell : H[q]? = some ce) (hv : ce.vm = .none) (hcl : s.vm.findClass E = some ce.cls)
    (kk : W p l e R s m args below meth c H locs cells slots Q (F0 m x.handlerPc ls [.ref q])) : vx_W p l e R s m args below meth c H locs cells slots Q (F0 m pc ls rest) q := by
  intro T hT X
  have hpl : e.platform.magicAccessors = ({} : Platform).magicAccessors := by rw [X.admits.platform]
  obtain ⟨c3, c4, hc3, hc4, hasg⟩ := Cond.castable_spec hcast
  cases Option.some.inj (hc3.symm.trans hcl)
  obtain ⟨c5, hc5, hcl5⟩ := Cond.classLink_spec hown hlink e.platform hpl
  cases Option.some.inj (hc4.symm.trans hc5)
  obtain ⟨vm', X', st⟩ := X.thenCaughtThrough q (g := F0 m pc ls rest) rfl (Steps.refl _) (by rw [hT]; exact hcell) (by rw [hv]; rfl) (by obtain ⟨k9, h9, -⟩ := Vm.findClass_spec hcl; exact ⟨k9, h9⟩) pre x suf hsplit
    (fun z hz => by
      rcases hpass z hz with h | ⟨hz0, nm, hl1, hn1⟩
      · exact Or.inl h
      · obtain ⟨c6, hc6, hcl6⟩ := Cond.classLink_spec hown hl1 e.platform hpl
        obtain ⟨a8, b8, h1, h2, h3⟩ := hn1
        cases Option.some.inj (h1.symm.trans hcl)
        cases Option.some.inj (h2.symm.trans hc6)
        exact Or.inr ⟨hz0, _, hcl6, h3⟩) hx (Or.inr ⟨h0, c4, hcl5, hasg⟩)
  obtain ⟨t, a1, b1⟩ := kk (T.setVm vm') hT X'
  exact ⟨t, st.trans a1, b1⟩
end Rows
section Ends
variable {p : Program} {l : Launch} {e : Env} {R : Room} {s : State} {m : MethodId} {args : Array Value} {below : List Frame} {meth : Method} {c : Code} {H : Heap} {locs : List Loc} {cells slots : Nat} {Q : State → Prop}
variable {mc ms : Nat} {free : Addr → Prop} {A0 A1 : Nat → Prop} {H0 : Heap} {a : Array Value} {ls : Array Slot} {st0 rest : List Value}
variable {Qc : Array Value → State → Outcome → State → Prop} {XC : String → State → State → Prop}
/-- what a body that may throw owes at its end -/
def vx_MQ (below : List Frame) (Qc : Array Value → State → Outcome → State → Prop) (XC : String → State → State → Prop) (a : Array Value) (s : State) (mc ms : Nat) (free : Addr → Prop) : State → Prop := fun t =>
  ∃ o, t.status = .running ∧ Ended t below o ∧ vx_Q Qc XC mc ms free a s o t
theorem vx_ret {g : JFrame} {mc ms : Nat} (k : W p l e R s m args below meth c H locs cells slots (MQ below Qc args s mc ms free) g) : W p l e R s m args below meth c H locs cells slots (vx_MQ below Qc XC args s mc ms free) g := by
  intro T hT X
  obtain ⟨t, a1, o, b1, b2, b3, b4⟩ := k T hT X
  exact ⟨t, a1, o, b1, b2, Or.inl ⟨b3, b4⟩⟩
/-- not caught here: it goes on to the caller -/
theorem vx_widen {g : JFrame} {q : Addr} {k n : Nat} (h1 : cells ≤ k) (h2 : slots ≤ n) (kk : vx_W p l e R s m args below meth c H locs k n Q g q) : vx_W p l e R s m args below meth c H locs cells slots Q g q := fun T hT X => kk T hT (stand_widen X h1 h2)
theorem vx_out {pc : Nat} {E : String} {ce : Cell} {q : Addr} {mc ms : Nat} (hout : ∀ x ∈ c.exceptionTable.toList, covers x pc = false) (hlocks : meth.locks = false) (hcell : H[q]? = some ce) (hv : ce.vm = .none) (hcl : s.vm.findClass E = some ce.cls)
    (hx : ∀ t : State, t.heap = H → s.vm.Alike t.vm → XC E s t) (hf : ∀ z ∈ locs, free z.base) (hc : cells ≤ mc) (hs : slots ≤ ms) :
    vx_W p l e R s m args below meth c H locs cells slots (vx_MQ below Qc XC args s mc ms free) (F0 m pc ls rest) q := by
  intro T hT X
  obtain ⟨st1, hrun, hend, hW, hsm⟩ := X.leaveThrown q (g := F0 m pc ls rest) rfl rfl rfl hout hlocks
  have hcell9 : (T.setFrames (.throwing q :: below)).heap[q]? = some ce := by
    show T.heap[q]? = some ce
    rw [hT]; exact hcell
  exact ⟨_, st1, .threw q, hrun, hend, Or.inr ⟨q, rfl, E, ce, locs, hx _ hT hW.alike, hcell9, hv, hcl, hW, hsm.mono hc hs, hf⟩⟩
theorem vx_frame {U : State} {k n : Nat} (h : s.sameButNew ({ U with vm := s.vm } : State) locs k n) : s.heap.size ≤ U.heap.size ∧ ∀ q : Nat, q < s.heap.size → (∀ z ∈ locs, z.base ≠ q) → U.heap[q]? = s.heap[q]? := by
  obtain ⟨-, h2, -, -, -, h6⟩ := h
  refine ⟨h2, fun q hq hz => ?_⟩
  obtain ⟨c9, e1, e2, e3, e4⟩ := h6 q _ (Array.getElem?_eq_getElem hq)
  have hs : c9.slots = (s.heap[q]).slots := Array.ext_getElem? fun i => e4 i fun hm => hz _ hm rfl
  have h9 : c9 = s.heap[q] := by
    rw [hs] at e2
    exact e2
  have e5 : U.heap[q]? = some c9 := e1
  rw [e5, h9, Array.getElem?_eq_getElem hq]
/-- the words of a throw but the four that speak of the heap -/
def vx_no (w : Cond) : Bool := decide (w ≠ .isRef (.static Bundle.tN "UNASSIGNED_STACK" Bundle.steD)) && decide (w ≠ .isRef (.static Bundle.tN "SUPPRESSED_SENTINEL" Bundle.listD)) && decide (w ≠ .laysStatic Bundle.tN "UNASSIGNED_STACK" Bundle.steD) && decide (w ≠ .laysStatic Bundle.tN "SUPPRESSED_SENTINEL" Bundle.listD)
def vx_at0 (own : String) (ic : Nat) (X : String) (names : List String) : List Cond := (Bundle.ownAtoms0 own ic X names).filter vx_no
def vx_atS (own : String) (ic : Nat) (X : String) (names : List String) : List Cond := (Bundle.ownAtoms own ic X names).filter vx_no
/-- a word that the tables alone decide, or a good one -/
def vx_ot (w : Cond) : Bool := w.onTables || goodWord w
theorem vx_ot_at {args a' : Array Value} {s U : State} {w : Cond} (hW : s.WarmedH U.vm) (hvm : s.vm = U.vm) (hg : vx_ot w = true) (h : w.before args s = true) : w.before a' U = true := by
  simp only [vx_ot, Bool.or_eq_true] at hg
  rcases hg with hg | hg
  · exact va_tabs hg hvm h
  · exact word_at hW (good_of_word hg) h
/-- a list's words: the good ones out of the method's own list, the others by premises of their own -/
theorem vx_hat {args : Array Value} {s : State} {L B : List Cond} (h1 : ∀ w ∈ L.filter goodWord, w.before args s = true) (h2 : ∀ w ∈ L.filter (fun w => !goodWord w), w ∈ B) (h3 : ∀ w ∈ B, w.before args s = true) : ∀ w ∈ L, w.before args s = true := by
  intro w hw
  by_cases g : goodWord w = true
  · exact h1 w (List.mem_filter.mpr ⟨hw, g⟩)
  · refine h3 w (h2 w (List.mem_filter.mpr ⟨hw, ?_⟩))
    show (!goodWord w) = true
    cases hgw : goodWord w
    · rfl
    · exact absurd hgw g
theorem vx_c {args : Array Value} {s : State} {w : Cond} {B : List Cond} (h : w.before args s = true) (t : ∀ w ∈ B, w.before args s = true) : ∀ w' ∈ w :: B, w'.before args s = true := fun w' h' => (List.mem_cons.mp h').elim (fun e => by rw [e]; exact h) (t w')
theorem vx_n {args : Array Value} {s : State} : ∀ w ∈ ([] : List Cond), w.before args s = true := fun _ h => nomatch h
theorem vx_own {args : Array Value} {s : State} {L : List Cond} (h1 : ∀ w ∈ L.filter vx_no, w.before args s = true)
    (hU : (Cond.isRef (.static Bundle.tN "UNASSIGNED_STACK" Bundle.steD)).before args s = true) (hN : (Cond.isRef (.static Bundle.tN "SUPPRESSED_SENTINEL" Bundle.listD)).before args s = true)
    (lU : (Cond.laysStatic Bundle.tN "UNASSIGNED_STACK" Bundle.steD).before args s = true) (lN : (Cond.laysStatic Bundle.tN "SUPPRESSED_SENTINEL" Bundle.listD).before args s = true) : ∀ w ∈ L, w.before args s = true := by
  intro w hw
  by_cases e1 : w = .isRef (.static Bundle.tN "UNASSIGNED_STACK" Bundle.steD)
  · rw [e1]; exact hU
  · by_cases e2 : w = .isRef (.static Bundle.tN "SUPPRESSED_SENTINEL" Bundle.listD)
    · rw [e2]; exact hN
    · by_cases e3 : w = .laysStatic Bundle.tN "UNASSIGNED_STACK" Bundle.steD
      · rw [e3]; exact lU
      · by_cases e4 : w = .laysStatic Bundle.tN "SUPPRESSED_SENTINEL" Bundle.listD
        · rw [e4]; exact lN
        · exact h1 w (List.mem_filter.mpr ⟨hw, by unfold vx_no; rw [decide_eq_true e1, decide_eq_true e2, decide_eq_true e3, decide_eq_true e4]; rfl⟩)
/-- where a static field lies, its class's statics cell in H -/
def vx_L (C n d : String) (A : Nat → Prop) (U : State) (H : Heap) : Prop := ∃ (c : ClassId) (k : Class) (i : Nat) (f : Field) (a : Nat) (cell : Cell), U.vm.findClass C = some c ∧ U.fieldFound? C n d = some (c, k, i, f) ∧ f.isStatic = true ∧ k.statics = some a ∧ H[a]? = some cell ∧ cell.vm.isStatics = true ∧ cell.cls = c ∧ f.slot < cell.slots.size ∧ k.staticTypes[f.slot]? = some f.type ∧ ¬ A a
theorem vx_L.moved {C n d : String} {A : Nat → Prop} {u U : State} {H : Heap} (hvm : u.vm.Alike U.vm) (h : vx_L C n d A u H) : vx_L C n d A U H := by
  obtain ⟨c, k, i, f, a, cell, h1, h2, h3, h4, h5, h6, h7, h8, h9, h10⟩ := h
  obtain ⟨k', hi', he⟩ := State.fieldFound?_setVm hvm h2
  exact ⟨c, k', i, f, a, cell, by rw [hvm.findClass]; exact h1, hi', h3, by rw [he]; exact h4, h5, h6, h7, h8, by rw [he]; exact h9, h10⟩
theorem vx_L.kept {C n d : String} {A : Nat → Prop} {U : State} {H H1 : Heap} (h : vx_L C n d A U H) (hq : ∀ a : Nat, a < H.size → ¬ A a → H1[a]? = H[a]?) : vx_L C n d A U H1 := by
  obtain ⟨c, k, i, f, a, cell, h1, h2, h3, h4, h5, h6, h7, h8, h9, h10⟩ := h
  exact ⟨c, k, i, f, a, cell, h1, h2, h3, h4, by rw [hq a (Array.getElem?_eq_some_iff.mp h5).1 h10]; exact h5, h6, h7, h8, h9, h10⟩
theorem vx_L.narrow {C n d : String} {A B : Nat → Prop} {U : State} {H : Heap} (h : vx_L C n d A U H) (hAB : ∀ q, B q → A q) : vx_L C n d B U H := by
  obtain ⟨c, k, i, f, a, cell, h1, h2, h3, h4, h5, h6, h7, h8, h9, h10⟩ := h
  exact ⟨c, k, i, f, a, cell, h1, h2, h3, h4, h5, h6, h7, h8, h9, fun z => h10 (hAB _ z)⟩
theorem vx_L.word {C n d : String} {A : Nat → Prop} {s : State} {args : Array Value} (h : vx_L C n d A s s.heap) : (Cond.laysStatic C n d).before args s = true := by
  obtain ⟨c, k, i, f, a, cell, h1, h2, h3, h4, h5, h6, h7, h8, h9, -⟩ := h
  show (Cond.laysStatic C n d).holds args s none s [] = true
  exact Cond.laysStatic_of h1 h2 h3 h4 h5 h6 h7 h8 h9
/-- .. and what it holds: null or some reference -/
def vx_Zq (C n d : String) (A : Nat → Prop) (U : State) (H : Heap) : Prop := va_Zq C n d A U H ∧ vx_L C n d A U H
theorem vx_Zq.moved {C n d : String} {A : Nat → Prop} {u U : State} {H : Heap} (hvm : u.vm.Alike U.vm) (h : vx_Zq C n d A u H) : vx_Zq C n d A U H := ⟨va_Zq.moved hvm h.1, vx_L.moved hvm h.2⟩
theorem vx_Zq.kept {C n d : String} {A : Nat → Prop} {U : State} {H H1 : Heap} (h : vx_Zq C n d A U H) (hq : ∀ a : Nat, a < H.size → ¬ A a → H1[a]? = H[a]?) : vx_Zq C n d A U H1 := ⟨va_Zq.kept h.1 hq, vx_L.kept h.2 hq⟩
theorem vx_Zq.narrow {C n d : String} {A B : Nat → Prop} {U : State} {H : Heap} (h : vx_Zq C n d A U H) (hAB : ∀ q, B q → A q) : vx_Zq C n d B U H := ⟨va_Zq.narrow h.1 hAB, vx_L.narrow h.2 hAB⟩
theorem vx_Zqof {args : Array Value} {s : State} {C n d : String} {A : Nat → Prop} (hl : (Cond.laysStatic C n d).before args s = true) (hini : (Cond.initialized C).before args s = true) (h : (Cond.isRef (.static C n d)).before args s = true) (hA : ∀ a : Nat, a < s.heap.size → ¬ A a) : vx_Zq C n d A s s.heap := by
  refine ⟨va_Zqof hl hini h hA, ?_⟩
  obtain ⟨c, k, i, f, a, cell, h1, h2, h3, h4, h5, h6, h7, h8, h9⟩ := Cond.laysStatic_spec hl
  exact ⟨c, k, i, f, a, cell, h1, h2, h3, h4, h5, h6, h7, h8, h9, hA a (Array.getElem?_eq_some_iff.mp h5).1⟩
theorem vx_isRef {C n d : String} {v : Value} {A : Nat → Prop} {s : State} {args : Array Value} (h : va_Z C n d v A s s.heap) (hv : v.isRef = true) : (Cond.isRef (.static C n d)).before args s = true := by
  obtain ⟨cf, kf, fi, f, a, cell, h1, h2, h3, h4, h5, h6, h7, -⟩ := h
  have he : (Term.static C n d).eval args s none [] s = some v := by
    simp [Term.eval, State.fieldNamed?, h1, h2, h4, h5, h6, h7]
  simp only [Cond.before, Cond.holds, Cond.value, he]
  cases v <;> simp_all [Value.isRef]
theorem vx_isRefq {C n d : String} {A : Nat → Prop} {s : State} {args : Array Value} (h : va_Zq C n d A s s.heap) : (Cond.isRef (.static C n d)).before args s = true := by
  rcases h with h | ⟨t, h⟩
  · exact vx_isRef h rfl
  · exact vx_isRef h rfl
/-- the same frame, seen from here: as if the method were called anew in this heap -/
theorem vx_rebase {T : State} (X : Stand p l e R s m args below meth c T locs cells slots) {R' : Room} (hf : R'.frames ≤ R.frames) (hl : R'.locals ≤ R.locals) (hc : cells + R'.cells ≤ R.cells) (hs : slots + R'.slots ≤ R.slots) :
    Stand p l e R' ((T.setVm s.vm).setFrames (.invoking m args :: below)) m args below meth c T [] 0 0 := by
  have htop : (T.setVm s.vm).topJava?.isSome := X.here.top
  have hF : ((T.setVm s.vm).setFrames (.invoking m args :: below)).frames = .invoking m args :: below := State.frames_setFrames _ (State.cur_lt_of_top htop)
  obtain ⟨g₀, hg0⟩ := Option.isSome_iff_exists.mp htop
  obtain ⟨r, hr⟩ := State.topJava?_eq_some.mp hg0
  have hl9 : e.platform.stackLimits (T.setVm s.vm).me = e.platform.stackLimits s.me := X.limits
  have hb9 : (T.setVm s.vm).me.stackBytes = s.me.stackBytes := X.bytes
  refine ⟨X.admits, X.cas, X.clock, hF, ?_, X.hears, X.method, X.code, X.here, X.tail, X.warmed, ?_, ?_, ?_⟩
  · have h := X.room
    have hU : ((T.setVm s.vm).setFrames (.invoking m args :: below)).localsInUse = s.localsInUse := by
      rw [State.localsInUse_invoking hF (meth := meth) (c := c) X.method X.code, State.localsInUse_invoking X.frames X.method X.code]
    simp only [State.hasRoom, Bool.and_eq_true, decide_eq_true_eq] at h ⊢
    obtain ⟨⟨⟨⟨h1, h2, h3, h4, h5, h6⟩, h7⟩, h8⟩, h9⟩ := h
    rw [X.frames, List.length_cons] at h2 h3
    have q1 := X.heapSize
    have q2 := X.used
    simp only [hF, hU, List.length_cons, State.stackLimits_setFrames, State.stackBytes_setFrames, hl9, hb9]
    refine ⟨⟨⟨⟨by omega, by omega, by omega, by omega, by omega, h6⟩, ?_⟩, ?_⟩, X.book⟩
    · show T.heap.size + R'.cells ≤ e.platform.maxCells
      omega
    · show T.slotsUsed + R'.slots ≤ e.platform.maxSlots
      omega
  · rw [State.stackLimits_setFrames]; rfl
  · rw [State.stackBytes_setFrames]; rfl
  · refine ⟨?_, Nat.le_refl _, Nat.le_refl _, ?_, ?_, fun a c9 h9 => ⟨c9, h9, rfl, rfl, fun _ _ => rfl⟩⟩
    · obtain ⟨t, ht, -⟩ := State.frames_cons hr
      show T.setVm s.vm = { ((T.setVm s.vm).setFrames (.invoking m args :: below)).setFrames (T.setVm s.vm).frames with heap := T.heap, slotsUsed := T.slotsUsed }
      rw [State.setFrames_setFrames, State.setFrames_self ht]
      rfl
    · show T.slotsUsed = T.slotsUsed + ((T.heap.toList.drop T.heap.size).map (·.slots.size)).sum
      rw [List.drop_eq_nil_of_le (Nat.le_of_eq Array.length_toList)]
      rfl
    · show ((T.heap.toList.drop T.heap.size).map (·.slots.size)).sum ≤ 0
      rw [List.drop_eq_nil_of_le (Nat.le_of_eq Array.length_toList)]
      exact Nat.le_refl _
/-- 'throw new E()': new; dup; invokespecial; athrow -/
theorem vx_throw0 {cc : ByteArray} {pc : Nat} (hexec : p.tables.exec = Jvm.exec) (hb : c.code = cc) (hl : l.stackTraces = false) {own cls : String} {names : List String} {ik ic mc ms : Nat} {A : Nat → Prop}
    (hown : s.vm.findClass own = some m.cls) (hcls : Bundle.fit cls = true) (hnames : ∀ n ∈ names, Bundle.fit n = true)
    (hk : (Cond.classLink own ik cls).before args s = true) (hini : (Cond.initialized cls).before args s = true) (hat : ∀ w ∈ vx_at0 own ic cls names, w.before args s = true)
    (hgood : ∀ w ∈ Cond.classLink own ik cls :: Cond.initialized cls :: vx_at0 own ic cls names, vx_ot w = true)
    (hU : vx_Zq Bundle.tN "UNASSIGNED_STACK" Bundle.steD A s s.heap) (hN : vx_Zq Bundle.tN "SUPPRESSED_SENTINEL" Bundle.listD A s s.heap) (hS : va_S A s.heap H locs) (hsize : ls.size = c.maxLocals)
    (d0 : decode cc pc = .ok (.new ik, 3)) (d3 : decode cc (pc + 3) = .ok (.dup, 1)) (d4 : decode cc (pc + 4) = .ok (.invokespecial ic, 3)) (d7 : decode cc (pc + 7) = .ok (.athrow, 1))
    (hout : ∀ x ∈ c.exceptionTable.toList, covers x (pc + 7) = false)
    (hRframes : names.length + 3 < R.frames) (hRlocals : (rest.map fun v => v.category).sum + (13 * (names.length + 1) + 42) ≤ R.locals) (hRcells : cells + 1 ≤ R.cells) (hRslots : slots + 6 ≤ R.slots) (hlocks : meth.locks = false)
    (hx : ∀ t : State, s.vm.Alike t.vm → H.size ≤ t.heap.size → (∀ q : Nat, q < H.size → t.heap[q]? = H[q]?) → XC cls s t)
    (hf : ∀ z ∈ locs, free z.base) (hc : cells + 1 ≤ mc) (hs : slots + 6 ≤ ms) :
    W p l e R s m args below meth c H locs cells slots (vx_MQ below Qc XC args s mc ms free) (F0 m pc ls rest) := by
  intro T hT X
  have htr : e.platform.stackTraces = false := (show e.platform.stackTraces = l.stackTraces by rw [X.admits.platform]).trans hl
  have Y := vx_rebase X (R' := { frames := R.frames, locals := R.locals, cells := 1, slots := 6 }) (Nat.le_refl _) (Nat.le_refl _) hRcells hRslots
  obtain ⟨s', hA⟩ : ∃ z, z = (T.setVm s.vm).setFrames (.invoking m args :: below) := ⟨_, rfl⟩
  rw [← hA] at Y
  have hvm : s'.vm = s.vm := by rw [hA]; rfl
  have hhp : s'.heap = H := by rw [hA]; exact hT
  have hW0 : s.WarmedH s'.vm := by rw [hvm]; exact State.WarmedH.refl s
  have hat' : ∀ w ∈ vx_at0 own ic cls names, w.before args s' = true := fun w hw => vx_ot_at hW0 hvm.symm (hgood w (List.mem_cons_of_mem _ (List.mem_cons_of_mem _ hw))) (hat w hw)
  have hk' : (Cond.classLink own ik cls).before args s' = true := vx_ot_at hW0 hvm.symm (hgood _ List.mem_cons_self) hk
  have hini' : (Cond.initialized cls).before args s' = true := vx_ot_at hW0 hvm.symm (hgood _ (List.mem_cons_of_mem _ List.mem_cons_self)) hini
  have hU' : vx_Zq Bundle.tN "UNASSIGNED_STACK" Bundle.steD A s' s'.heap := by rw [hhp]; exact vx_Zq.moved hW0.alike (hU.kept hS.2.1)
  have hN' : vx_Zq Bundle.tN "SUPPRESSED_SENTINEL" Bundle.listD A s' s'.heap := by rw [hhp]; exact vx_Zq.moved hW0.alike (hN.kept hS.2.1)
  have h : ∀ w ∈ Bundle.ownAtoms0 own ic cls names, w.before args s' = true := vx_own hat' (vx_isRefq hU'.1) (vx_isRefq hN'.1) hU'.2.word hN'.2.word
  have hown' : s'.vm.findClass own = some m.cls := by rw [hvm]; exact hown
  have hins : (Cond.instantiable cls 6).before args s' = true := h _ (by simp [Bundle.ownAtoms0])
  obtain ⟨vm₁, cX, kX, hfX, hkX, -, -, X₁, st1⟩ := Y.newCold hexec (own := own) (C := cls) (index := ik) (n := 6) hown' hk' hins hini'
    (g := F0 m pc ls rest) rfl (by rw [hb]; exact d0) (Nat.le_refl _) (Nat.le_refl _)
  generalize hT1 : (T.setVm vm₁).pushCell { cls := cX, slots := kX.instanceTypes.map defaultValue, vm := .none } = T1 at X₁ st1
  have hcat : (Value.ref T.heap.size).category = 1 := rfl
  have hcellA : T1.heap[T.heap.size]? = some (freshCell cX kX) := by rw [← hT1]; exact State.heap_pushCell_size _ _
  have d3' : decode c.code (pc + 3) = .ok (.dup, 1) := by rw [hb]; exact d3
  obtain ⟨U, hsteps, hrun, hend, hW, hsame, ce, hce, hO⟩ := X₁.ctorThrow0 hexec htr (own := own) (cls := cls) (names := names) (ic := ic) hown' hcls hnames h (fun x hx => nomatch hx) hfX hkX hcellA (by rw [hhp, hT]; exact Nat.le_refl _)
    (g := { method := m, pc := pc + 4, locals := ls, stack := .ref T.heap.size :: .ref T.heap.size :: rest, locked := none }) rfl hsize rfl rfl (rest := rest) rfl
    (by rw [hb]; exact d4) (by rw [hb]; exact d7) hout hRframes (by simp only [List.map_cons, List.sum_cons, hcat]; omega) hlocks
  obtain ⟨f1, f2⟩ := vx_frame hsame
  rw [hhp] at f1 f2
  have hWs : s.WarmedH U.vm := State.WarmedH.trans hW0 hW
  have hcl : s.vm.findClass cls = some ce.cls := by
    have h9 := hO.cls
    rw [hvm] at h9
    exact h9
  have hall : s.sameButNew ({ U with vm := s.vm } : State) locs mc ms := by
    subst hA
    obtain ⟨e1, e2⟩ := hsame
    rw [State.setFrames_setFrames] at e1
    have h2 : (T.setVm s.vm).sameButNew ({ U with vm := s.vm } : State) [] (0 + 1) (0 + 6) := ⟨e1, e2⟩
    have h3 := X.same.trans h2
    rw [List.append_nil] at h3
    exact h3.mono hc hs
  refine ⟨U, ?_, .threw T.heap.size, hrun, hend, Or.inr ⟨T.heap.size, rfl, cls, ce, locs, hx U hWs.alike f1 (fun q hq => f2 q hq (fun z hz => nomatch hz)), hce, hO.vm, hcl, hWs, hall, hf⟩⟩
  refine st1 _ ?_
  show Steps p.tables e below (T1.setTop { method := m, pc := pc + 3, locals := ls, stack := .ref T.heap.size :: rest, locked := none }) _
  jvm_step X₁.here [X₁.here.top, hexec, d3', Value.category]
  exact hsteps
/-- 'throw new E("text")': new; dup; ldc; invokespecial; athrow -/
theorem vx_throwS {cc : ByteArray} {pc : Nat} (hexec : p.tables.exec = Jvm.exec) (hb : c.code = cc) (hl : l.stackTraces = false) {own cls text : String} {names : List String} {ik is ic mc ms sa : Nat} {A : Nat → Prop}
    (hown : s.vm.findClass own = some m.cls) (hcls : Bundle.fit cls = true) (hnames : ∀ n ∈ names, Bundle.fit n = true)
    (hk : (Cond.classLink own ik cls).before args s = true) (hini : (Cond.initialized cls).before args s = true) (hstr : vk_R own is text sa s) (hat : ∀ w ∈ vx_atS own ic cls names, w.before args s = true)
    (hgood : ∀ w ∈ Cond.classLink own ik cls :: Cond.initialized cls :: vx_atS own ic cls names, vx_ot w = true)
    (hU : vx_Zq Bundle.tN "UNASSIGNED_STACK" Bundle.steD A s s.heap) (hN : vx_Zq Bundle.tN "SUPPRESSED_SENTINEL" Bundle.listD A s s.heap) (hS : va_S A s.heap H locs) (hsize : ls.size = c.maxLocals)
    (d0 : decode cc pc = .ok (.new ik, 3)) (d3 : decode cc (pc + 3) = .ok (.dup, 1)) (d4 : decode cc (pc + 4) = .ok (.ldc is, 2)) (d6 : decode cc (pc + 6) = .ok (.invokespecial ic, 3)) (d9 : decode cc (pc + 9) = .ok (.athrow, 1))
    (hout : ∀ x ∈ c.exceptionTable.toList, covers x (pc + 9) = false)
    (hRframes : names.length + 3 < R.frames) (hRlocals : (rest.map fun v => v.category).sum + (13 * (names.length + 1) + 43) ≤ R.locals) (hRcells : cells + 1 ≤ R.cells) (hRslots : slots + 6 ≤ R.slots) (hlocks : meth.locks = false)
    (hx : ∀ t : State, s.vm.Alike t.vm → H.size ≤ t.heap.size → (∀ q : Nat, q < H.size → t.heap[q]? = H[q]?) → XC cls s t)
    (hf : ∀ z ∈ locs, free z.base) (hc : cells + 1 ≤ mc) (hs : slots + 6 ≤ ms) :
    W p l e R s m args below meth c H locs cells slots (vx_MQ below Qc XC args s mc ms free) (F0 m pc ls rest) := by
  intro T hT X
  have htr : e.platform.stackTraces = false := (show e.platform.stackTraces = l.stackTraces by rw [X.admits.platform]).trans hl
  have Y := vx_rebase X (R' := { frames := R.frames, locals := R.locals, cells := 1, slots := 6 }) (Nat.le_refl _) (Nat.le_refl _) hRcells hRslots
  obtain ⟨s', hA⟩ : ∃ z, z = (T.setVm s.vm).setFrames (.invoking m args :: below) := ⟨_, rfl⟩
  rw [← hA] at Y
  have hvm : s'.vm = s.vm := by rw [hA]; rfl
  have hhp : s'.heap = H := by rw [hA]; exact hT
  have hW0 : s.WarmedH s'.vm := by rw [hvm]; exact State.WarmedH.refl s
  have hat' : ∀ w ∈ vx_atS own ic cls names, w.before args s' = true := fun w hw => vx_ot_at hW0 hvm.symm (hgood w (List.mem_cons_of_mem _ (List.mem_cons_of_mem _ hw))) (hat w hw)
  have hk' : (Cond.classLink own ik cls).before args s' = true := vx_ot_at hW0 hvm.symm (hgood _ List.mem_cons_self) hk
  have hini' : (Cond.initialized cls).before args s' = true := vx_ot_at hW0 hvm.symm (hgood _ (List.mem_cons_of_mem _ List.mem_cons_self)) hini
  have hU' : vx_Zq Bundle.tN "UNASSIGNED_STACK" Bundle.steD A s' s'.heap := by rw [hhp]; exact vx_Zq.moved hW0.alike (hU.kept hS.2.1)
  have hN' : vx_Zq Bundle.tN "SUPPRESSED_SENTINEL" Bundle.listD A s' s'.heap := by rw [hhp]; exact vx_Zq.moved hW0.alike (hN.kept hS.2.1)
  have h : ∀ w ∈ Bundle.ownAtoms own ic cls names, w.before args s' = true := vx_own hat' (vx_isRefq hU'.1) (vx_isRefq hN'.1) hU'.2.word hN'.2.word
  have hown' : s'.vm.findClass own = some m.cls := by rw [hvm]; exact hown
  have hins : (Cond.instantiable cls 6).before args s' = true := h _ (by simp [Bundle.ownAtoms])
  obtain ⟨vm₁, cX, kX, hfX, hkX, -, -, X₁, st1⟩ := Y.newCold hexec (own := own) (C := cls) (index := ik) (n := 6) hown' hk' hins hini'
    (g := F0 m pc ls rest) rfl (by rw [hb]; exact d0) (Nat.le_refl _) (Nat.le_refl _)
  generalize hT1 : (T.setVm vm₁).pushCell { cls := cX, slots := kX.instanceTypes.map defaultValue, vm := .none } = T1 at X₁ st1
  have hcat : (Value.ref T.heap.size).category = 1 := rfl
  have hcellA : T1.heap[T.heap.size]? = some (freshCell cX kX) := by rw [← hT1]; exact State.heap_pushCell_size _ _
  have d3' : decode c.code (pc + 3) = .ok (.dup, 1) := by rw [hb]; exact d3
  have d4' : decode c.code (pc + 4) = .ok (.ldc is, 2) := by rw [hb]; exact d4
  have hstr' : vk_R own is text sa s' := vk_R.warm hW0 hstr
  obtain ⟨U, hsteps, hrun, hend, hW, hsame, ce, hce, hO⟩ := X₁.ctorThrowS hexec htr (own := own) (cls := cls) (names := names) (ic := ic) hown' hcls hnames h (fun x hx => nomatch hx) hfX hkX hcellA (by rw [hhp, hT]; exact Nat.le_refl _) (msg := .ref sa) rfl
    (g := { method := m, pc := pc + 6, locals := ls, stack := .ref sa :: .ref T.heap.size :: .ref T.heap.size :: rest, locked := none }) rfl hsize rfl rfl (rest := rest) rfl
    (by rw [hb]; exact d6) (by rw [hb]; exact d9) hout hRframes (by simp only [List.map_cons, List.sum_cons, hcat]; omega) hlocks
  obtain ⟨f1, f2⟩ := vx_frame hsame
  rw [hhp] at f1 f2
  have hWs : s.WarmedH U.vm := State.WarmedH.trans hW0 hW
  have hcl : s.vm.findClass cls = some ce.cls := by
    have h9 := hO.cls
    rw [hvm] at h9
    exact h9
  have hall : s.sameButNew ({ U with vm := s.vm } : State) locs mc ms := by
    subst hA
    obtain ⟨e1, e2⟩ := hsame
    rw [State.setFrames_setFrames] at e1
    have h2 : (T.setVm s.vm).sameButNew ({ U with vm := s.vm } : State) [] (0 + 1) (0 + 6) := ⟨e1, e2⟩
    have h3 := X.same.trans h2
    rw [List.append_nil] at h3
    exact h3.mono hc hs
  refine ⟨U, ?_, .threw T.heap.size, hrun, hend, Or.inr ⟨T.heap.size, rfl, cls, ce, locs, hx U hWs.alike f1 (fun q hq => f2 q hq (fun z hz => nomatch hz)), hce, hO.vm, hcl, hWs, hall, hf⟩⟩
  refine st1 _ ?_
  show Steps p.tables e below (T1.setTop { method := m, pc := pc + 3, locals := ls, stack := .ref T.heap.size :: rest, locked := none }) _
  jvm_step X₁.here [X₁.here.top, hexec, d3', Value.category]
  exact X₁.ldcString hexec (own := own) (text := text) (index := is) (a := sa) hown' hstr'.1 hstr'.2
    (g := { method := m, pc := pc + 4, locals := ls, stack := .ref T.heap.size :: .ref T.heap.size :: rest, locked := none }) rfl d4' _ hsteps
/-- 'throw new E("text")', the text by a wide index -/
theorem vx_throwSW {cc : ByteArray} {pc : Nat} (hexec : p.tables.exec = Jvm.exec) (hb : c.code = cc) (hl : l.stackTraces = false) {own cls text : String} {names : List String} {ik is ic mc ms sa : Nat} {A : Nat → Prop}
    (hown : s.vm.findClass own = some m.cls) (hcls : Bundle.fit cls = true) (hnames : ∀ n ∈ names, Bundle.fit n = true)
    (hk : (Cond.classLink own ik cls).before args s = true) (hini : (Cond.initialized cls).before args s = true) (hstr : vk_R own is text sa s) (hat : ∀ w ∈ vx_atS own ic cls names, w.before args s = true)
    (hgood : ∀ w ∈ Cond.classLink own ik cls :: Cond.initialized cls :: vx_atS own ic cls names, vx_ot w = true)
    (hU : vx_Zq Bundle.tN "UNASSIGNED_STACK" Bundle.steD A s s.heap) (hN : vx_Zq Bundle.tN "SUPPRESSED_SENTINEL" Bundle.listD A s s.heap) (hS : va_S A s.heap H locs) (hsize : ls.size = c.maxLocals)
    (d0 : decode cc pc = .ok (.new ik, 3)) (d3 : decode cc (pc + 3) = .ok (.dup, 1)) (d4 : decode cc (pc + 4) = .ok (.ldc_w is, 3)) (d7 : decode cc (pc + 7) = .ok (.invokespecial ic, 3)) (d10 : decode cc (pc + 10) = .ok (.athrow, 1))
    (hout : ∀ x ∈ c.exceptionTable.toList, covers x (pc + 10) = false)
    (hRframes : names.length + 3 < R.frames) (hRlocals : (rest.map fun v => v.category).sum + (13 * (names.length + 1) + 43) ≤ R.locals) (hRcells : cells + 1 ≤ R.cells) (hRslots : slots + 6 ≤ R.slots) (hlocks : meth.locks = false)
    (hx : ∀ t : State, s.vm.Alike t.vm → H.size ≤ t.heap.size → (∀ q : Nat, q < H.size → t.heap[q]? = H[q]?) → XC cls s t)
    (hf : ∀ z ∈ locs, free z.base) (hc : cells + 1 ≤ mc) (hs : slots + 6 ≤ ms) :
    W p l e R s m args below meth c H locs cells slots (vx_MQ below Qc XC args s mc ms free) (F0 m pc ls rest) := by
  intro T hT X
  have htr : e.platform.stackTraces = false := (show e.platform.stackTraces = l.stackTraces by rw [X.admits.platform]).trans hl
  have Y := vx_rebase X (R' := { frames := R.frames, locals := R.locals, cells := 1, slots := 6 }) (Nat.le_refl _) (Nat.le_refl _) hRcells hRslots
  obtain ⟨s', hA⟩ : ∃ z, z = (T.setVm s.vm).setFrames (.invoking m args :: below) := ⟨_, rfl⟩
  rw [← hA] at Y
  have hvm : s'.vm = s.vm := by rw [hA]; rfl
  have hhp : s'.heap = H := by rw [hA]; exact hT
  have hW0 : s.WarmedH s'.vm := by rw [hvm]; exact State.WarmedH.refl s
  have hat' : ∀ w ∈ vx_atS own ic cls names, w.before args s' = true := fun w hw => vx_ot_at hW0 hvm.symm (hgood w (List.mem_cons_of_mem _ (List.mem_cons_of_mem _ hw))) (hat w hw)
  have hk' : (Cond.classLink own ik cls).before args s' = true := vx_ot_at hW0 hvm.symm (hgood _ List.mem_cons_self) hk
  have hini' : (Cond.initialized cls).before args s' = true := vx_ot_at hW0 hvm.symm (hgood _ (List.mem_cons_of_mem _ List.mem_cons_self)) hini
  have hU' : vx_Zq Bundle.tN "UNASSIGNED_STACK" Bundle.steD A s' s'.heap := by rw [hhp]; exact vx_Zq.moved hW0.alike (hU.kept hS.2.1)
  have hN' : vx_Zq Bundle.tN "SUPPRESSED_SENTINEL" Bundle.listD A s' s'.heap := by rw [hhp]; exact vx_Zq.moved hW0.alike (hN.kept hS.2.1)
  have h : ∀ w ∈ Bundle.ownAtoms own ic cls names, w.before args s' = true := vx_own hat' (vx_isRefq hU'.1) (vx_isRefq hN'.1) hU'.2.word hN'.2.word
  have hown' : s'.vm.findClass own = some m.cls := by rw [hvm]; exact hown
  have hins : (Cond.instantiable cls 6).before args s' = true := h _ (by simp [Bundle.ownAtoms])
  obtain ⟨vm₁, cX, kX, hfX, hkX, -, -, X₁, st1⟩ := Y.newCold hexec (own := own) (C := cls) (index := ik) (n := 6) hown' hk' hins hini'
    (g := F0 m pc ls rest) rfl (by rw [hb]; exact d0) (Nat.le_refl _) (Nat.le_refl _)
  generalize hT1 : (T.setVm vm₁).pushCell { cls := cX, slots := kX.instanceTypes.map defaultValue, vm := .none } = T1 at X₁ st1
  have hcat : (Value.ref T.heap.size).category = 1 := rfl
  have hcellA : T1.heap[T.heap.size]? = some (freshCell cX kX) := by rw [← hT1]; exact State.heap_pushCell_size _ _
  have d3' : decode c.code (pc + 3) = .ok (.dup, 1) := by rw [hb]; exact d3
  have d4' : decode c.code (pc + 4) = .ok (.ldc_w is, 3) := by rw [hb]; exact d4
  have hstr' : vk_R own is text sa s' := vk_R.warm hW0 hstr
  obtain ⟨U, hsteps, hrun, hend, hW, hsame, ce, hce, hO⟩ := X₁.ctorThrowS hexec htr (own := own) (cls := cls) (names := names) (ic := ic) hown' hcls hnames h (fun x hx => nomatch hx) hfX hkX hcellA (by rw [hhp, hT]; exact Nat.le_refl _) (msg := .ref sa) rfl
    (g := { method := m, pc := pc + 7, locals := ls, stack := .ref sa :: .ref T.heap.size :: .ref T.heap.size :: rest, locked := none }) rfl hsize rfl rfl (rest := rest) rfl
    (by rw [hb]; exact d7) (by rw [hb]; exact d10) hout hRframes (by simp only [List.map_cons, List.sum_cons, hcat]; omega) hlocks
  obtain ⟨f1, f2⟩ := vx_frame hsame
  rw [hhp] at f1 f2
  have hWs : s.WarmedH U.vm := State.WarmedH.trans hW0 hW
  have hcl : s.vm.findClass cls = some ce.cls := by
    have h9 := hO.cls
    rw [hvm] at h9
    exact h9
  have hall : s.sameButNew ({ U with vm := s.vm } : State) locs mc ms := by
    subst hA
    obtain ⟨e1, e2⟩ := hsame
    rw [State.setFrames_setFrames] at e1
    have h2 : (T.setVm s.vm).sameButNew ({ U with vm := s.vm } : State) [] (0 + 1) (0 + 6) := ⟨e1, e2⟩
    have h3 := X.same.trans h2
    rw [List.append_nil] at h3
    exact h3.mono hc hs
  refine ⟨U, ?_, .threw T.heap.size, hrun, hend, Or.inr ⟨T.heap.size, rfl, cls, ce, locs, hx U hWs.alike f1 (fun q hq => f2 q hq (fun z hz => nomatch hz)), hce, hO.vm, hcl, hWs, hall, hf⟩⟩
  refine st1 _ ?_
  show Steps p.tables e below (T1.setTop { method := m, pc := pc + 3, locals := ls, stack := .ref T.heap.size :: rest, locked := none }) _
  jvm_step X₁.here [X₁.here.top, hexec, d3', Value.category]
  exact X₁.ldcStringW hexec (own := own) (text := text) (index := is) (a := sa) hown' hstr'.1 hstr'.2
    (g := { method := m, pc := pc + 4, locals := ls, stack := .ref T.heap.size :: .ref T.heap.size :: rest, locked := none }) rfl d4' _ hsteps
end Ends
section Bodies
variable {l : Launch}
theorem vx_ofW {y : MethodName} {ws ws' : List Cond} {rm : Room} {Pc : Array Value → State → Prop} {Qc : Array Value → State → Outcome → State → Prop} {XC : String → State → State → Prop} {mc ms : Nat} {free : Addr → Prop} {cc : ByteArray} {maxL : Nat} {ret : Option FieldType}
    (hy : plainName y.cls = true) (hw : ws = Cond.code y cc maxL ret :: ws')
    (body : ∀ p e s m args below meth c s₁, BodyLoose p l y (headSpec ws rm) cc maxL ret e s m args below meth c s₁ → c.maxLocals = maxL → (∀ x ∈ c.exceptionTable.toList, False) → Pc args s →
      W p l e (headSpec ws rm).room s m args below meth c s.heap [] 0 0 (vx_MQ below Qc XC args s mc ms free) (entryFrame m args maxL)) : vx_Met l y ws rm Pc Qc XC mc ms free := by
  refine MetFree.of_bodyS (code := cc) (maxLocals := maxL) (ret := ret) hy ?_ ?_
  · intro args s m h hn
    obtain ⟨meth, c, h1, h2, h3, h4, h5, h6, -, -⟩ := Cond.code_spec hn (atoms_spec (ws := ws) h _ (by rw [hw]; exact List.mem_cons_self))
    exact ⟨meth, c, h1, h2, h3, h4, h5, h6⟩
  · intro p e s m args below meth c s₁ B hml hP _
    have hh0 : s₁.heap = s.heap := by rw [B.state]; rfl
    have ht : ∀ x ∈ c.exceptionTable.toList, False := by
      obtain ⟨meth9, c9, h1, h2, -, -, -, -, h7, -⟩ := Cond.code_spec B.named (atoms_spec (ws := ws) B.pre _ (by rw [hw]; exact List.mem_cons_self))
      cases Option.some.inj (h1.symm.trans B.method)
      cases Option.some.inj (h2.symm.trans (Stand.of_body B).code)
      intro x hx
      rw [Array.isEmpty_iff.mp h7] at hx
      cases hx
    obtain ⟨t, a1, o, b1, b2, b3⟩ := body p e s m args below meth c s₁ B hml ht hP s₁ hh0 (Stand.of_body B)
    exact ⟨t, o, a1, b1, b2, b3⟩
/-- the table of a body with handlers -/
theorem vx_table {p : Program} {x y : MethodName} {S : Spec} {cc bytes : ByteArray} {maxL maxL' : Nat} {ret ret' : Option FieldType} {e : Env} {s s₁ : State} {m : MethodId} {args : Array Value} {below : List Frame} {meth : Method} {c : Code} {hh : List (Nat × Nat × Nat × Nat)}
    (B : BodyLoose p l y S cc maxL ret e s m args below meth c s₁) (h : (Cond.codeWith y bytes maxL' ret' hh).before args s = true) : c.exceptionTable.toList = tableOf hh := by
  obtain ⟨m9, meth9, c9, hn9, h1, h2, -, -, h6, -⟩ := Cond.codeWith_spec h
  cases Option.some.inj (hn9.symm.trans B.named)
  cases Option.some.inj (h1.symm.trans B.method)
  cases Option.some.inj (h2.symm.trans (Stand.of_body B).code)
  rw [← h6, table_eq]
end Bodies
end VXA
/-! ===== END ===== -/
/-! ===== BEGIN a static call of a method with an exception table ===== -/
section VXS
variable {p : Program} {l : Launch} {e : Env} {R : Room} {s : State} {m : MethodId} {args : Array Value} {below : List Frame} {meth : Method} {c : Code} {T : State} {H : Heap} {locs : List Loc} {cells slots : Nat}
abbrev vx_CSW (R : Room) (s : State) (args : Array Value) (own : String) (index : Nat) (y : MethodName) (bytes : ByteArray) (maxL : Nat) (ret : Option FieldType) (hh : List (Nat × Nat × Nat × Nat)) (ws : List Cond) (rm : Room) (mc ms n : Nat) : Prop :=
  (rm.cells = mc ∧ rm.slots = ms ∧ rm.frames + 1 ≤ R.frames ∧ 8 + (maxL + 11) + rm.locals ≤ R.locals ∧ (∀ w ∈ ws, ∀ (a' : Array Value) (U : State), s.WarmedH U.vm → w.before a' U = true) ∧ Cond.codeWith y bytes maxL ret hh ∈ ws) ∧
  (Cond.codeWith y bytes maxL ret hh).before args s = true ∧ (Cond.initialized y.cls).before args s = true ∧ (y.cls ≠ "java/lang/invoke/MethodHandle" ∧ y.cls ≠ "java/lang/invoke/VarHandle") ∧
  (∀ sig, parseMethodDescriptor y.desc = some sig → n = sig.parameters.length) ∧ (Cond.methodLink own index y).before args s = true ∧ (Cond.static y).before args s = true
theorem vx_cwSW {own : String} {index maxL mc ms : Nat} {y : MethodName} {bytes : ByteArray} {ret : Option FieldType} {hh : List (Nat × Nat × Nat × Nat)} {Ts ws ws' : List Cond} {rm : Room} (n : Nat) (ht : ∀ w ∈ Ts, w.before args s = true) (hT : GoodIn Ts (va_wsS own index y ws)) (hw : ws = Cond.codeWith y bytes maxL ret hh :: ws') (hrc : rm.cells = mc) (hrs : rm.slots = ms)
    (hd : y.cls ≠ "java/lang/invoke/MethodHandle" ∧ y.cls ≠ "java/lang/invoke/VarHandle" ∧ (parseMethodDescriptor y.desc).map (fun d => d.parameters.length) = some n) (hR : rm.frames + 1 ≤ R.frames ∧ 8 + (maxL + 11) + rm.locals ≤ R.locals) :
    vx_CSW R s args own index y bytes maxL ret hh ws rm mc ms n := by
  have ok : ∀ w ∈ va_wsS own index y ws, w.before args s = true := fun w h => ht w (hT w h).1
  have hG : GoodIn Ts ws := fun w h => hT w (by unfold va_wsS; exact List.mem_append_right _ h)
  have hc : Cond.codeWith y bytes maxL ret hh ∈ ws := by rw [hw]; exact List.mem_cons_self
  refine ⟨⟨hrc, hrs, hR.1, hR.2, pay_in ht hG, hc⟩, ht _ (hG _ hc).1, ok _ (by simp [va_wsS]), ⟨hd.1, hd.2.1⟩, fun sig h => ?_, ok _ (by simp [va_wsS]), ok _ (by simp [va_wsS])⟩
  have h2 := hd.2.2
  rw [h] at h2
  exact (Option.some.inj h2).symm
theorem vx_callSW (X : Stand p l e R s m args below meth c T locs cells slots) (hexec : p.tables.exec = Jvm.exec) {own : String} {index : Nat} {y : MethodName} {bytes : ByteArray} {maxL : Nat} {ret : Option FieldType} {hh : List (Nat × Nat × Nat × Nat)}
    (hown : s.vm.findClass own = some m.cls) (hlink : (Cond.methodLink own index y).before args s = true) (hstat : (Cond.static y).before args s = true) (hinit : (Cond.initialized y.cls).before args s = true)
    (hcode : (Cond.codeWith y bytes maxL ret hh).before args s = true) (hy : y.cls ≠ "java/lang/invoke/MethodHandle" ∧ y.cls ≠ "java/lang/invoke/VarHandle")
    {W9 : Nat} {Pre : Pt → Array Value → Prop} {Post : Pt → Array Value → Option Value → Pt → Prop} (hK : Back l R p e below s args y 3 W9 Pre Post)
    {g : JFrame} (hg : g.method = m) (hsize : g.locals.size = c.maxLocals) {argsL rest : List Value} (hlen : ∀ sig, parseMethodDescriptor y.desc = some sig → argsL.length = sig.parameters.length)
    (hstack : g.stack = argsL.reverse ++ rest) (hW : 2 * g.monitorRoom + (rest.map fun v => v.category).sum ≤ W9) (hdg : decode c.code g.pc = .ok (.invokestatic index, 3))
    (hpre : ∀ vm₁, s.WarmedH vm₁ → Pre ⟨T.setVm vm₁, locs, cells, slots⟩ argsL.toArray) :
    ∃ (v : Option Value) (vm₁ : Vm) (B : Pt), s.WarmedH vm₁ ∧ Stand p l e R s m args below meth c B.U B.locs B.cells B.slots ∧ Post ⟨T.setVm vm₁, locs, cells, slots⟩ argsL.toArray v B ∧
      ∀ target, Steps p.tables e below (B.U.setTop { g with pc := g.pc + 3, stack := v.toList ++ rest }) target → Steps p.tables e below (T.setTop g) target := by
  obtain ⟨mk, methM, cM, hnamed, hmethM, -, -, -, -, -, -, hsigM⟩ := Cond.codeWith_spec hcode
  have hstatic : methM.isStatic = true := Cond.static_spec hnamed hmethM hstat
  obtain ⟨kP, hkP, -⟩ := className_of_methodNamed hnamed
  have hinitP : kP.init = .initialized := Cond.initialized_spec (findClass_of_methodNamed hnamed) hkP hinit
  obtain ⟨vm₁, X₁, hstep₁⟩ := X.invokestatic hexec hown hlink hnamed hmethM hstatic hkP hinitP hy (g := g) hg (argsL := argsL) (rest := rest) (hlen _ hsigM) hstack hdg
  obtain ⟨v, B, X', hpost, hsteps⟩ := hK m meth c ⟨T.setVm vm₁, locs, cells, slots⟩ { g with stack := rest } (.invokestatic index) mk argsL.toArray X₁ hg hsize hdg hW (X₁.named hnamed) (hpre vm₁ X₁.warmed)
  exact ⟨v, vm₁, B, X₁.warmed, X', hpost, fun target h => hstep₁ _ fun acts => by rw [doInvoke_state]; exact hsteps.trans h⟩
theorem vx_runSW {y : MethodName} {bytes cc : ByteArray} {maxL nL mc ms n index : Nat} {ret : Option FieldType} {hh : List (Nat × Nat × Nat × Nat)} {ws : List Cond} {rm : Room} {Pc : Array Value → State → Prop} {Qc : Array Value → State → Outcome → State → Prop} {free : Addr → Prop} {Ts : List Cond} {own : String} {As rest : List Value} {g : JFrame}
    (S : CallFix p m c cc nL s args Ts own) (hM : Met l y ws rm Pc Qc mc ms free) (cw : vx_CSW R s args own index y bytes maxL ret hh ws rm mc ms n) (hp : PreS s H Pc As)
    (hg : g.method = m) (hn : As.length = n) (hsize : g.locals.size = nL) (hstack : g.stack = As.reverse ++ rest) (hW : 2 * g.monitorRoom + (rest.map fun v => v.category).sum ≤ 8) (hdg : decode cc g.pc = .ok (.invokestatic index, 3)) (hf : cells + mc ≤ R.cells ∧ slots + ms ≤ R.slots) :
    va_Run p l e R s m args below meth c H locs cells slots mc ms g rest (Qc As.toArray) (free) := by
  obtain ⟨⟨hrc, hrs, hfr, hlo, hws, hcw⟩, hcode, hini, hy, hlen, hl, hstt⟩ := cw
  have hK : Back l R p e below s args y 3 8 (PreOf R mc ms Pc) (PostOf Qc mc ms free) := va_backW (hh := hh) (bytes := bytes) (maxL := maxL) (ret := ret) hM hp.1 hrc hrs hfr hlo hws hcw (fun a' U hW => word_at hW (Or.inl (by first | rfl | simp [Cond.onTables, Cond.keeps, Cond.steady])) hini)
  obtain ⟨hx, hb, hml, ho, -⟩ := S
  intro T hT X
  obtain ⟨v, vm₁, ⟨U', l2, c2, s2⟩, hW₁, X', ⟨g', mk, t, L, e1, e2, hq, h1, hL, h2, h3⟩, st⟩ := vx_callSW X hx (hh := hh) (bytes := bytes) (maxL := maxL) (ret := ret) ho hl hstt hini hcode hy hK hg (hsize.trans hml.symm) (argsL := As) (rest := rest) (fun sig h => hn.trans (hlen sig h)) hstack hW (by rw [hb]; exact hdg)
    (fun vm₁ hW₁ => ⟨hf.1, hf.2, hp.2 (T.setVm vm₁) hT hW₁⟩)
  dsimp only [Pt.U, Pt.locs, Pt.cells, Pt.slots] at X' e1 e2 h1 h2 h3 st
  subst h1; subst h2; subst h3
  exact ⟨v, (T.setVm vm₁).calling g' mk As.toArray, t, U', L, hT, X', hL, e1, e2, hq, st⟩
/-- not caught here, past rows that name other classes: it goes on to the caller -/
theorem vx_outP {p : Program} {l : Launch} {e : Env} {R : Room} {s : State} {m : MethodId} {args : Array Value} {below : List Frame} {meth : Method} {c : Code} {H : Heap} {locs : List Loc} {cells slots : Nat} {free : Addr → Prop} {ls : Array Slot} {rest : List Value} {Qc : Array Value → State → Outcome → State → Prop} {XC : String → State → State → Prop}
    {pc : Nat} {own E : String} {ce : Cell} {q : Addr} {mc ms : Nat} (hown : s.vm.findClass own = some m.cls) (hlocks : meth.locks = false)
    (hpass : ∀ z ∈ c.exceptionTable.toList, covers z pc = false ∨ (z.catchType ≠ 0 ∧ ∃ nm : String, (Cond.classLink own z.catchType nm).before args s = true ∧ va_Nc E nm s)) (hcell : H[q]? = some ce) (hv : ce.vm = .none) (hcl : s.vm.findClass E = some ce.cls)
    (hx : ∀ t : State, t.heap = H → s.vm.Alike t.vm → XC E s t) (hf : ∀ z ∈ locs, free z.base) (hc : cells ≤ mc) (hs : slots ≤ ms) :
    vx_W p l e R s m args below meth c H locs cells slots (vx_MQ below Qc XC args s mc ms free) (F0 m pc ls rest) q := by
  intro T hT X
  have hpl : e.platform.magicAccessors = ({} : Platform).magicAccessors := by rw [X.admits.platform]
  obtain ⟨vm', hW', X', st⟩ := X.outThrough hlocks q (g := F0 m pc ls rest) rfl rfl rfl (cell := ce) (by rw [hT]; exact hcell) (by rw [hv]; rfl)
    (by obtain ⟨k9, h9, -⟩ := Vm.findClass_spec hcl; exact ⟨k9, h9⟩) (fun z hz => by
      rcases hpass z hz with h | ⟨hz0, nm, hl1, hn1⟩
      · exact Or.inl h
      · obtain ⟨c6, hc6, hcl6⟩ := Cond.classLink_spec hown hl1 e.platform hpl
        obtain ⟨a8, b8, h1, h2, h3⟩ := hn1
        cases Option.some.inj (h1.symm.trans hcl)
        cases Option.some.inj (h2.symm.trans hc6)
        exact Or.inr ⟨hz0, _, hcl6, h3⟩)
  obtain ⟨g₀, hfr⟩ := X'.frames_eq
  have hcell9 : ((T.setVm vm').setFrames (.throwing q :: below)).heap[q]? = some ce := by
    show T.heap[q]? = some ce
    rw [hT]; exact hcell
  have hend : Ended ((T.setVm vm').setFrames (.throwing q :: below)) below (.threw q) := State.frames_setFrames _ (State.cur_lt_of_frames hfr)
  refine ⟨(T.setVm vm').setFrames (.throwing q :: below), ?_, .threw q, X'.here.running, hend, Or.inr ⟨q, rfl, E, ce, locs, hx _ hT (X'.ends _).1.alike, hcell9, hv, hcl, (X'.ends _).1, (X'.ends _).2.mono hc hs, hf⟩⟩
  rw [X.pushThrowing_eq]
  exact st
/-- a thing of a world lies in the heap -/
theorem vx_lt {D : va_G} {cl : List vw_C} {ws : va_W} {H1 : Heap} (h : va_P D cl ws H1) {k : Nat} {q : Nat × va_E} (hk : ws[k]? = some q) : q.1 < H1.size := (h k q hk).lt
end VXS
/-! ===== END ===== -/
/-! ===== BEGIN methods with a table of their own: called by a name, returning or throwing ===== -/
section VXH
/-! vx_backW, vx_callVX, vx_callSX, vx_callVW, vx_runVW, vx_runVX, vx_runSX, vx_ofWH follow the same proofs as their sisters above (Free/Laws.lean, Shelf42/LK1.lean); vx_outP calls Shelf42/NT130.lean (outThrough). -/
section
variable {l : Launch} {R : Room} {p : Program} {e : Env} {below : List Frame} {s : State} {sargs : Array Value} {y : MethodName} {len W9 : Nat}
theorem vx_backW {ws : List Cond} {rm : Room} {Pc : Array Value → State → Prop} {Qc : Array Value → State → Outcome → State → Prop} {XC : String → State → State → Prop} {mc ms : Nat} {free : Addr → Prop} {bytes : ByteArray} {maxL : Nat} {ret : Option FieldType} {hh : List (Nat × Nat × Nat × Nat)}
    (hM : vx_Met l y ws rm Pc Qc XC mc ms free) (hblind : FrameBlind Pc) (hrc : rm.cells = mc) (hrs : rm.slots = ms)
    (hframes : rm.frames + 1 ≤ R.frames) (hlocals : W9 + (maxL + 11) + rm.locals ≤ R.locals)
    (hws : ∀ w ∈ ws, ∀ a' U, s.WarmedH U.vm → w.before a' U = true) (hcode : Cond.codeWith y bytes maxL ret hh ∈ ws) (hinit : ∀ a' U, s.WarmedH U.vm → (Cond.initialized y.cls).before a' U = true) :
    vx_Back l R p e below s sargs y len W9 (PreOf R mc ms Pc) (PostOf Qc mc ms free) (vx_Post XC mc ms free) := by
  intro m meth c A g ig mk a X hg hsize hdg hW hn hp
  have h1 : (headSpec ws rm).pre.before a A.U = true := atoms_intro fun w hw => hws w hw _ _ X.warmed
  have h2 : (Cond.codeWith y bytes maxL ret hh).before a A.U = true := hws _ hcode _ _ X.warmed
  have h3 : (Cond.initialized y.cls).before a A.U = true := hinit _ _ X.warmed
  have h4 : A.cells + (headSpec ws rm).room.cells ≤ R.cells := by rw [show (headSpec ws rm).room.cells = mc from hrc]; exact hp.1
  have h5 : A.slots + (headSpec ws rm).room.slots ≤ R.slots := by rw [show (headSpec ws rm).room.slots = ms from hrs]; exact hp.2.1
  have hPc : Pc a (A.U.calling g mk a) := hblind _ _ _ _ hp.2.2
  obtain ⟨U, Ls, c0, s0⟩ := A
  dsimp only [Pt.U, Pt.locs, Pt.cells, Pt.slots] at h1 h2 h3 h4 h5 X hn hPc ⊢
  obtain ⟨m9, methY, cY, hn9, hmY, hcY, -, hlY, -⟩ := Cond.codeWith_spec h2
  cases Option.some.inj (hn9.symm.trans hn)
  obtain ⟨kY, hkY, -⟩ := className_of_methodNamed hn
  have hinitY : kY.init = .initialized := Cond.initialized_spec (findClass_of_methodNamed hn) hkY h3
  have h : At U g.method c below := by rw [hg]; exact X.here
  have hlocals9 : W9 + (maxL + 11) + (headSpec ws rm).room.locals ≤ R.locals := hlocals
  have happ : (headSpec ws rm).appliesLoose y e.platform (U.calling g mk a) = true :=
    Spec.appliesLoose_calling (g := g) h hdg hn hkY hinitY
      (X.room_calling (g := g) (R' := (headSpec ws rm).room) hsize hmY hcY hframes (by rw [hlY]; omega) h4 h5) h1
  obtain ⟨mid, hmid⟩ := h.above
  have hfr : (U.setTop g).frames = (.java g :: mid) ++ below := by rw [State.frames_setTop' g h.top, hmid]; rfl
  obtain ⟨o, s₂, hsteps, -, hend, hq⟩ := Steps.callFree hM p X.admits X.cas X.clock (acts := []) hfr happ hPc trivial
  have hq' : vx_Q Qc XC mc ms free a (U.calling g mk a) o s₂ := hq
  rw [State.frames_setTop' g h.top] at hend
  obtain ⟨g₀, hg0⟩ := Option.isSome_iff_exists.mp h.top
  obtain ⟨r, hr⟩ := State.topJava?_eq_some.mp hg0
  have hr' : (({ U with heap := s₂.heap, slotsUsed := s₂.slotsUsed } : State).setVm s₂.vm).frames = .java g₀ :: r := hr
  rcases hq' with ⟨hqc, L, hfe, hL⟩ | ⟨q, rfl, E, ce, L, hx, hce, hcv, hcl, hW₂, hsm, hL⟩
  · obtain ⟨⟨v, rfl⟩, hW₂, e2, q2, q3, q4, q5, q6⟩ := id hfe
    have e3 : s₂ = ({ (U.calling g mk a).setFrames s₂.frames with heap := s₂.heap, slotsUsed := s₂.slotsUsed } : State).setVm s₂.vm := by
      have : s₂ = ({ s₂ with vm := (U.calling g mk a).vm } : State).setVm s₂.vm := rfl
      rw [e2] at this
      exact this
    obtain ⟨c₂, i₂, len₂, hc₂, hd₂, hf₂⟩ := hend
    have hW' : U.WarmedH s₂.vm := hW₂
    have hcc : c₂ = c := by
      have h1 : s₂.code? g.method = U.code? g.method := by
        rw [State.code?_eq, State.code?_eq, hW'.alike.method?]
      exact Option.some.inj (hc₂.symm.trans (h1.trans h.code))
    subst hcc
    have hlen : len₂ = len := by rw [hdg] at hd₂; cases hd₂; rfl
    subst hlen
    have hs₂ : s₂ = (({ U with heap := s₂.heap, slotsUsed := s₂.slotsUsed } : State).setVm s₂.vm).setTop { g with pc := g.pc + len₂, stack := v.toList ++ g.stack } := by
      refine e3.trans ?_
      rw [hf₂, State.calling_eq h.top, State.setFrames_setFrames, State.setTop_of_frames _ hr', hr]
      rfl
    have hsame : U.sameButNew ({ U with heap := s₂.heap, slotsUsed := s₂.slotsUsed } : State) L mc ms := by
      refine ⟨?_, q2, q3, q4, q5, q6⟩
      obtain ⟨t, ht, -⟩ := State.frames_cons hr
      show ({ U with heap := s₂.heap, slotsUsed := s₂.slotsUsed } : State) = { U.setFrames U.frames with heap := s₂.heap, slotsUsed := s₂.slotsUsed }
      rw [State.setFrames_self ht]
    subst hg
    refine Or.inl ⟨v, ⟨(({ U with heap := s₂.heap, slotsUsed := s₂.slotsUsed } : State).setVm s₂.vm), Ls ++ L, c0 + mc, s0 + ms⟩,
      ⟨X.admits, X.cas, X.clock, X.frames, X.room, X.hears, X.method, X.code, (X.here.setHeapUsed s₂.heap s₂.slotsUsed).setVm hW'.alike, X.tail, State.WarmedH.trans X.warmed hW', X.limits, X.bytes, X.same.trans (hsame.setVm s.vm)⟩,
      ⟨g, mk, s₂, L, rfl, rfl, hqc, rfl, hL, rfl, rfl⟩, ?_⟩
    show Steps p.tables e below _ ((({ U with heap := s₂.heap, slotsUsed := s₂.slotsUsed } : State).setVm s₂.vm).setTop { g with pc := g.pc + len₂, stack := v.toList ++ g.stack })
    rw [← hs₂]
    exact hsteps
  · obtain ⟨e2, q2, q3, q4, q5, q6⟩ := id hsm
    have e3 : s₂ = ({ (U.calling g mk a).setFrames s₂.frames with heap := s₂.heap, slotsUsed := s₂.slotsUsed } : State).setVm s₂.vm := by
      have : s₂ = ({ s₂ with vm := (U.calling g mk a).vm } : State).setVm s₂.vm := rfl
      rw [e2] at this
      exact this
    have hf₂ : s₂.frames = .throwing q :: .java g :: U.frames.tail := hend
    have hW' : U.WarmedH s₂.vm := hW₂
    have hs₂ : s₂ = ((({ U with heap := s₂.heap, slotsUsed := s₂.slotsUsed } : State).setVm s₂.vm).setTop g).pushFrame (.throwing q) := by
      refine e3.trans ?_
      rw [hf₂, State.calling_eq h.top, State.setFrames_setFrames, State.pushFrame, State.frames_setTop _ hr', State.setTop_of_frames _ hr', State.setFrames_setFrames, hr]
      rfl
    have hsame : U.sameButNew ({ U with heap := s₂.heap, slotsUsed := s₂.slotsUsed } : State) L mc ms := by
      refine ⟨?_, q2, q3, q4, q5, q6⟩
      obtain ⟨t, ht, -⟩ := State.frames_cons hr
      show ({ U with heap := s₂.heap, slotsUsed := s₂.slotsUsed } : State) = { U.setFrames U.frames with heap := s₂.heap, slotsUsed := s₂.slotsUsed }
      rw [State.setFrames_self ht]
    subst hg
    refine Or.inr ⟨q, ⟨(({ U with heap := s₂.heap, slotsUsed := s₂.slotsUsed } : State).setVm s₂.vm), Ls ++ L, c0 + mc, s0 + ms⟩,
      ⟨X.admits, X.cas, X.clock, X.frames, X.room, X.hears, X.method, X.code, (X.here.setHeapUsed s₂.heap s₂.slotsUsed).setVm hW'.alike, X.tail, State.WarmedH.trans X.warmed hW', X.limits, X.bytes, X.same.trans (hsame.setVm s.vm)⟩,
      ⟨g, mk, s₂, L, E, ce, rfl, rfl, hx, hce, hcv, hcl, rfl, hL, rfl, rfl⟩, ?_⟩
    show Steps p.tables e below _ (((({ U with heap := s₂.heap, slotsUsed := s₂.slotsUsed } : State).setVm s₂.vm).setTop g).pushFrame (.throwing q))
    rw [← hs₂]
    exact hsteps
end
variable {p : Program} {l : Launch} {e : Env} {R : Room} {s : State} {m : MethodId} {args : Array Value} {below : List Frame} {meth : Method} {c : Code} {T : State} {H : Heap} {locs : List Loc} {cells slots : Nat}
theorem vx_callVX (X : Stand p l e R s m args below meth c T locs cells slots) (hexec : p.tables.exec = Jvm.exec) {own C : String} {index : Nat} {y : MethodName} {bytes : ByteArray} {maxL : Nat} {ret : Option FieldType} {hh : List (Nat × Nat × Nat × Nat)}
    (hown : s.vm.findClass own = some m.cls) (hlink : (Cond.methodLink own index y).before args s = true) (hinst : (Cond.instanceMethod y).before args s = true) (hsel : (Cond.selects C y y).before args s = true)
    (hcode : (Cond.codeWith y bytes maxL ret hh).before args s = true) (hy : y.cls ≠ "java/lang/invoke/MethodHandle" ∧ y.cls ≠ "java/lang/invoke/VarHandle")
    {W9 : Nat} {Pre : Pt → Array Value → Prop} {Post : Pt → Array Value → Option Value → Pt → Prop} {PostX : Pt → Array Value → Addr → Pt → Prop} (hK : vx_Back l R p e below s args y 3 W9 Pre Post PostX)
    {b : Addr} {cellB : Cell} (hcell : T.heap[b]? = some cellB) (hobj : cellB.vm.isStatics = false) (hcls : s.vm.findClass C = some cellB.cls)
    {g : JFrame} (hg : g.method = m) (hsize : g.locals.size = c.maxLocals) {argsL rest : List Value} (hlen : ∀ sig, parseMethodDescriptor y.desc = some sig → argsL.length = sig.parameters.length)
    (hstack : g.stack = argsL.reverse ++ .ref b :: rest) (hW : 2 * g.monitorRoom + (rest.map fun v => v.category).sum ≤ W9) (hdg : decode c.code g.pc = .ok (.invokevirtual index, 3))
    (hpre : ∀ vm₁, s.WarmedH vm₁ → Pre ⟨T.setVm vm₁, locs, cells, slots⟩ (Value.ref b :: argsL).toArray) :
    (∃ (v : Option Value) (vm₁ : Vm) (B : Pt), s.WarmedH vm₁ ∧ Stand p l e R s m args below meth c B.U B.locs B.cells B.slots ∧ Post ⟨T.setVm vm₁, locs, cells, slots⟩ (Value.ref b :: argsL).toArray v B ∧
      ∀ target, Steps p.tables e below (B.U.setTop { g with pc := g.pc + 3, stack := v.toList ++ rest }) target → Steps p.tables e below (T.setTop g) target) ∨
    (∃ (q : Addr) (vm₁ : Vm) (B : Pt), s.WarmedH vm₁ ∧ Stand p l e R s m args below meth c B.U B.locs B.cells B.slots ∧ PostX ⟨T.setVm vm₁, locs, cells, slots⟩ (Value.ref b :: argsL).toArray q B ∧
      Steps p.tables e below (T.setTop g) ((B.U.setTop { g with stack := rest }).pushFrame (.throwing q))) := by
  obtain ⟨mk, methM, hnamed, hmethM, hstM, habM⟩ := Cond.instanceMethod_spec hinst
  obtain ⟨m8, methM', cM, hn8, hmethM', -, -, -, -, -, -, hsigM⟩ := Cond.codeWith_spec hcode
  cases Option.some.inj (hn8.symm.trans hnamed)
  cases hmethM.symm.trans hmethM'
  obtain ⟨c2, r2, m2, q1, q2, q3, q4, kP, hkP, hkPi⟩ := Cond.selects_spec hsel
  cases hcls.symm.trans q1
  cases (State.methodFound?_of_named hnamed hy).symm.trans q2
  cases hnamed.symm.trans q3
  have hselP : selectMethod e.platform s.vm cellB.cls mk = .method mk := by rw [Launch.admits_selectMethod X.admits]; exact q4
  obtain ⟨vm₁, X₁, hstep₁⟩ := X.invokevirtual hexec hown hlink hnamed hmethM hstM hkP hkPi hy (a := b) (cell := cellB) hcell
    (fun z h => by rw [h] at hobj; cases hobj) hselP hmethM habM hkP hkPi (g := g) hg (argsL := argsL) (rest := rest) (hlen _ hsigM) hstack hdg
  rcases hK m meth c ⟨T.setVm vm₁, locs, cells, slots⟩ { g with stack := rest } (.invokevirtual index) mk (Value.ref b :: argsL).toArray X₁ hg hsize hdg hW (X₁.named hnamed) (hpre vm₁ X₁.warmed) with ⟨v, B, X', hpost, hsteps⟩ | ⟨q, B, X', hpost, hsteps⟩
  · exact Or.inl ⟨v, vm₁, B, X₁.warmed, X', hpost, fun target h => hstep₁ _ fun acts => by rw [doInvoke_state]; exact hsteps.trans h⟩
  · exact Or.inr ⟨q, vm₁, B, X₁.warmed, X', hpost, hstep₁ _ fun acts => by rw [doInvoke_state]; exact hsteps⟩
theorem vx_callSX (X : Stand p l e R s m args below meth c T locs cells slots) (hexec : p.tables.exec = Jvm.exec) {own : String} {index : Nat} {y : MethodName} {bytes : ByteArray} {maxL : Nat} {ret : Option FieldType} {hh : List (Nat × Nat × Nat × Nat)}
    (hown : s.vm.findClass own = some m.cls) (hlink : (Cond.methodLink own index y).before args s = true) (hstat : (Cond.static y).before args s = true) (hinit : (Cond.initialized y.cls).before args s = true)
    (hcode : (Cond.codeWith y bytes maxL ret hh).before args s = true) (hy : y.cls ≠ "java/lang/invoke/MethodHandle" ∧ y.cls ≠ "java/lang/invoke/VarHandle")
    {W9 : Nat} {Pre : Pt → Array Value → Prop} {Post : Pt → Array Value → Option Value → Pt → Prop} {PostX : Pt → Array Value → Addr → Pt → Prop} (hK : vx_Back l R p e below s args y 3 W9 Pre Post PostX)
    {g : JFrame} (hg : g.method = m) (hsize : g.locals.size = c.maxLocals) {argsL rest : List Value} (hlen : ∀ sig, parseMethodDescriptor y.desc = some sig → argsL.length = sig.parameters.length)
    (hstack : g.stack = argsL.reverse ++ rest) (hW : 2 * g.monitorRoom + (rest.map fun v => v.category).sum ≤ W9) (hdg : decode c.code g.pc = .ok (.invokestatic index, 3))
    (hpre : ∀ vm₁, s.WarmedH vm₁ → Pre ⟨T.setVm vm₁, locs, cells, slots⟩ argsL.toArray) :
    (∃ (v : Option Value) (vm₁ : Vm) (B : Pt), s.WarmedH vm₁ ∧ Stand p l e R s m args below meth c B.U B.locs B.cells B.slots ∧ Post ⟨T.setVm vm₁, locs, cells, slots⟩ argsL.toArray v B ∧
      ∀ target, Steps p.tables e below (B.U.setTop { g with pc := g.pc + 3, stack := v.toList ++ rest }) target → Steps p.tables e below (T.setTop g) target) ∨
    (∃ (q : Addr) (vm₁ : Vm) (B : Pt), s.WarmedH vm₁ ∧ Stand p l e R s m args below meth c B.U B.locs B.cells B.slots ∧ PostX ⟨T.setVm vm₁, locs, cells, slots⟩ argsL.toArray q B ∧
      Steps p.tables e below (T.setTop g) ((B.U.setTop { g with stack := rest }).pushFrame (.throwing q))) := by
  obtain ⟨mk, methM, cM, hnamed, hmethM, -, -, -, -, -, -, hsigM⟩ := Cond.codeWith_spec hcode
  have hstatic : methM.isStatic = true := Cond.static_spec hnamed hmethM hstat
  obtain ⟨kP, hkP, -⟩ := className_of_methodNamed hnamed
  have hinitP : kP.init = .initialized := Cond.initialized_spec (findClass_of_methodNamed hnamed) hkP hinit
  obtain ⟨vm₁, X₁, hstep₁⟩ := X.invokestatic hexec hown hlink hnamed hmethM hstatic hkP hinitP hy (g := g) hg (argsL := argsL) (rest := rest) (hlen _ hsigM) hstack hdg
  rcases hK m meth c ⟨T.setVm vm₁, locs, cells, slots⟩ { g with stack := rest } (.invokestatic index) mk argsL.toArray X₁ hg hsize hdg hW (X₁.named hnamed) (hpre vm₁ X₁.warmed) with ⟨v, B, X', hpost, hsteps⟩ | ⟨q, B, X', hpost, hsteps⟩
  · exact Or.inl ⟨v, vm₁, B, X₁.warmed, X', hpost, fun target h => hstep₁ _ fun acts => by rw [doInvoke_state]; exact hsteps.trans h⟩
  · exact Or.inr ⟨q, vm₁, B, X₁.warmed, X', hpost, hstep₁ _ fun acts => by rw [doInvoke_state]; exact hsteps⟩
theorem vx_callVW (X : Stand p l e R s m args below meth c T locs cells slots) (hexec : p.tables.exec = Jvm.exec) {own C : String} {index : Nat} {y : MethodName} {bytes : ByteArray} {maxL : Nat} {ret : Option FieldType} {hh : List (Nat × Nat × Nat × Nat)}
    (hown : s.vm.findClass own = some m.cls) (hlink : (Cond.methodLink own index y).before args s = true) (hinst : (Cond.instanceMethod y).before args s = true) (hsel : (Cond.selects C y y).before args s = true)
    (hcode : (Cond.codeWith y bytes maxL ret hh).before args s = true) (hy : y.cls ≠ "java/lang/invoke/MethodHandle" ∧ y.cls ≠ "java/lang/invoke/VarHandle")
    {W9 : Nat} {Pre : Pt → Array Value → Prop} {Post : Pt → Array Value → Option Value → Pt → Prop} (hK : Back l R p e below s args y 3 W9 Pre Post)
    {b : Addr} {cellB : Cell} (hcell : T.heap[b]? = some cellB) (hobj : cellB.vm.isStatics = false) (hcls : s.vm.findClass C = some cellB.cls)
    {g : JFrame} (hg : g.method = m) (hsize : g.locals.size = c.maxLocals) {argsL rest : List Value} (hlen : ∀ sig, parseMethodDescriptor y.desc = some sig → argsL.length = sig.parameters.length)
    (hstack : g.stack = argsL.reverse ++ .ref b :: rest) (hW : 2 * g.monitorRoom + (rest.map fun v => v.category).sum ≤ W9) (hdg : decode c.code g.pc = .ok (.invokevirtual index, 3))
    (hpre : ∀ vm₁, s.WarmedH vm₁ → Pre ⟨T.setVm vm₁, locs, cells, slots⟩ (Value.ref b :: argsL).toArray) :
    ∃ (v : Option Value) (vm₁ : Vm) (B : Pt), s.WarmedH vm₁ ∧ Stand p l e R s m args below meth c B.U B.locs B.cells B.slots ∧ Post ⟨T.setVm vm₁, locs, cells, slots⟩ (Value.ref b :: argsL).toArray v B ∧
      ∀ target, Steps p.tables e below (B.U.setTop { g with pc := g.pc + 3, stack := v.toList ++ rest }) target → Steps p.tables e below (T.setTop g) target := by
  obtain ⟨mk, methM, hnamed, hmethM, hstM, habM⟩ := Cond.instanceMethod_spec hinst
  obtain ⟨m8, methM', cM, hn8, hmethM', -, -, -, -, -, -, hsigM⟩ := Cond.codeWith_spec hcode
  cases Option.some.inj (hn8.symm.trans hnamed)
  cases hmethM.symm.trans hmethM'
  obtain ⟨c2, r2, m2, q1, q2, q3, q4, kP, hkP, hkPi⟩ := Cond.selects_spec hsel
  cases hcls.symm.trans q1
  cases (State.methodFound?_of_named hnamed hy).symm.trans q2
  cases hnamed.symm.trans q3
  have hselP : selectMethod e.platform s.vm cellB.cls mk = .method mk := by rw [Launch.admits_selectMethod X.admits]; exact q4
  obtain ⟨vm₁, X₁, hstep₁⟩ := X.invokevirtual hexec hown hlink hnamed hmethM hstM hkP hkPi hy (a := b) (cell := cellB) hcell
    (fun z h => by rw [h] at hobj; cases hobj) hselP hmethM habM hkP hkPi (g := g) hg (argsL := argsL) (rest := rest) (hlen _ hsigM) hstack hdg
  obtain ⟨v, B, X', hpost, hsteps⟩ := hK m meth c ⟨T.setVm vm₁, locs, cells, slots⟩ { g with stack := rest } (.invokevirtual index) mk (Value.ref b :: argsL).toArray X₁ hg hsize hdg hW (X₁.named hnamed) (hpre vm₁ X₁.warmed)
  exact ⟨v, vm₁, B, X₁.warmed, X', hpost, fun target h => hstep₁ _ fun acts => by rw [doInvoke_state]; exact hsteps.trans h⟩
abbrev vx_CVW (R : Room) (s : State) (args : Array Value) (own C : String) (index : Nat) (y : MethodName) (bytes : ByteArray) (maxL : Nat) (ret : Option FieldType) (hh : List (Nat × Nat × Nat × Nat)) (ws : List Cond) (rm : Room) (mc ms n : Nat) : Prop :=
  (rm.cells = mc ∧ rm.slots = ms ∧ rm.frames + 1 ≤ R.frames ∧ 8 + (maxL + 11) + rm.locals ≤ R.locals ∧ (∀ w ∈ ws, ∀ (a' : Array Value) (U : State), s.WarmedH U.vm → w.before a' U = true) ∧ Cond.codeWith y bytes maxL ret hh ∈ ws) ∧
  (Cond.codeWith y bytes maxL ret hh).before args s = true ∧ (Cond.initialized y.cls).before args s = true ∧ (y.cls ≠ "java/lang/invoke/MethodHandle" ∧ y.cls ≠ "java/lang/invoke/VarHandle") ∧
  (∀ sig, parseMethodDescriptor y.desc = some sig → n = sig.parameters.length) ∧ (Cond.methodLink own index y).before args s = true ∧ (Cond.instanceMethod y).before args s = true ∧ (Cond.selects C y y).before args s = true
theorem vx_cwVW {own C : String} {index maxL mc ms : Nat} {y : MethodName} {bytes : ByteArray} {ret : Option FieldType} {hh : List (Nat × Nat × Nat × Nat)} {Ts ws ws' : List Cond} {rm : Room} (n : Nat) (ht : ∀ w ∈ Ts, w.before args s = true) (hT : GoodIn Ts (wsV own index C y ws)) (hw : ws = Cond.codeWith y bytes maxL ret hh :: ws') (hrc : rm.cells = mc) (hrs : rm.slots = ms)
    (hd : y.cls = C ∧ y.cls ≠ "java/lang/invoke/MethodHandle" ∧ y.cls ≠ "java/lang/invoke/VarHandle" ∧ (parseMethodDescriptor y.desc).map (fun d => d.parameters.length) = some n) (hR : rm.frames + 1 ≤ R.frames ∧ 8 + (maxL + 11) + rm.locals ≤ R.locals) :
    vx_CVW R s args own C index y bytes maxL ret hh ws rm mc ms n := by
  obtain ⟨hC, hd⟩ := hd
  subst hC
  have ok : ∀ w ∈ wsV own index y.cls y ws, w.before args s = true := fun w h => ht w (hT w h).1
  have hG : GoodIn Ts ws := fun w h => hT w (by unfold wsV; exact List.mem_append_right _ h)
  have hc : Cond.codeWith y bytes maxL ret hh ∈ ws := by rw [hw]; exact List.mem_cons_self
  refine ⟨⟨hrc, hrs, hR.1, hR.2, pay_in ht hG, hc⟩, ht _ (hG _ hc).1, ok _ (by simp [wsV]), ⟨hd.1, hd.2.1⟩, fun sig h => ?_, ok _ (by simp [wsV]), ok _ (by simp [wsV]), ok _ (by simp [wsV])⟩
  have h2 := hd.2.2
  rw [h] at h2
  exact (Option.some.inj h2).symm
theorem vx_runVW {y : MethodName} {bytes cc : ByteArray} {maxL nL mc ms n index : Nat} {ret : Option FieldType} {hh : List (Nat × Nat × Nat × Nat)} {ws : List Cond} {rm : Room} {Pc : Array Value → State → Prop} {Qc : Array Value → State → Outcome → State → Prop} {free : Addr → Prop} {Ts : List Cond} {own C : String} {b : Addr} {As rest : List Value} {g : JFrame}
    (S : CallFix p m c cc nL s args Ts own) (hM : Met l y ws rm Pc Qc mc ms free) (cw : vx_CVW R s args own C index y bytes maxL ret hh ws rm mc ms n) (hp : PreV s H C b Pc As)
    (hg : g.method = m) (hn : As.length = n) (hsize : g.locals.size = nL) (hstack : g.stack = As.reverse ++ .ref b :: rest) (hW : 2 * g.monitorRoom + (rest.map fun v => v.category).sum ≤ 8) (hdg : decode cc g.pc = .ok (.invokevirtual index, 3)) (hf : cells + mc ≤ R.cells ∧ slots + ms ≤ R.slots) :
    va_Run p l e R s m args below meth c H locs cells slots mc ms g rest (Qc (Value.ref b :: As).toArray) free := by
  obtain ⟨⟨hrc, hrs, hfr, hlo, hws, hcw⟩, hcode, hini, hy, hlen, hl, hin, hse⟩ := cw
  have hK : Back l R p e below s args y 3 8 (PreOf R mc ms Pc) (PostOf Qc mc ms free) := va_backW (hh := hh) (bytes := bytes) (maxL := maxL) (ret := ret) hM hp.1 hrc hrs hfr hlo hws hcw (fun a' U hW => word_at hW (Or.inl (by first | rfl | simp [Cond.onTables, Cond.keeps, Cond.steady])) hini)
  obtain ⟨hx, hb, hml, ho, -⟩ := S
  obtain ⟨-, ⟨cellB, hcB, hoB, hclB⟩, hPc⟩ := hp
  intro T hT X
  obtain ⟨v, vm₁, ⟨U', l2, c2, s2⟩, hW₁, X', ⟨g', mk, t, L, e1, e2, hq, h1, hL, h2, h3⟩, st⟩ := vx_callVW X hx (C := C) (hh := hh) (bytes := bytes) (maxL := maxL) (ret := ret) ho hl hin hse hcode hy hK (by rw [hT]; exact hcB) hoB hclB hg (hsize.trans hml.symm) (argsL := As) (rest := rest) (fun sig h => hn.trans (hlen sig h)) hstack hW (by rw [hb]; exact hdg)
    (fun vm₁ hW₁ => ⟨hf.1, hf.2, hPc (T.setVm vm₁) hT hW₁⟩)
  dsimp only [Pt.U, Pt.locs, Pt.cells, Pt.slots] at X' e1 e2 h1 h2 h3 st
  subst h1; subst h2; subst h3
  exact ⟨v, (T.setVm vm₁).calling g' mk (Value.ref b :: As).toArray, t, U', L, hT, X', hL, e1, e2, hq, st⟩
section
variable {y : MethodName} {bytes cc : ByteArray} {maxL nL mc ms n index : Nat} {ret : Option FieldType} {ws : List Cond} {rm : Room} {Pc : Array Value → State → Prop} {Qc : Array Value → State → Outcome → State → Prop} {XC : String → State → State → Prop} {free : Addr → Prop} {Ts : List Cond} {own C : String} {b : Addr} {As rest : List Value} {g : JFrame}
theorem vx_runVX {hh : List (Nat × Nat × Nat × Nat)} (S : CallFix p m c cc nL s args Ts own) (hM : vx_Met l y ws rm Pc Qc XC mc ms free) (cw : vx_CVW R s args own C index y bytes maxL ret hh ws rm mc ms n) (hp : PreV s H C b Pc As)
    (hg : g.method = m) (hn : As.length = n) (hsize : g.locals.size = nL) (hstack : g.stack = As.reverse ++ .ref b :: rest) (hW : 2 * g.monitorRoom + (rest.map fun v => v.category).sum ≤ 8) (hdg : decode cc g.pc = .ok (.invokevirtual index, 3)) (hf : cells + mc ≤ R.cells ∧ slots + ms ≤ R.slots) :
    vx_Run p l e R s m args below meth c H locs cells slots mc ms g rest (Qc (Value.ref b :: As).toArray) XC free := by
  obtain ⟨⟨hrc, hrs, hfr, hlo, hws, hcw⟩, hcode, hini, hy, hlen, hl, hin, hse⟩ := cw
  have hK : vx_Back l R p e below s args y 3 8 (PreOf R mc ms Pc) (PostOf Qc mc ms free) (vx_Post XC mc ms free) := vx_backW (hh := hh) (bytes := bytes) (maxL := maxL) (ret := ret) hM hp.1 hrc hrs hfr hlo hws hcw (fun a' U hW => word_at hW (Or.inl (by first | rfl | simp [Cond.onTables, Cond.keeps, Cond.steady])) hini)
  obtain ⟨hx, hb, hml, ho, -⟩ := S
  obtain ⟨-, ⟨cellB, hcB, hoB, hclB⟩, hPc⟩ := hp
  intro T hT X
  rcases vx_callVX X hx (C := C) (hh := hh) (bytes := bytes) (maxL := maxL) (ret := ret) ho hl hin hse hcode hy hK (by rw [hT]; exact hcB) hoB hclB hg (hsize.trans hml.symm) (argsL := As) (rest := rest) (fun sig h => hn.trans (hlen sig h)) hstack hW (by rw [hb]; exact hdg)
    (fun vm₁ hW₁ => ⟨hf.1, hf.2, hPc (T.setVm vm₁) hT hW₁⟩) with ⟨v, vm₁, ⟨U', l2, c2, s2⟩, hW₁, X', ⟨g', mk, t, L, e1, e2, hq, h1, hL, h2, h3⟩, st⟩ | ⟨q, vm₁, ⟨U', l2, c2, s2⟩, hW₁, X', ⟨g', mk, t, L, E, ce, e1, e2, hq, hce, hcv, hcl, h1, hL, h2, h3⟩, st⟩
  · dsimp only [Pt.U, Pt.locs, Pt.cells, Pt.slots] at X' e1 e2 h1 h2 h3 st
    subst h1; subst h2; subst h3
    exact Or.inl ⟨v, (T.setVm vm₁).calling g' mk (Value.ref b :: As).toArray, t, U', L, hT, X', hL, e1, e2, hq, st⟩
  · dsimp only [Pt.U, Pt.locs, Pt.cells, Pt.slots] at X' e1 e2 h1 h2 h3 st hcl
    subst h1; subst h2; subst h3
    exact Or.inr ⟨q, (T.setVm vm₁).calling g' mk (Value.ref b :: As).toArray, t, U', L, E, ce, hT, X', hL, e1, e2, hq, hce, hcv, vx_cls hW₁ hcl, st⟩
theorem vx_runSX {hh : List (Nat × Nat × Nat × Nat)} (S : CallFix p m c cc nL s args Ts own) (hM : vx_Met l y ws rm Pc Qc XC mc ms free) (cw : vx_CSW R s args own index y bytes maxL ret hh ws rm mc ms n) (hp : PreS s H Pc As)
    (hg : g.method = m) (hn : As.length = n) (hsize : g.locals.size = nL) (hstack : g.stack = As.reverse ++ rest) (hW : 2 * g.monitorRoom + (rest.map fun v => v.category).sum ≤ 8) (hdg : decode cc g.pc = .ok (.invokestatic index, 3)) (hf : cells + mc ≤ R.cells ∧ slots + ms ≤ R.slots) :
    vx_Run p l e R s m args below meth c H locs cells slots mc ms g rest (Qc As.toArray) XC free := by
  obtain ⟨⟨hrc, hrs, hfr, hlo, hws, hcw⟩, hcode, hini, hy, hlen, hl, hstt⟩ := cw
  have hK : vx_Back l R p e below s args y 3 8 (PreOf R mc ms Pc) (PostOf Qc mc ms free) (vx_Post XC mc ms free) := vx_backW (hh := hh) (bytes := bytes) (maxL := maxL) (ret := ret) hM hp.1 hrc hrs hfr hlo hws hcw (fun a' U hW => word_at hW (Or.inl (by first | rfl | simp [Cond.onTables, Cond.keeps, Cond.steady])) hini)
  obtain ⟨hx, hb, hml, ho, -⟩ := S
  intro T hT X
  rcases vx_callSX X hx (hh := hh) (bytes := bytes) (maxL := maxL) (ret := ret) ho hl hstt hini hcode hy hK hg (hsize.trans hml.symm) (argsL := As) (rest := rest) (fun sig h => hn.trans (hlen sig h)) hstack hW (by rw [hb]; exact hdg)
    (fun vm₁ hW₁ => ⟨hf.1, hf.2, hp.2 (T.setVm vm₁) hT hW₁⟩) with ⟨v, vm₁, ⟨U', l2, c2, s2⟩, hW₁, X', ⟨g', mk, t, L, e1, e2, hq, h1, hL, h2, h3⟩, st⟩ | ⟨q, vm₁, ⟨U', l2, c2, s2⟩, hW₁, X', ⟨g', mk, t, L, E, ce, e1, e2, hq, hce, hcv, hcl, h1, hL, h2, h3⟩, st⟩
  · dsimp only [Pt.U, Pt.locs, Pt.cells, Pt.slots] at X' e1 e2 h1 h2 h3 st
    subst h1; subst h2; subst h3
    exact Or.inl ⟨v, (T.setVm vm₁).calling g' mk As.toArray, t, U', L, hT, X', hL, e1, e2, hq, st⟩
  · dsimp only [Pt.U, Pt.locs, Pt.cells, Pt.slots] at X' e1 e2 h1 h2 h3 st hcl
    subst h1; subst h2; subst h3
    exact Or.inr ⟨q, (T.setVm vm₁).calling g' mk As.toArray, t, U', L, E, ce, hT, X', hL, e1, e2, hq, hce, hcv, vx_cls hW₁ hcl, st⟩
end
end VXH
theorem vx_ofWH {l : Launch} {y : MethodName} {ws ws' : List Cond} {rm : Room} {Pc : Array Value → State → Prop} {Qc : Array Value → State → Outcome → State → Prop} {XC : String → State → State → Prop} {mc ms : Nat} {free : Addr → Prop} {cc : ByteArray} {maxL : Nat} {ret : Option FieldType} {hh : List (Nat × Nat × Nat × Nat)}
    (hy : plainName y.cls = true) (hw : ws = Cond.codeWith y cc maxL ret hh :: ws')
    (body : ∀ p e s m args below meth c s₁, BodyLoose p l y (headSpec ws rm) cc maxL ret e s m args below meth c s₁ → c.maxLocals = maxL → Pc args s →
      W p l e (headSpec ws rm).room s m args below meth c s.heap [] 0 0 (vx_MQ below Qc XC args s mc ms free) (entryFrame m args maxL)) : vx_Met l y ws rm Pc Qc XC mc ms free := by
  refine MetFree.of_bodyS (code := cc) (maxLocals := maxL) (ret := ret) hy ?_ ?_
  · intro args s m h hn
    obtain ⟨m9, meth, c, hn9, h1, h2, h3, h4, -, h5, h6, -⟩ := Cond.codeWith_spec (atoms_spec (ws := ws) h _ (by rw [hw]; exact List.mem_cons_self))
    cases hn.symm.trans hn9
    exact ⟨meth, c, h1, h2, h3, h4, h5, h6⟩
  · intro p e s m args below meth c s₁ B hml hP _
    have hh0 : s₁.heap = s.heap := by rw [B.state]; rfl
    obtain ⟨t, a1, o, b1, b2, b3⟩ := body p e s m args below meth c s₁ B hml hP s₁ hh0 (Stand.of_body B)
    exact ⟨t, o, a1, b1, b2, b3⟩
/-! ===== END ===== -/
end
section
/-! NAMES, written by wip/whole/tools/gen_names.py out of the claim: tables of fields, kinds, words -/
/-- words of the tables that stay true as tables grow warmer -/
def okW : Cond → Bool
  | .arrayClass _ => true
  | .arrayOver (.object _) => true
  | .fieldLinkNest .. => true
  | .methodLinkNest .. => true
  | .castable .. => true
  | .declares _ => true
  | w => w.onTables && w.keeps
def gw : List Cond := lw_tbl.filter okW
theorem gw_ok : ∀ w ∈ gw, okW w = true := fun _ h => (List.mem_filter.mp h).2
theorem gwm {w : Cond} (h : w ∈ lw_tbl) (h2 : okW w = true) : w ∈ gw := List.mem_filter.mpr ⟨h, h2⟩
theorem lt0 {w : Cond} (i : Nat) (h : (k2_sels lw_privs)[i]? = some w) : w ∈ lw_tbl := List.mem_append_left _ (List.mem_of_getElem? h)
theorem lt1 {w : Cond} (i : Nat) (h : tables_1_1[i]? = some w) : w ∈ lw_tbl := List.mem_append_right _ (List.mem_append_left _ (List.mem_of_getElem? h))
theorem lt2 {w : Cond} (i : Nat) (h : tables_1_2[i]? = some w) : w ∈ lw_tbl := List.mem_append_right _ (List.mem_append_right _ (List.mem_append_left _ (List.mem_of_getElem? h)))
theorem lt3 {w : Cond} (i : Nat) (h : tables_1_3[i]? = some w) : w ∈ lw_tbl := List.mem_append_right _ (List.mem_append_right _ (List.mem_append_right _ (List.mem_append_left _ (List.mem_of_getElem? h))))
theorem lt4 {w : Cond} (i : Nat) (h : tables_1_4[i]? = some w) : w ∈ lw_tbl := List.mem_append_right _ (List.mem_append_right _ (List.mem_append_right _ (List.mem_append_right _ (List.mem_of_getElem? h))))
def T_K : u_T := fun k => match k with
  | 0 => ("ScopeKeeper", "scripts", "[LScopeKeeper$Script;", true)
  | 1 => ("ScopeKeeper", "networkUp", "Z", false)
  | 2 => ("ScopeKeeper", "net", "I", false)
  | 3 => ("ScopeKeeper", "workers", "[LScopeKeeper$Worker;", true)
  | 4 => ("ScopeKeeper", "workerCount", "I", false)
  | 5 => ("ScopeKeeper", "registrations", "[LScopeKeeper$Registration;", true)
  | 6 => ("ScopeKeeper", "registrationCount", "I", false)
  | 7 => ("ScopeKeeper", "clients", "[LScopeKeeper$Client;", true)
  | 8 => ("ScopeKeeper", "claimedFrom", "[LScopeKeeper$Worker;", true)
  | 9 => ("ScopeKeeper", "jobs", "[LScopeKeeper$Job;", true)
  | 10 => ("ScopeKeeper", "jobCount", "I", false)
  | _ => ("ScopeKeeper", "happened", "LScopeKeeper$Trace;", true)
def ty_K : Nat → FieldType := fun k => match k with
  | 0 => .array (.object "ScopeKeeper$Script")
  | 1 => .boolean
  | 2 => .int
  | 3 => .array (.object "ScopeKeeper$Worker")
  | 4 => .int
  | 5 => .array (.object "ScopeKeeper$Registration")
  | 6 => .int
  | 7 => .array (.object "ScopeKeeper$Client")
  | 8 => .array (.object "ScopeKeeper$Worker")
  | 9 => .array (.object "ScopeKeeper$Job")
  | 10 => .int
  | _ => .object "ScopeKeeper$Trace"
theorem nm_K : ∀ a, a < 12 → ∀ b, b < 12 → a ≠ b → (T_K a).2.1 ≠ (T_K b).2.1 := by decide +kernel
theorem tyk_K : ∀ k, k < 12 → parseFieldDescriptor (T_K k).2.2.1 = some (ty_K k) := by decide +kernel
def T_Sc : u_T := fun k => match k with
  | 0 => ("ScopeKeeper$Script", "content", "I", false)
  | 1 => ("ScopeKeeper$Script", "broad", "I", false)
  | 2 => ("ScopeKeeper$Script", "flaw", "I", false)
  | _ => ("ScopeKeeper$Script", "mode", "I", false)
def ty_Sc : Nat → FieldType := fun k => match k with
  | 0 => .int
  | 1 => .int
  | 2 => .int
  | _ => .int
theorem nm_Sc : ∀ a, a < 4 → ∀ b, b < 4 → a ≠ b → (T_Sc a).2.1 ≠ (T_Sc b).2.1 := by decide +kernel
theorem tyk_Sc : ∀ k, k < 4 → parseFieldDescriptor (T_Sc k).2.2.1 = some (ty_Sc k) := by decide +kernel
def T_Cl : u_T := fun k => match k with
  | 0 => ("ScopeKeeper$Client", "there", "Z", false)
  | 1 => ("ScopeKeeper$Client", "path", "I", false)
  | _ => ("ScopeKeeper$Client", "controller", "LScopeKeeper$Worker;", false)
def ty_Cl : Nat → FieldType := fun k => match k with
  | 0 => .boolean
  | 1 => .int
  | _ => .object "ScopeKeeper$Worker"
theorem nm_Cl : ∀ a, a < 3 → ∀ b, b < 3 → a ≠ b → (T_Cl a).2.1 ≠ (T_Cl b).2.1 := by decide +kernel
theorem tyk_Cl : ∀ k, k < 3 → parseFieldDescriptor (T_Cl k).2.2.1 = some (ty_Cl k) := by decide +kernel
def T_Tr : u_T := fun k => match k with
  | 0 => ("ScopeKeeper$Trace", "numbers", "[I", true)
  | _ => ("ScopeKeeper$Trace", "size", "I", false)
def ty_Tr : Nat → FieldType := fun k => match k with
  | 0 => .array .int
  | _ => .int
theorem nm_Tr : ∀ a, a < 2 → ∀ b, b < 2 → a ≠ b → (T_Tr a).2.1 ≠ (T_Tr b).2.1 := by decide +kernel
theorem tyk_Tr : ∀ k, k < 2 → parseFieldDescriptor (T_Tr k).2.2.1 = some (ty_Tr k) := by decide +kernel
def T_Jb : u_T := fun k => match k with
  | 0 => ("ScopeKeeper$Job", "number", "I", true)
  | 1 => ("ScopeKeeper$Job", "kind", "I", true)
  | 2 => ("ScopeKeeper$Job", "scope", "I", true)
  | 3 => ("ScopeKeeper$Job", "script", "I", true)
  | 4 => ("ScopeKeeper$Job", "begun", "Z", false)
  | _ => ("ScopeKeeper$Job", "outcome", "I", false)
def ty_Jb : Nat → FieldType := fun k => match k with
  | 0 => .int
  | 1 => .int
  | 2 => .int
  | 3 => .int
  | 4 => .boolean
  | _ => .int
theorem nm_Jb : ∀ a, a < 6 → ∀ b, b < 6 → a ≠ b → (T_Jb a).2.1 ≠ (T_Jb b).2.1 := by decide +kernel
theorem tyk_Jb : ∀ k, k < 6 → parseFieldDescriptor (T_Jb k).2.2.1 = some (ty_Jb k) := by decide +kernel
def T_Rg : u_T := fun k => match k with
  | 0 => ("ScopeKeeper$Registration", "scope", "I", true)
  | 1 => ("ScopeKeeper$Registration", "script", "I", false)
  | 2 => ("ScopeKeeper$Registration", "installing", "LScopeKeeper$Worker;", false)
  | 3 => ("ScopeKeeper$Registration", "waiting", "LScopeKeeper$Worker;", false)
  | 4 => ("ScopeKeeper$Registration", "active", "LScopeKeeper$Worker;", false)
  | _ => ("ScopeKeeper$Registration", "leaving", "Z", false)
def ty_Rg : Nat → FieldType := fun k => match k with
  | 0 => .int
  | 1 => .int
  | 2 => .object "ScopeKeeper$Worker"
  | 3 => .object "ScopeKeeper$Worker"
  | 4 => .object "ScopeKeeper$Worker"
  | _ => .boolean
theorem nm_Rg : ∀ a, a < 6 → ∀ b, b < 6 → a ≠ b → (T_Rg a).2.1 ≠ (T_Rg b).2.1 := by decide +kernel
theorem tyk_Rg : ∀ k, k < 6 → parseFieldDescriptor (T_Rg k).2.2.1 = some (ty_Rg k) := by decide +kernel
def T_Ca : u_T := fun k => match k with
  | 0 => ("ScopeKeeper$Cache", "paths", "[I", true)
  | 1 => ("ScopeKeeper$Cache", "values", "[I", true)
  | _ => ("ScopeKeeper$Cache", "size", "I", false)
def ty_Ca : Nat → FieldType := fun k => match k with
  | 0 => .array .int
  | 1 => .array .int
  | _ => .int
theorem nm_Ca : ∀ a, a < 3 → ∀ b, b < 3 → a ≠ b → (T_Ca a).2.1 ≠ (T_Ca b).2.1 := by decide +kernel
theorem tyk_Ca : ∀ k, k < 3 → parseFieldDescriptor (T_Ca k).2.2.1 = some (ty_Ca k) := by decide +kernel
def T_Wk : u_T := fun k => match k with
  | 0 => ("ScopeKeeper$Worker", "number", "I", true)
  | 1 => ("ScopeKeeper$Worker", "content", "I", true)
  | 2 => ("ScopeKeeper$Worker", "flaw", "I", true)
  | 3 => ("ScopeKeeper$Worker", "mode", "I", true)
  | 4 => ("ScopeKeeper$Worker", "cache", "LScopeKeeper$Cache;", true)
  | 5 => ("ScopeKeeper$Worker", "state", "I", false)
  | _ => ("ScopeKeeper$Worker", "skips", "Z", false)
def ty_Wk : Nat → FieldType := fun k => match k with
  | 0 => .int
  | 1 => .int
  | 2 => .int
  | 3 => .int
  | 4 => .object "ScopeKeeper$Cache"
  | 5 => .int
  | _ => .boolean
theorem nm_Wk : ∀ a, a < 7 → ∀ b, b < 7 → a ≠ b → (T_Wk a).2.1 ≠ (T_Wk b).2.1 := by decide +kernel
theorem tyk_Wk : ∀ k, k < 7 → parseFieldDescriptor (T_Wk k).2.2.1 = some (ty_Wk k) := by decide +kernel
abbrev classes : List vw_C := [("ScopeKeeper", T_K, 12), ("ScopeKeeper$Script", T_Sc, 4), ("ScopeKeeper$Client", T_Cl, 3), ("ScopeKeeper$Trace", T_Tr, 2), ("ScopeKeeper$Job", T_Jb, 6), ("ScopeKeeper$Registration", T_Rg, 6), ("ScopeKeeper$Cache", T_Ca, 3), ("ScopeKeeper$Worker", T_Wk, 7)]
/-- kinds: 0 ScopeKeeper, 1 Script, 2 Client, 3 Trace, 4 Job, 5 Registration, 6 Cache, 7 Worker; arrays: 8 scripts, 9 workers, 10 registrations, 11 clients, 12 claimedFrom, 13 jobs, 14 numbers, 15 paths, 16 values, 17 out -/
def sh : Nat → Nat ⊕ (Nat × Nat) := fun k => match k with
  | 0 => .inl 0
  | 1 => .inl 1
  | 2 => .inl 2
  | 3 => .inl 3
  | 4 => .inl 4
  | 5 => .inl 5
  | 6 => .inl 6
  | 7 => .inl 7
  | 8 => .inr (1, 4)
  | 9 => .inr (2, 40)
  | 10 => .inr (3, 5)
  | 11 => .inr (4, 8)
  | 12 => .inr (2, 8)
  | 13 => .inr (5, 60)
  | 14 => .inr (0, 60)
  | 15 => .inr (0, 4)
  | 16 => .inr (0, 4)
  | _ => .inr (6, 1)
/-- what a slot holds: 0 an int, 1 a long, t + 2 a reference to kind t -/
def ft : Nat → Nat → Nat := fun k j => match k with
  | 0 => (match j with | 0 => 10 | 1 => 0 | 2 => 0 | 3 => 11 | 4 => 0 | 5 => 12 | 6 => 0 | 7 => 13 | 8 => 14 | 9 => 15 | 10 => 0 | _ => 5)
  | 1 => 0
  | 2 => (match j with | 0 => 0 | 1 => 0 | _ => 9)
  | 3 => (match j with | 0 => 16 | _ => 0)
  | 4 => 0
  | 5 => (match j with | 0 => 0 | 1 => 0 | 2 => 9 | 3 => 9 | 4 => 9 | _ => 0)
  | 6 => (match j with | 0 => 17 | 1 => 18 | _ => 0)
  | 7 => (match j with | 0 => 0 | 1 => 0 | 2 => 0 | 3 => 0 | 4 => 8 | 5 => 0 | _ => 0)
  | 8 => 3
  | 9 => 9
  | 10 => 7
  | 11 => 4
  | 12 => 9
  | 13 => 6
  | 14 => 0
  | 15 => 0
  | 16 => 0
  | _ => 1
def atl (dA : Nat → ClassId) : List (ClassId × FieldType) := [(dA 0, .int), (dA 1, .object "ScopeKeeper$Script"), (dA 2, .object "ScopeKeeper$Worker"), (dA 3, .object "ScopeKeeper$Registration"), (dA 4, .object "ScopeKeeper$Client"), (dA 5, .object "ScopeKeeper$Job"), (dA 6, .long)]
/-- the texts that are thrown: class, pool entry, text -/
def txs : List (String × Nat × String) := [("ScopeKeeper", 77, "no such script, or broad is no path"), ("ScopeKeeper", 82, "no such flaw or mode"), ("ScopeKeeper", 96, "no such kind"), ("ScopeKeeper", 282, "no path"), ("ScopeKeeper", 102, "no such script"), ("ScopeKeeper", 126, "no room for another job"), ("ScopeKeeper", 137, "no job in the row"), ("ScopeKeeper", 157, "no room for another client"), ("ScopeKeeper", 284, "no such client"), ("ScopeKeeper", 289, "no such registration"), ("ScopeKeeper", 190, "no active worker"), ("ScopeKeeper", 202, "no worker waits or installs"), ("ScopeKeeper", 293, "the network is down"), ("ScopeKeeper", 233, "no such what"), ("ScopeKeeper", 245, "no such worker"), ("ScopeKeeper", 263, "no such job"), ("ScopeKeeper", 266, "the trace has no such number")]
abbrev b_K_init : ByteArray := prog_1_method_1_code
def y_K_init : MethodName := ⟨"ScopeKeeper", "<init>", "()V"⟩
abbrev b_K_serve : ByteArray := prog_1_method_2_code
def y_K_serve : MethodName := ⟨"ScopeKeeper", "serve", "(IIIII)V"⟩
abbrev b_K_network : ByteArray := prog_1_method_3_code
def y_K_network : MethodName := ⟨"ScopeKeeper", "network", "(ZI)Z"⟩
abbrev b_K_job : ByteArray := prog_1_method_4_code
def y_K_job : MethodName := ⟨"ScopeKeeper", "job", "(III)I"⟩
abbrev b_K_step : ByteArray := prog_1_method_5_code
def y_K_step : MethodName := ⟨"ScopeKeeper", "step", "(I)I"⟩
abbrev b_K_open : ByteArray := prog_1_method_6_code
def y_K_open : MethodName := ⟨"ScopeKeeper", "open", "(I)I"⟩
abbrev b_K_close : ByteArray := prog_1_method_7_code
def y_K_close : MethodName := ⟨"ScopeKeeper", "close", "(I)I"⟩
abbrev b_K_claim : ByteArray := prog_1_method_8_code
def y_K_claim : MethodName := ⟨"ScopeKeeper", "claim", "(I)I"⟩
abbrev b_K_skip : ByteArray := prog_1_method_9_code
def y_K_skip : MethodName := ⟨"ScopeKeeper", "skip", "(I)I"⟩
abbrev b_K_fetch : ByteArray := prog_1_method_10_code
def y_K_fetch : MethodName := ⟨"ScopeKeeper", "fetch", "(II)I"⟩
abbrev b_K_registration : ByteArray := prog_1_method_11_code
def y_K_registration : MethodName := ⟨"ScopeKeeper", "registration", "(II)I"⟩
abbrev b_K_worker : ByteArray := prog_1_method_12_code
def y_K_worker : MethodName := ⟨"ScopeKeeper", "worker", "(II)I"⟩
abbrev b_K_outcome : ByteArray := prog_1_method_13_code
def y_K_outcome : MethodName := ⟨"ScopeKeeper", "outcome", "(I)I"⟩
abbrev b_K_trace : ByteArray := prog_1_method_14_code
def y_K_trace : MethodName := ⟨"ScopeKeeper", "trace", "(I)I"⟩
abbrev b_K_count : ByteArray := prog_1_method_15_code
def y_K_count : MethodName := ⟨"ScopeKeeper", "count", "(I)I"⟩
abbrev b_K_isWithin : ByteArray := prog_1_method_16_code
def y_K_isWithin : MethodName := ⟨"ScopeKeeper", "isWithin", "(III)Z"⟩
abbrev b_K_isScript : ByteArray := prog_1_method_17_code
def y_K_isScript : MethodName := ⟨"ScopeKeeper", "isScript", "(I)Z"⟩
abbrev b_K_isPath : ByteArray := prog_1_method_18_code
def y_K_isPath : MethodName := ⟨"ScopeKeeper", "isPath", "(I)Z"⟩
abbrev b_K_begins : ByteArray := prog_1_method_19_code
def y_K_begins : MethodName := ⟨"ScopeKeeper", "begins", "(II)Z"⟩
abbrev b_K_refuseNoPath : ByteArray := prog_1_method_20_code
def y_K_refuseNoPath : MethodName := ⟨"ScopeKeeper", "refuseNoPath", "(I)V"⟩
abbrev b_K_refuseNoClient : ByteArray := prog_1_method_21_code
def y_K_refuseNoClient : MethodName := ⟨"ScopeKeeper", "refuseNoClient", "(I)V"⟩
abbrev b_K_needRegistration : ByteArray := prog_1_method_22_code
def y_K_needRegistration : MethodName := ⟨"ScopeKeeper", "needRegistration", "(I)LScopeKeeper$Registration;"⟩
abbrev b_K_networkAnswer : ByteArray := prog_1_method_23_code
def y_K_networkAnswer : MethodName := ⟨"ScopeKeeper", "networkAnswer", "(I)I"⟩
abbrev b_K_isInRow : ByteArray := prog_1_method_24_code
def y_K_isInRow : MethodName := ⟨"ScopeKeeper", "isInRow", "(LScopeKeeper$Job;I)Z"⟩
abbrev b_K_firstOfRow : ByteArray := prog_1_method_25_code
def y_K_firstOfRow : MethodName := ⟨"ScopeKeeper", "firstOfRow", "(I)LScopeKeeper$Job;"⟩
abbrev b_K_lastOfRow : ByteArray := prog_1_method_26_code
def y_K_lastOfRow : MethodName := ⟨"ScopeKeeper", "lastOfRow", "(I)LScopeKeeper$Job;"⟩
abbrev b_K_rowLength : ByteArray := prog_1_method_27_code
def y_K_rowLength : MethodName := ⟨"ScopeKeeper", "rowLength", "(I)I"⟩
abbrev b_K_jobsNotEnded : ByteArray := prog_1_method_28_code
def y_K_jobsNotEnded : MethodName := ⟨"ScopeKeeper", "jobsNotEnded", "()I"⟩
abbrev b_K_beginJob : ByteArray := prog_1_method_29_code
def y_K_beginJob : MethodName := ⟨"ScopeKeeper", "beginJob", "(LScopeKeeper$Job;)I"⟩
abbrev b_K_beginRegister : ByteArray := prog_1_method_30_code
def y_K_beginRegister : MethodName := ⟨"ScopeKeeper", "beginRegister", "(LScopeKeeper$Job;)I"⟩
abbrev b_K_beginUpdate : ByteArray := prog_1_method_31_code
def y_K_beginUpdate : MethodName := ⟨"ScopeKeeper", "beginUpdate", "(I)I"⟩
abbrev b_K_unregister : ByteArray := prog_1_method_32_code
def y_K_unregister : MethodName := ⟨"ScopeKeeper", "unregister", "(I)I"⟩
abbrev b_K_isUpToDate : ByteArray := prog_1_method_33_code
def y_K_isUpToDate : MethodName := ⟨"ScopeKeeper", "isUpToDate", "(LScopeKeeper$Registration;)Z"⟩
abbrev b_K_beginInstall : ByteArray := prog_1_method_34_code
def y_K_beginInstall : MethodName := ⟨"ScopeKeeper", "beginInstall", "(LScopeKeeper$Registration;)V"⟩
abbrev b_K_finishInstall : ByteArray := prog_1_method_35_code
def y_K_finishInstall : MethodName := ⟨"ScopeKeeper", "finishInstall", "(I)I"⟩
abbrev b_K_tryActivation : ByteArray := prog_1_method_36_code
def y_K_tryActivation : MethodName := ⟨"ScopeKeeper", "tryActivation", "(LScopeKeeper$Registration;)V"⟩
abbrev b_K_tryClearing : ByteArray := prog_1_method_37_code
def y_K_tryClearing : MethodName := ⟨"ScopeKeeper", "tryClearing", "(LScopeKeeper$Registration;)Z"⟩
abbrev b_K_settleAfterLoss : ByteArray := prog_1_method_38_code
def y_K_settleAfterLoss : MethodName := ⟨"ScopeKeeper", "settleAfterLoss", "(LScopeKeeper$Worker;)V"⟩
abbrev b_K_numberOf : ByteArray := prog_1_method_39_code
def y_K_numberOf : MethodName := ⟨"ScopeKeeper", "numberOf", "(LScopeKeeper$Worker;)I"⟩
abbrev b_K_bring : ByteArray := prog_1_method_40_code
def y_K_bring : MethodName := ⟨"ScopeKeeper", "bring", "(LScopeKeeper$Worker;I)V"⟩
abbrev b_K_control : ByteArray := prog_1_method_41_code
def y_K_control : MethodName := ⟨"ScopeKeeper", "control", "(ILScopeKeeper$Worker;)V"⟩
abbrev b_K_controlledBy : ByteArray := prog_1_method_42_code
def y_K_controlledBy : MethodName := ⟨"ScopeKeeper", "controlledBy", "(LScopeKeeper$Worker;)I"⟩
abbrev b_K_clientsThere : ByteArray := prog_1_method_43_code
def y_K_clientsThere : MethodName := ⟨"ScopeKeeper", "clientsThere", "()I"⟩
abbrev b_K_leastFreeClient : ByteArray := prog_1_method_44_code
def y_K_leastFreeClient : MethodName := ⟨"ScopeKeeper", "leastFreeClient", "()I"⟩
abbrev b_K_registrationOf : ByteArray := prog_1_method_45_code
def y_K_registrationOf : MethodName := ⟨"ScopeKeeper", "registrationOf", "(I)LScopeKeeper$Registration;"⟩
abbrev b_K_registrationFor : ByteArray := prog_1_method_46_code
def y_K_registrationFor : MethodName := ⟨"ScopeKeeper", "registrationFor", "(I)LScopeKeeper$Registration;"⟩
abbrev b_K_registrationWithActive : ByteArray := prog_1_method_47_code
def y_K_registrationWithActive : MethodName := ⟨"ScopeKeeper", "registrationWithActive", "(LScopeKeeper$Worker;)LScopeKeeper$Registration;"⟩
abbrev b_K_addRegistration : ByteArray := prog_1_method_48_code
def y_K_addRegistration : MethodName := ⟨"ScopeKeeper", "addRegistration", "(I)LScopeKeeper$Registration;"⟩
abbrev b_K_removeRegistration : ByteArray := prog_1_method_49_code
def y_K_removeRegistration : MethodName := ⟨"ScopeKeeper", "removeRegistration", "(LScopeKeeper$Registration;)V"⟩
abbrev b_Ca_init : ByteArray := prog_2_method_1_code
def y_Ca_init : MethodName := ⟨"ScopeKeeper$Cache", "<init>", "()V"⟩
abbrev b_Ca_placeOf : ByteArray := prog_2_method_2_code
def y_Ca_placeOf : MethodName := ⟨"ScopeKeeper$Cache", "placeOf", "(I)I"⟩
abbrev b_Ca_has : ByteArray := prog_2_method_3_code
def y_Ca_has : MethodName := ⟨"ScopeKeeper$Cache", "has", "(I)Z"⟩
abbrev b_Ca_valueOf : ByteArray := prog_2_method_4_code
def y_Ca_valueOf : MethodName := ⟨"ScopeKeeper$Cache", "valueOf", "(I)I"⟩
abbrev b_Ca_pathAt : ByteArray := prog_2_method_5_code
def y_Ca_pathAt : MethodName := ⟨"ScopeKeeper$Cache", "pathAt", "(I)I"⟩
abbrev b_Ca_valueAt : ByteArray := prog_2_method_6_code
def y_Ca_valueAt : MethodName := ⟨"ScopeKeeper$Cache", "valueAt", "(I)I"⟩
abbrev b_Ca_keep : ByteArray := prog_2_method_7_code
def y_Ca_keep : MethodName := ⟨"ScopeKeeper$Cache", "keep", "(II)V"⟩
abbrev b_Ca_drop : ByteArray := prog_2_method_8_code
def y_Ca_drop : MethodName := ⟨"ScopeKeeper$Cache", "drop", "(I)V"⟩
abbrev b_Cl_init : ByteArray := prog_3_method_1_code
def y_Cl_init : MethodName := ⟨"ScopeKeeper$Client", "<init>", "()V"⟩
abbrev b_Jb_init : ByteArray := prog_4_method_1_code
def y_Jb_init : MethodName := ⟨"ScopeKeeper$Job", "<init>", "(IIII)V"⟩
abbrev b_Rg_init : ByteArray := prog_5_method_1_code
def y_Rg_init : MethodName := ⟨"ScopeKeeper$Registration", "<init>", "(I)V"⟩
abbrev b_Rg_newest : ByteArray := prog_5_method_2_code
def y_Rg_newest : MethodName := ⟨"ScopeKeeper$Registration", "newest", "()LScopeKeeper$Worker;"⟩
abbrev b_Sc_init : ByteArray := prog_6_method_1_code
def y_Sc_init : MethodName := ⟨"ScopeKeeper$Script", "<init>", "()V"⟩
abbrev b_Tr_init : ByteArray := prog_7_method_1_code
def y_Tr_init : MethodName := ⟨"ScopeKeeper$Trace", "<init>", "()V"⟩
abbrev b_Tr_workerComesTo : ByteArray := prog_7_method_2_code
def y_Tr_workerComesTo : MethodName := ⟨"ScopeKeeper$Trace", "workerComesTo", "(II)V"⟩
abbrev b_Tr_clientIsControlled : ByteArray := prog_7_method_3_code
def y_Tr_clientIsControlled : MethodName := ⟨"ScopeKeeper$Trace", "clientIsControlled", "(II)V"⟩
abbrev b_Tr_jobEnds : ByteArray := prog_7_method_4_code
def y_Tr_jobEnds : MethodName := ⟨"ScopeKeeper$Trace", "jobEnds", "(I)V"⟩
abbrev b_Tr_append : ByteArray := prog_7_method_5_code
def y_Tr_append : MethodName := ⟨"ScopeKeeper$Trace", "append", "(I)V"⟩
abbrev b_Wk_init : ByteArray := prog_8_method_1_code
def y_Wk_init : MethodName := ⟨"ScopeKeeper$Worker", "<init>", "(ILScopeKeeper$Script;)V"⟩
abbrev b_Lw_serve : ByteArray := method_3_code
def y_Lw_serve : MethodName := ⟨"ScopeKeeperLaw", "serve", "(LScopeKeeper;IIIII)I"⟩
abbrev b_Lw_job : ByteArray := method_4_code
def y_Lw_job : MethodName := ⟨"ScopeKeeperLaw", "job", "(LScopeKeeper;III[J)I"⟩
abbrev b_Lw_step : ByteArray := method_5_code
def y_Lw_step : MethodName := ⟨"ScopeKeeperLaw", "step", "(LScopeKeeper;I[J)I"⟩
abbrev b_Lw_open : ByteArray := method_6_code
def y_Lw_open : MethodName := ⟨"ScopeKeeperLaw", "open", "(LScopeKeeper;I[J)I"⟩
abbrev b_Lw_close : ByteArray := method_7_code
def y_Lw_close : MethodName := ⟨"ScopeKeeperLaw", "close", "(LScopeKeeper;I[J)I"⟩
abbrev b_Lw_claim : ByteArray := method_8_code
def y_Lw_claim : MethodName := ⟨"ScopeKeeperLaw", "claim", "(LScopeKeeper;I[J)I"⟩
abbrev b_Lw_skip : ByteArray := method_9_code
def y_Lw_skip : MethodName := ⟨"ScopeKeeperLaw", "skip", "(LScopeKeeper;I[J)I"⟩
abbrev b_Lw_fetch : ByteArray := method_10_code
def y_Lw_fetch : MethodName := ⟨"ScopeKeeperLaw", "fetch", "(LScopeKeeper;II[J)I"⟩
abbrev b_Lw_registration : ByteArray := method_11_code
def y_Lw_registration : MethodName := ⟨"ScopeKeeperLaw", "registration", "(LScopeKeeper;II[J)I"⟩
abbrev b_Lw_worker : ByteArray := method_12_code
def y_Lw_worker : MethodName := ⟨"ScopeKeeperLaw", "worker", "(LScopeKeeper;II[J)I"⟩
abbrev b_Lw_outcome : ByteArray := method_13_code
def y_Lw_outcome : MethodName := ⟨"ScopeKeeperLaw", "outcome", "(LScopeKeeper;I[J)I"⟩
abbrev b_Lw_trace : ByteArray := method_14_code
def y_Lw_trace : MethodName := ⟨"ScopeKeeperLaw", "trace", "(LScopeKeeper;I[J)I"⟩
abbrev b_Lw_count : ByteArray := method_15_code
def y_Lw_count : MethodName := ⟨"ScopeKeeperLaw", "count", "(LScopeKeeper;I[J)I"⟩
abbrev b_Lw_law : ByteArray := code
def y_Lw_law : MethodName := ⟨"ScopeKeeperLaw", "law", "([I)Z"⟩
end
section
/-! THE MEMORY BY NAMES: an object or array is named by its kind and its number of that kind; what a slot holds is a number of 32 or 64 bits, or the number of an object of the kind that the slot's type says (ft). sh: what a kind is: an object of a class (its place in 'classes'), or an array (its type's place in 'atl', its length). -/
abbrev mM : Type := (Nat → Nat → Nat → Int32) × (Nat → Nat → Nat → Option Nat) × (Nat → Nat → Nat → Int64) × (Nat → Nat)
def gi (M : mM) (k i j : Nat) : Int32 := M.1 k i j
def gr (M : mM) (k i j : Nat) : Option Nat := M.2.1 k i j
def gl (M : mM) (k i j : Nat) : Int64 := M.2.2.1 k i j
def gn (M : mM) (k : Nat) : Nat := M.2.2.2 k
def si (M : mM) (k i j : Nat) (x : Int32) : mM := (fun a b c => if a = k ∧ b = i ∧ c = j then x else M.1 a b c, M.2)
def sr (M : mM) (k i j : Nat) (x : Option Nat) : mM := (M.1, fun a b c => if a = k ∧ b = i ∧ c = j then x else M.2.1 a b c, M.2.2)
def sl (M : mM) (k i j : Nat) (x : Int64) : mM := (M.1, M.2.1, fun a b c => if a = k ∧ b = i ∧ c = j then x else M.2.2.1 a b c, M.2.2.2)
/-- a new object of kind k: the next number, all its slots 0 or null -/
def sn (M : mM) (k : Nat) : mM := (fun a b c => if a = k ∧ b = M.2.2.2 k then 0 else M.1 a b c, fun a b c => if a = k ∧ b = M.2.2.2 k then none else M.2.1 a b c, fun a b c => if a = k ∧ b = M.2.2.2 k then 0 else M.2.2.1 a b c, fun a => if a = k then M.2.2.2 k + 1 else M.2.2.2 a)
theorem gi_si (M : mM) (k i j a b c : Nat) (x : Int32) : gi (si M k i j x) a b c = if a = k ∧ b = i ∧ c = j then x else gi M a b c := rfl
theorem gi_sr (M : mM) (k i j a b c : Nat) (x : Option Nat) : gi (sr M k i j x) a b c = gi M a b c := rfl
theorem gi_sl (M : mM) (k i j a b c : Nat) (x : Int64) : gi (sl M k i j x) a b c = gi M a b c := rfl
theorem gr_si (M : mM) (k i j a b c : Nat) (x : Int32) : gr (si M k i j x) a b c = gr M a b c := rfl
theorem gr_sr (M : mM) (k i j a b c : Nat) (x : Option Nat) : gr (sr M k i j x) a b c = if a = k ∧ b = i ∧ c = j then x else gr M a b c := rfl
theorem gr_sl (M : mM) (k i j a b c : Nat) (x : Int64) : gr (sl M k i j x) a b c = gr M a b c := rfl
theorem gl_si (M : mM) (k i j a b c : Nat) (x : Int32) : gl (si M k i j x) a b c = gl M a b c := rfl
theorem gl_sr (M : mM) (k i j a b c : Nat) (x : Option Nat) : gl (sr M k i j x) a b c = gl M a b c := rfl
theorem gl_sl (M : mM) (k i j a b c : Nat) (x : Int64) : gl (sl M k i j x) a b c = if a = k ∧ b = i ∧ c = j then x else gl M a b c := rfl
theorem gn_si (M : mM) (k i j a : Nat) (x : Int32) : gn (si M k i j x) a = gn M a := rfl
theorem gn_sr (M : mM) (k i j a : Nat) (x : Option Nat) : gn (sr M k i j x) a = gn M a := rfl
theorem gn_sl (M : mM) (k i j a : Nat) (x : Int64) : gn (sl M k i j x) a = gn M a := rfl
theorem gi_sn (M : mM) (k a b c : Nat) : gi (sn M k) a b c = if a = k ∧ b = gn M k then 0 else gi M a b c := rfl
theorem gr_sn (M : mM) (k a b c : Nat) : gr (sn M k) a b c = if a = k ∧ b = gn M k then none else gr M a b c := rfl
theorem gl_sn (M : mM) (k a b c : Nat) : gl (sn M k) a b c = if a = k ∧ b = gn M k then 0 else gl M a b c := rfl
theorem gn_sn (M : mM) (k a : Nat) : gn (sn M k) a = if a = k then gn M k + 1 else gn M a := rfl
def rfv (ad : Nat → Nat → Nat) (k : Nat) (r : Option Nat) : Value := match r with
  | none => .null
  | some t => .ref (ad k t)
theorem rfv_isRef (ad : Nat → Nat → Nat) (k : Nat) (r : Option Nat) : (rfv ad k r).isRef = true := by cases r <;> rfl
theorem rfv_cat (ad : Nat → Nat → Nat) (k : Nat) (r : Option Nat) : (rfv ad k r).category = 1 := by cases r <;> rfl
def mv (M : mM) (ad : Nat → Nat → Nat) (k i j : Nat) : Value := match ft k j with
  | 0 => .int (gi M k i j)
  | 1 => .long (gl M k i j)
  | t + 2 => rfv ad t (gr M k i j)
theorem mv_i {M : mM} {ad : Nat → Nat → Nat} {k i j : Nat} (h : ft k j = 0) : mv M ad k i j = .int (gi M k i j) := by
  unfold mv; rw [h]
theorem mv_l {M : mM} {ad : Nat → Nat → Nat} {k i j : Nat} (h : ft k j = 1) : mv M ad k i j = .long (gl M k i j) := by
  unfold mv; rw [h]
theorem mv_r {M : mM} {ad : Nat → Nat → Nat} {k i j t : Nat} (h : ft k j = t + 2) : mv M ad k i j = rfv ad t (gr M k i j) := by
  unfold mv; rw [h]
def mcell (D : va_G) (dA : Nat → ClassId) (k a : Nat) (V : Nat → Value) (H : Heap) : Prop := match sh k with
  | .inl ci => ∃ r : vw_C, classes[ci]? = some r ∧ t_OB a (D.1 ci) r.2.2 (D.2 ci) H V
  | .inr q => H[a]? = some (arrV (dA q.1) q.2 V)
theorem mcell.kept {D : va_G} {dA : Nat → ClassId} {k a : Nat} {V : Nat → Value} {H H1 : Heap} (h : mcell D dA k a V H) (hq : H1[a]? = H[a]?) : mcell D dA k a V H1 := by
  unfold mcell at h ⊢
  cases hs : sh k with
  | inl ci =>
    rw [hs] at h
    obtain ⟨r, h1, h2⟩ := h
    exact ⟨r, h1, h2.kept hq⟩
  | inr q =>
    rw [hs] at h
    exact hq.trans h
theorem mcell.lt {D : va_G} {dA : Nat → ClassId} {k a : Nat} {V : Nat → Value} {H : Heap} (h : mcell D dA k a V H) : a < H.size := by
  unfold mcell at h
  cases hs : sh k with
  | inl ci =>
    rw [hs] at h
    obtain ⟨r, h1, cell, h2, h3⟩ := h
    exact (Array.getElem?_eq_some_iff.mp h2).1
  | inr q =>
    rw [hs] at h
    exact (Array.getElem?_eq_some_iff.mp h).1
/-- the heap holds the memory: live names have cells apart, from 'base' on; what a reference names is live -/
def mRep (D : va_G) (dA : Nat → ClassId) (base : Nat) (M : mM) (ad : Nat → Nat → Nat) (H : Heap) : Prop :=
  (∀ k i, i < gn M k → base ≤ ad k i ∧ mcell D dA k (ad k i) (mv M ad k i) H) ∧
  (∀ k i k' i', i < gn M k → i' < gn M k' → ad k i = ad k' i' → k = k' ∧ i = i') ∧
  (∀ k i j t q, i < gn M k → ft k j = t + 2 → gr M k i j = some q → q < gn M t)
/-- since H0 nothing below 'base' has changed -/
def mSt (D : va_G) (dA : Nat → ClassId) (base : Nat) (M : mM) (ad : Nat → Nat → Nat) (H0 H : Heap) (locs : List Loc) : Prop := mRep D dA base M ad H ∧ va_S (fun q => base ≤ q) H0 H locs ∧ base ≤ H0.size
def mK (D : va_G) (dA : Nat → ClassId) (U : State) : Prop := va_K D classes (atl dA) U
/-- what a throw needs of the heap below 'base', and the texts of the class that are there -/
def mZ (base : Nat) (U : State) : Prop := vx_Zq Bundle.tN "UNASSIGNED_STACK" Bundle.steD (fun q => base ≤ q) U U.heap ∧ vx_Zq Bundle.tN "SUPPRESSED_SENTINEL" Bundle.listD (fun q => base ≤ q) U U.heap ∧ ∀ x ∈ txs, ∃ sa : Nat, vk_R x.1 x.2.1 x.2.2 sa U
def mCx (D : va_G) (dA : Nat → ClassId) (base : Nat) (p : Program) (s : State) (m : MethodId) (args : Array Value) (c : Code) (cc : ByteArray) (own : String) : Prop := p.tables.exec = Jvm.exec ∧ c.code = cc ∧ s.vm.findClass own = some m.cls ∧ (∀ w ∈ gw, w.before args s = true) ∧ mK D dA s ∧ mZ base s
/-- what an instruction at a field's link needs: kind k, slot j -/
def fLk (own : String) (idx k j : Nat) : Prop := ∃ (ci : Nat) (C : String) (T : u_T) (N : Nat), sh k = .inl ci ∧ classes[ci]? = some (C, T, N) ∧ j < N ∧ (T j).1 = C ∧ (∀ w ∈ u_ws C T N, w ∈ gw) ∧ (Cond.fieldLink own idx C (T j).2.1 (T j).2.2.1 ∈ gw ∨ ∃ host, Cond.fieldLinkNest own idx C (T j).2.1 (T j).2.2.1 host ∈ gw)
/-- .. and a writing one, of type ty -/
def fPk (own : String) (idx k j : Nat) (ty : FieldType) : Prop := ∃ (ci : Nat) (C : String) (T : u_T) (N : Nat) (ty0 : Nat → FieldType), sh k = .inl ci ∧ classes[ci]? = some (C, T, N) ∧ j < N ∧ (T j).1 = C ∧ (∀ w ∈ u_ws C T N, w ∈ gw) ∧ (∀ k, k < N → parseFieldDescriptor (T k).2.2.1 = some (ty0 k)) ∧ (∀ a, a < N → ∀ b, b < N → a ≠ b → (T a).2.1 ≠ (T b).2.1) ∧ ty0 j = ty ∧
  (((T j).2.2.2 = false ∧ (Cond.fieldLink own idx C (T j).2.1 (T j).2.2.1 ∈ gw ∨ ∃ host, Cond.fieldLinkNest own idx C (T j).2.1 (T j).2.2.1 host ∈ gw)))
/-- .. a final one, in its class's constructor -/
def fFk (own : String) (idx k j : Nat) (ty : FieldType) : Prop := ∃ (ci : Nat) (C : String) (T : u_T) (N : Nat) (ty0 : Nat → FieldType), sh k = .inl ci ∧ classes[ci]? = some (C, T, N) ∧ j < N ∧ (T j).1 = C ∧ (∀ w ∈ u_ws C T N, w ∈ gw) ∧ (∀ k, k < N → parseFieldDescriptor (T k).2.2.1 = some (ty0 k)) ∧ (∀ a, a < N → ∀ b, b < N → a ≠ b → (T a).2.1 ≠ (T b).2.1) ∧ ty0 j = ty ∧
  ((T j).2.2.2 = true ∧ own = C ∧ Cond.fieldLink own idx C (T j).2.1 (T j).2.2.1 ∈ gw)
/-- an array kind -/
def aLk (k t n : Nat) (ty : FieldType) : Prop := sh k = .inr (t, n) ∧ n < 2 ^ 31 ∧ ∀ dA : Nat → ClassId, (atl dA)[t]? = some (dA t, ty)
theorem mRep_store {D : va_G} {dA : Nat → ClassId} {base : Nat} {M M' : mM} {ad : Nat → Nat → Nat} {H H1 : Heap} (h : mRep D dA base M ad H) {k i : Nat} (hi : i < gn M k) (hc : mcell D dA k (ad k i) (mv M' ad k i) H1) (ho : ∀ q : Nat, q ≠ ad k i → H1[q]? = H[q]?) (hn : ∀ a, gn M' a = gn M a) (hV : ∀ a b, ¬ (a = k ∧ b = i) → mv M' ad a b = mv M ad a b) (hcl : ∀ k i j t q, i < gn M' k → ft k j = t + 2 → gr M' k i j = some q → q < gn M' t) : mRep D dA base M' ad H1 := by
  refine ⟨fun a b hb => ?_, fun a b a' b' hb hb' => ?_, hcl⟩
  · rw [hn] at hb
    refine ⟨(h.1 a b hb).1, ?_⟩
    by_cases hab : a = k ∧ b = i
    · obtain ⟨rfl, rfl⟩ := hab
      exact hc
    · rw [hV a b hab]
      exact (h.1 a b hb).2.kept (ho _ (fun q => hab (h.2.1 a b k i hb hi q)))
  · rw [hn] at hb hb'
    exact h.2.1 a b a' b' hb hb'
theorem mv_si {M : mM} {ad : Nat → Nat → Nat} {k i j : Nat} {x : Int32} (h0 : ft k j = 0) : mv (si M k i j x) ad k i = updV (mv M ad k i) j (.int x) := by
  funext q
  by_cases hq : q = j
  · subst hq
    rw [mv_i h0, gi_si]
    simp [updV]
  · simp [updV, hq, mv, gi_si, gr_si, gl_si]
theorem mv_sr {M : mM} {ad : Nat → Nat → Nat} {k i j t : Nat} {x : Option Nat} (h0 : ft k j = t + 2) : mv (sr M k i j x) ad k i = updV (mv M ad k i) j (rfv ad t x) := by
  funext q
  by_cases hq : q = j
  · subst hq
    rw [mv_r h0, gr_sr]
    simp [updV]
  · simp [updV, hq, mv, gi_sr, gr_sr, gl_sr]
theorem mv_sl {M : mM} {ad : Nat → Nat → Nat} {k i j : Nat} {x : Int64} (h0 : ft k j = 1) : mv (sl M k i j x) ad k i = updV (mv M ad k i) j (.long x) := by
  funext q
  by_cases hq : q = j
  · subst hq
    rw [mv_l h0, gl_sl]
    simp [updV]
  · simp [updV, hq, mv, gi_sl, gr_sl, gl_sl]
theorem mv_si_ne {M : mM} {ad : Nat → Nat → Nat} {k i j a b : Nat} {x : Int32} (h : ¬ (a = k ∧ b = i)) : mv (si M k i j x) ad a b = mv M ad a b := by
  funext q
  have h2 : ¬ (a = k ∧ b = i ∧ q = j) := fun z => h ⟨z.1, z.2.1⟩
  simp [mv, gi_si, gr_si, gl_si, h2]
theorem mv_sr_ne {M : mM} {ad : Nat → Nat → Nat} {k i j a b : Nat} {x : Option Nat} (h : ¬ (a = k ∧ b = i)) : mv (sr M k i j x) ad a b = mv M ad a b := by
  funext q
  have h2 : ¬ (a = k ∧ b = i ∧ q = j) := fun z => h ⟨z.1, z.2.1⟩
  simp [mv, gi_sr, gr_sr, gl_sr, h2]
theorem mv_sl_ne {M : mM} {ad : Nat → Nat → Nat} {k i j a b : Nat} {x : Int64} (h : ¬ (a = k ∧ b = i)) : mv (sl M k i j x) ad a b = mv M ad a b := by
  funext q
  have h2 : ¬ (a = k ∧ b = i ∧ q = j) := fun z => h ⟨z.1, z.2.1⟩
  simp [mv, gi_sl, gr_sl, gl_sl, h2]
theorem mRep_si {D : va_G} {dA : Nat → ClassId} {base : Nat} {M : mM} {ad : Nat → Nat → Nat} {H H1 : Heap} (h : mRep D dA base M ad H) {k i j : Nat} {x : Int32} (hi : i < gn M k) (hc : mcell D dA k (ad k i) (mv (si M k i j x) ad k i) H1) (ho : ∀ q : Nat, q ≠ ad k i → H1[q]? = H[q]?) : mRep D dA base (si M k i j x) ad H1 :=
  mRep_store h hi hc ho (fun _ => rfl) (fun _ _ z => mv_si_ne z) h.2.2
theorem mRep_sl {D : va_G} {dA : Nat → ClassId} {base : Nat} {M : mM} {ad : Nat → Nat → Nat} {H H1 : Heap} (h : mRep D dA base M ad H) {k i j : Nat} {x : Int64} (hi : i < gn M k) (hc : mcell D dA k (ad k i) (mv (sl M k i j x) ad k i) H1) (ho : ∀ q : Nat, q ≠ ad k i → H1[q]? = H[q]?) : mRep D dA base (sl M k i j x) ad H1 :=
  mRep_store h hi hc ho (fun _ => rfl) (fun _ _ z => mv_sl_ne z) h.2.2
theorem mRep_sr {D : va_G} {dA : Nat → ClassId} {base : Nat} {M : mM} {ad : Nat → Nat → Nat} {H H1 : Heap} (h : mRep D dA base M ad H) {k i j t : Nat} {x : Option Nat} (hi : i < gn M k) (ht : ft k j = t + 2) (hx : ∀ q, x = some q → q < gn M t) (hc : mcell D dA k (ad k i) (mv (sr M k i j x) ad k i) H1) (ho : ∀ q : Nat, q ≠ ad k i → H1[q]? = H[q]?) : mRep D dA base (sr M k i j x) ad H1 := by
  refine mRep_store h hi hc ho (fun _ => rfl) (fun _ _ z => mv_sr_ne z) ?_
  intro a b c t' q hb ht' hq
  rw [gr_sr] at hq
  by_cases h3 : a = k ∧ b = i ∧ c = j
  · rw [if_pos h3] at hq
    obtain ⟨rfl, rfl, rfl⟩ := h3
    have : t' = t := by omega
    subst this
    exact hx q hq
  · rw [if_neg h3] at hq
    exact h.2.2 a b c t' q hb ht' hq
theorem mSt.live {D : va_G} {dA : Nat → ClassId} {base : Nat} {M : mM} {ad : Nat → Nat → Nat} {H0 H : Heap} {locs : List Loc} (h : mSt D dA base M ad H0 H locs) {k i j t q : Nat} (hi : i < gn M k) (ht : ft k j = t + 2) (hq : gr M k i j = some q) : q < gn M t := h.1.2.2 k i j t q hi ht hq
end
section
section MROWS
variable {p : Program} {l : Launch} {e : Env} {R : Room} {s : State} {m : MethodId} {args : Array Value} {below : List Frame} {meth : Method} {c : Code} {H : Heap} {locs : List Loc} {cells slots : Nat} {Q : State → Prop}
variable {cc : ByteArray} {pc : Nat} {ls : Array Slot} {rest : List Value} {D : va_G} {dA : Nat → ClassId} {base : Nat} {M : mM} {ad : Nat → Nat → Nat} {own : String} {H0 : Heap}
theorem r_getv (X : mCx D dA base p s m args c cc own) (hM : mSt D dA base M ad H0 H locs) {k i j a idx : Nat} (ha : ad k i = a) (hi : i < gn M k) (hF : fLk own idx k j) (hdg : decode cc pc = .ok (.getfield idx, 3))
    (kk : W p l e R s m args below meth c H locs cells slots Q (F0 m (pc + 3) ls (mv M ad k i j :: rest))) : W p l e R s m args below meth c H locs cells slots Q (F0 m pc ls (.ref a :: rest)) := by
  obtain ⟨hexec, hb, hown, hts, hK, -⟩ := X
  obtain ⟨ci, C, T, N, hs, hc, hj, hT, hin, hlk⟩ := hF
  obtain ⟨-, hcell⟩ := hM.1.1 k i hi
  unfold mcell at hcell
  rw [hs] at hcell
  obtain ⟨r, h1, cell, q1, q2, q3, q4⟩ := hcell
  have hr : r = (C, T, N) := Option.some.inj (h1.symm.trans hc)
  subst hr
  obtain ⟨hS, hfc, kC, hkC, hkind⟩ := hK.1 ci _ hc
  obtain ⟨cf, kf, fi, f, hfi, hsl⟩ := hS j hj
  have hst := (u_facts hfc hkC (u_lays hts hin hj) hfi).1
  have hfi2 : s.fieldFound? C (T j).2.1 (T j).2.2.1 = some (cf, kf, fi, f) := by
    have h9 := hfi
    dsimp only at h9
    rw [hT] at h9
    exact h9
  subst ha
  rcases hlk with hlk | ⟨host, hlk⟩
  · refine W.getf hexec hb hown (hts _ hlk) hfi2 hst q1 (by rw [q3]; exact fun h => by cases h) (v := mv M ad k i j) ?_ rfl rfl hdg kk
    rw [hsl, q4 j hj]
  · refine va_Wgetf hexec hb hown (hts _ hlk) hfi2 hst q1 (by rw [q3]; exact fun h => by cases h) (v := mv M ad k i j) ?_ rfl rfl hdg kk
    rw [hsl, q4 j hj]
/-- a field of ints -/
theorem r_geti (X : mCx D dA base p s m args c cc own) (hM : mSt D dA base M ad H0 H locs) {k i j a idx : Nat} (ha : ad k i = a) (hi : i < gn M k) (hF : fLk own idx k j) (h0 : ft k j = 0) (hdg : decode cc pc = .ok (.getfield idx, 3))
    (kk : W p l e R s m args below meth c H locs cells slots Q (F0 m (pc + 3) ls (.int (gi M k i j) :: rest))) : W p l e R s m args below meth c H locs cells slots Q (F0 m pc ls (.ref a :: rest)) :=
  r_getv X hM ha hi hF hdg (by rw [mv_i h0]; exact kk)
/-- a field of references -/
theorem r_getr (X : mCx D dA base p s m args c cc own) (hM : mSt D dA base M ad H0 H locs) {k i j a idx t : Nat} (ha : ad k i = a) (hi : i < gn M k) (hF : fLk own idx k j) (h0 : ft k j = t + 2) (hdg : decode cc pc = .ok (.getfield idx, 3))
    (kk : (∀ q, gr M k i j = some q → q < gn M t) → W p l e R s m args below meth c H locs cells slots Q (F0 m (pc + 3) ls (rfv ad t (gr M k i j) :: rest))) : W p l e R s m args below meth c H locs cells slots Q (F0 m pc ls (.ref a :: rest)) :=
  r_getv X hM ha hi hF hdg (by rw [mv_r h0]; exact kk (fun q hq => hM.1.2.2 k i j t q hi h0 hq))
/-- .. that is known to be there -/
theorem r_gets (X : mCx D dA base p s m args c cc own) (hM : mSt D dA base M ad H0 H locs) {k i j a idx t q : Nat} (ha : ad k i = a) (hi : i < gn M k) (hF : fLk own idx k j) (h0 : ft k j = t + 2) (hq : gr M k i j = some q) (hdg : decode cc pc = .ok (.getfield idx, 3))
    (kk : q < gn M t → W p l e R s m args below meth c H locs cells slots Q (F0 m (pc + 3) ls (.ref (ad t q) :: rest))) : W p l e R s m args below meth c H locs cells slots Q (F0 m pc ls (.ref a :: rest)) :=
  r_getr X hM ha hi hF h0 hdg (fun h => by rw [hq]; exact kk (h q hq))
theorem r_putv (X : mCx D dA base p s m args c cc own) (hM : mSt D dA base M ad H0 H locs) {k i j a idx : Nat} {ty : FieldType} (ha : ad k i = a) (hi : i < gn M k) (hF : fPk own idx k j ty) {v : Value} (hn : narrow ty v = v) (hfit : fits ty v = true) (hdg : decode cc pc = .ok (.putfield idx, 3))
    (kk : ∀ (H1 : Heap) (locs1 : List Loc), mcell D dA k (ad k i) (updV (mv M ad k i) j v) H1 → (∀ q : Nat, q ≠ ad k i → H1[q]? = H[q]?) → va_S (fun q => base ≤ q) H0 H1 locs1 → W p l e R s m args below meth c H1 locs1 cells slots Q (F0 m (pc + 3) ls rest)) : W p l e R s m args below meth c H locs cells slots Q (F0 m pc ls (v :: .ref a :: rest)) := by
  obtain ⟨hexec, hb, hown, hts, hK, -⟩ := X
  obtain ⟨ci, C, T, N, ty0, hs, hc, hj, hT, hin, hty, hnm, hd, hfin, hlk⟩ := hF
  have hap := va_apart (own := own) hts hin ty0 hty hnm hK hc
  obtain ⟨hba, hcell⟩ := hM.1.1 k i hi
  unfold mcell at hcell kk
  rw [hs] at hcell kk
  obtain ⟨r, h1, cell, q1, q2, q3, q4⟩ := hcell
  have hr : r = (C, T, N) := Option.some.inj (h1.symm.trans hc)
  subst hr
  obtain ⟨hS, hfc, kC, hkC, hkind⟩ := hK.1 ci _ hc
  obtain ⟨cf, kf, fi, f, hfi, hsl⟩ := hS j hj
  have hlay := hts _ (hin _ (u_in_lay hj))
  unfold u_lay at hlay
  rw [if_neg (by rw [hfin]; decide)] at hlay
  have hst := (u_facts hfc hkC (u_lays hts hin hj) hfi).1
  have h6 := u_store hfc hkC hkind hlay hfi ((hty j hj).trans (congrArg some hd)) hn hfit
  have hfi2 : s.fieldFound? C (T j).2.1 (T j).2.2.1 = some (cf, kf, fi, f) := by
    have h9 := hfi
    dsimp only at h9
    rw [hT] at h9
    exact h9
  subst ha
  rcases hlk with hlk | ⟨host, hlk⟩
  · refine W.putK hexec hb (f := f) ⟨hown, hts _ hlk, ⟨_, _, _, hfi2⟩, hst⟩ (by rw [q2]; exact h6) q1 q3 (by rw [hsl]; exact k2_hasslot (q4 j hj)) rfl rfl hdg fun H' e1 e2 e3 => ?_
    rw [hsl] at e1 ⊢
    exact kk H' _ ⟨_, hc, _, e1, q2, q3, t_set q4 hap hj v⟩ e3 (hM.2.1.put e2 e3 hba)
  · refine va_WputK hexec hb (f := f) hown (hts _ hlk) hfi2 hst (by rw [q2]; exact h6) q1 q3 (by rw [hsl]; exact k2_hasslot (q4 j hj)) rfl rfl hdg fun H' e1 e2 e3 => ?_
    rw [hsl] at e1 ⊢
    exact kk H' _ ⟨_, hc, _, e1, q2, q3, t_set q4 hap hj v⟩ e3 (hM.2.1.put e2 e3 hba)
theorem r_putfv (X : mCx D dA base p s m args c cc own) (hin2 : meth.name = "<init>") (hM : mSt D dA base M ad H0 H locs) {k i j a idx : Nat} {ty : FieldType} (ha : ad k i = a) (hi : i < gn M k) (hF : fFk own idx k j ty) {v : Value} (hn : narrow ty v = v) (hfit : fits ty v = true) (hdg : decode cc pc = .ok (.putfield idx, 3))
    (kk : ∀ (H1 : Heap) (locs1 : List Loc), mcell D dA k (ad k i) (updV (mv M ad k i) j v) H1 → (∀ q : Nat, q ≠ ad k i → H1[q]? = H[q]?) → va_S (fun q => base ≤ q) H0 H1 locs1 → W p l e R s m args below meth c H1 locs1 cells slots Q (F0 m (pc + 3) ls rest)) : W p l e R s m args below meth c H locs cells slots Q (F0 m pc ls (v :: .ref a :: rest)) := by
  obtain ⟨hexec, hb, hown, hts, hK, -⟩ := X
  obtain ⟨ci, C, T, N, ty0, hs, hc, hj, hT, hin, hty, hnm, hd, hfin, hC, hlk⟩ := hF
  have hap := va_apart (own := own) hts hin ty0 hty hnm hK hc
  obtain ⟨hba, hcell⟩ := hM.1.1 k i hi
  unfold mcell at hcell kk
  rw [hs] at hcell kk
  obtain ⟨r, h1, cell, q1, q2, q3, q4⟩ := hcell
  have hr : r = (C, T, N) := Option.some.inj (h1.symm.trans hc)
  subst hr
  obtain ⟨hS, hfc, kC, hkC, hkind⟩ := hK.1 ci _ hc
  obtain ⟨cf, kf, fi, f, hfi, hsl⟩ := hS j hj
  have hlay := hts _ (hin _ (u_in_lay hj))
  unfold u_lay at hlay
  rw [if_pos hfin] at hlay
  have hst := (u_facts hfc hkC (u_lays hts hin hj) hfi).1
  have hcf : m.cls = cf := by
    obtain ⟨_, _, c', _, _, _, -, -, hf', -, -, -, hown2, -⟩ := Cond.laysFinal_spec hlay
    have e1 : c' = cf := by have := hfi.symm.trans hf'; simp at this; exact this.1.symm
    rw [hT, ← hC] at hown2
    rw [← e1]; exact Option.some.inj (hown.symm.trans hown2)
  have h6 := u_fits hfc hkC hkind (Or.inr hlay) hfi ((hty j hj).trans (congrArg some hd)) hn hfit
  have hfi2 : s.fieldFound? C (T j).2.1 (T j).2.2.1 = some (cf, kf, fi, f) := by
    have h9 := hfi
    dsimp only at h9
    rw [hT] at h9
    exact h9
  subst ha
  refine W.putFinK hexec hb hown (hts _ hlk) hfi2 hst hcf hin2 (by rw [q2]; exact h6) q1 q3 (by rw [hsl]; exact k2_hasslot (q4 j hj)) rfl rfl hdg fun H' e1 e2 e3 => ?_
  rw [hsl] at e1 ⊢
  exact kk H' _ ⟨_, hc, _, e1, q2, q3, t_set q4 hap hj v⟩ e3 (hM.2.1.put e2 e3 hba)
theorem r_puti (X : mCx D dA base p s m args c cc own) (hM : mSt D dA base M ad H0 H locs) {k i j a idx : Nat} {ty : FieldType} (ha : ad k i = a) (hi : i < gn M k) (hF : fPk own idx k j ty) (h0 : ft k j = 0) {x : Int32} (hn : narrow ty (.int x) = .int x) (hfit : fits ty (.int x) = true) (hdg : decode cc pc = .ok (.putfield idx, 3))
    (kk : ∀ (H1 : Heap) (locs1 : List Loc), mSt D dA base (si M k i j x) ad H0 H1 locs1 → W p l e R s m args below meth c H1 locs1 cells slots Q (F0 m (pc + 3) ls rest)) : W p l e R s m args below meth c H locs cells slots Q (F0 m pc ls (.int x :: .ref a :: rest)) :=
  r_putv X hM ha hi hF hn hfit hdg (fun H1 locs1 h1 h2 h3 => kk H1 locs1 ⟨mRep_si hM.1 hi (by rw [mv_si h0]; exact h1) h2, h3, hM.2.2⟩)
theorem r_putr (X : mCx D dA base p s m args c cc own) (hM : mSt D dA base M ad H0 H locs) {k i j a idx t : Nat} {ty : FieldType} (ha : ad k i = a) (hi : i < gn M k) (hF : fPk own idx k j ty) (h0 : ft k j = t + 2) {x : Option Nat} (hx : ∀ q, x = some q → q < gn M t) {v : Value} (hv : rfv ad t x = v) (hn : narrow ty v = v) (hfit : fits ty v = true) (hdg : decode cc pc = .ok (.putfield idx, 3))
    (kk : ∀ (H1 : Heap) (locs1 : List Loc), mSt D dA base (sr M k i j x) ad H0 H1 locs1 → W p l e R s m args below meth c H1 locs1 cells slots Q (F0 m (pc + 3) ls rest)) : W p l e R s m args below meth c H locs cells slots Q (F0 m pc ls (v :: .ref a :: rest)) :=
  r_putv X hM ha hi hF hn hfit hdg (fun H1 locs1 h1 h2 h3 => kk H1 locs1 ⟨mRep_sr hM.1 hi h0 hx (by rw [mv_sr h0, hv]; exact h1) h2, h3, hM.2.2⟩)
theorem r_putfi (X : mCx D dA base p s m args c cc own) (hin2 : meth.name = "<init>") (hM : mSt D dA base M ad H0 H locs) {k i j a idx : Nat} {ty : FieldType} (ha : ad k i = a) (hi : i < gn M k) (hF : fFk own idx k j ty) (h0 : ft k j = 0) {x : Int32} (hn : narrow ty (.int x) = .int x) (hfit : fits ty (.int x) = true) (hdg : decode cc pc = .ok (.putfield idx, 3))
    (kk : ∀ (H1 : Heap) (locs1 : List Loc), mSt D dA base (si M k i j x) ad H0 H1 locs1 → W p l e R s m args below meth c H1 locs1 cells slots Q (F0 m (pc + 3) ls rest)) : W p l e R s m args below meth c H locs cells slots Q (F0 m pc ls (.int x :: .ref a :: rest)) :=
  r_putfv X hin2 hM ha hi hF hn hfit hdg (fun H1 locs1 h1 h2 h3 => kk H1 locs1 ⟨mRep_si hM.1 hi (by rw [mv_si h0]; exact h1) h2, h3, hM.2.2⟩)
theorem r_putfr (X : mCx D dA base p s m args c cc own) (hin2 : meth.name = "<init>") (hM : mSt D dA base M ad H0 H locs) {k i j a idx t : Nat} {ty : FieldType} (ha : ad k i = a) (hi : i < gn M k) (hF : fFk own idx k j ty) (h0 : ft k j = t + 2) {x : Option Nat} (hx : ∀ q, x = some q → q < gn M t) {v : Value} (hv : rfv ad t x = v) (hn : narrow ty v = v) (hfit : fits ty v = true) (hdg : decode cc pc = .ok (.putfield idx, 3))
    (kk : ∀ (H1 : Heap) (locs1 : List Loc), mSt D dA base (sr M k i j x) ad H0 H1 locs1 → W p l e R s m args below meth c H1 locs1 cells slots Q (F0 m (pc + 3) ls rest)) : W p l e R s m args below meth c H locs cells slots Q (F0 m pc ls (v :: .ref a :: rest)) :=
  r_putfv X hin2 hM ha hi hF hn hfit hdg (fun H1 locs1 h1 h2 h3 => kk H1 locs1 ⟨mRep_sr hM.1 hi h0 hx (by rw [mv_sr h0, hv]; exact h1) h2, h3, hM.2.2⟩)
/-- arrays of ints -/
theorem r_iald (X : mCx D dA base p s m args c cc own) (hM : mSt D dA base M ad H0 H locs) {k i j a t n : Nat} (ha : ad k i = a) (hi : i < gn M k) (hA : aLk k t n .int) (h0 : ∀ j, ft k j = 0) {x : Int32} (hx : x = nI j) (hj : j < n) (hdg : decode cc pc = .ok (.iaload, 1))
    (kk : W p l e R s m args below meth c H locs cells slots Q (F0 m (pc + 1) ls (.int (gi M k i j) :: rest))) : W p l e R s m args below meth c H locs cells slots Q (F0 m pc ls (.int x :: .ref a :: rest)) := by
  obtain ⟨hexec, hb, hown, hts, hK, -⟩ := X
  obtain ⟨hs, hn, ht⟩ := hA
  obtain ⟨-, hcell⟩ := hM.1.1 k i hi
  unfold mcell at hcell
  rw [hs] at hcell
  subst ha; subst hx
  have hcl : (nI j).toNatClampNeg = j := nI_clamp (by omega)
  refine W.iald (v := .int (gi M k i j)) hexec hb hcell ((hK.2 t _ (ht dA)).1 n (mv M ad k i)) (fun q => by cases q) (by show ¬ (nI j < 0 ∨ (arrV _ _ _).slots.size ≤ _); rw [arrV_size]; exact nI_in hj hn) ?_ rfl rfl hdg kk
  show (arrV _ _ _).slots[_]? = _
  rw [hcl, arrV_read _ _ hj, mv_i (h0 j)]
theorem r_iast (X : mCx D dA base p s m args c cc own) (hM : mSt D dA base M ad H0 H locs) {k i j a t n : Nat} (ha : ad k i = a) (hi : i < gn M k) (hA : aLk k t n .int) (h0 : ∀ j, ft k j = 0) {x y : Int32} (hx : x = nI j) (hj : j < n) (hdg : decode cc pc = .ok (.iastore, 1))
    (kk : ∀ (H1 : Heap) (locs1 : List Loc), mSt D dA base (si M k i j y) ad H0 H1 locs1 → W p l e R s m args below meth c H1 locs1 cells slots Q (F0 m (pc + 1) ls rest)) : W p l e R s m args below meth c H locs cells slots Q (F0 m pc ls (.int y :: .int x :: .ref a :: rest)) := by
  obtain ⟨hexec, hb, hown, hts, hK, -⟩ := X
  obtain ⟨hs, hn, ht⟩ := hA
  obtain ⟨hba, hcell⟩ := hM.1.1 k i hi
  unfold mcell at hcell
  rw [hs] at hcell
  subst ha; subst hx
  have hcl : (nI j).toNatClampNeg = j := nI_clamp (by omega)
  refine W.iast hexec hb hcell ((hK.2 t _ (ht dA)).1 n (mv M ad k i)) (fun q => by cases q) (by show ¬ (nI j < 0 ∨ (arrV _ _ _).slots.size ≤ _); rw [arrV_size]; exact nI_in hj hn) rfl rfl hdg fun H1 e z oq => ?_
  refine kk H1 _ ⟨mRep_si hM.1 hi ?_ oq, hM.2.1.put z oq hba, hM.2.2⟩
  unfold mcell
  rw [hs, e, hcl, arrV_store, mv_si (h0 j)]
/-- arrays of references -/
theorem r_aald (X : mCx D dA base p s m args c cc own) (hM : mSt D dA base M ad H0 H locs) {k i j a t n u : Nat} {C : String} (ha : ad k i = a) (hi : i < gn M k) (hA : aLk k t n (.object C)) (h0 : ∀ j, ft k j = u + 2) {x : Int32} (hx : x = nI j) (hj : j < n) (hdg : decode cc pc = .ok (.aaload, 1))
    (kk : (∀ q, gr M k i j = some q → q < gn M u) → W p l e R s m args below meth c H locs cells slots Q (F0 m (pc + 1) ls (rfv ad u (gr M k i j) :: rest))) : W p l e R s m args below meth c H locs cells slots Q (F0 m pc ls (.int x :: .ref a :: rest)) := by
  have kk := kk (fun q hq => hM.1.2.2 k i j u q hi (h0 j) hq)
  obtain ⟨hexec, hb, hown, hts, hK, -⟩ := X
  obtain ⟨hs, hn, ht⟩ := hA
  obtain ⟨-, hcell⟩ := hM.1.1 k i hi
  unfold mcell at hcell
  rw [hs] at hcell
  subst ha; subst hx
  have hcl : (nI j).toNatClampNeg = j := nI_clamp (by omega)
  refine W.aald (v := rfv ad u (gr M k i j)) (ty := .object C) hexec hb hcell ((hK.2 t _ (ht dA)).1 n (mv M ad k i)) rfl (fun q => by cases q) (by show ¬ (nI j < 0 ∨ (arrV _ _ _).slots.size ≤ _); rw [arrV_size]; exact nI_in hj hn) ?_ rfl rfl hdg kk
  show (arrV _ _ _).slots[_]? = _
  rw [hcl, arrV_read _ _ hj, mv_r (h0 j)]
theorem r_aalds (X : mCx D dA base p s m args c cc own) (hM : mSt D dA base M ad H0 H locs) {k i j a t n u q : Nat} {C : String} (ha : ad k i = a) (hi : i < gn M k) (hA : aLk k t n (.object C)) (h0 : ∀ j, ft k j = u + 2) {x : Int32} (hx : x = nI j) (hj : j < n) (hq : gr M k i j = some q) (hdg : decode cc pc = .ok (.aaload, 1))
    (kk : q < gn M u → W p l e R s m args below meth c H locs cells slots Q (F0 m (pc + 1) ls (.ref (ad u q) :: rest))) : W p l e R s m args below meth c H locs cells slots Q (F0 m pc ls (.int x :: .ref a :: rest)) :=
  r_aald X hM ha hi hA h0 hx hj hdg (fun h => by rw [hq]; exact kk (h q hq))
/-- a reference that is there is stored: v's kind u is of class C -/
theorem r_aast (X : mCx D dA base p s m args c cc own) (hM : mSt D dA base M ad H0 H locs) {k i j a t n u q b ci : Nat} {r : vw_C} (ha : ad k i = a) (hi : i < gn M k) (hA : aLk k t n (.object r.1)) (h0 : ∀ j, ft k j = u + 2) (hu : sh u = .inl ci) (hc : classes[ci]? = some r) (hb2 : ad u q = b) (hq : q < gn M u) {x : Int32} (hx : x = nI j) (hj : j < n) (hdg : decode cc pc = .ok (.aastore, 1))
    (kk : ∀ (H1 : Heap) (locs1 : List Loc), mSt D dA base (sr M k i j (some q)) ad H0 H1 locs1 → W p l e R s m args below meth c H1 locs1 cells slots Q (F0 m (pc + 1) ls rest)) : W p l e R s m args below meth c H locs cells slots Q (F0 m pc ls (.ref b :: .int x :: .ref a :: rest)) := by
  obtain ⟨hexec, hb, hown, hts, hK, -⟩ := X
  obtain ⟨hs, hn, ht⟩ := hA
  obtain ⟨hba, hcell⟩ := hM.1.1 k i hi
  obtain ⟨-, hcv⟩ := hM.1.1 u q hq
  unfold mcell at hcell hcv
  rw [hs] at hcell
  rw [hu] at hcv
  obtain ⟨r', hr', cellV, g1, g2, g3, -⟩ := hcv
  subst ha; subst hx; subst hb2
  have hcl : (nI j).toNatClampNeg = j := nI_clamp (by omega)
  have hcls := (hK.1 ci r hc).2
  obtain ⟨kA, comp, k1, k2, k3, -⟩ := (hK.2 t _ (ht dA)).2
  have hcomp : comp = D.1 ci := Option.some.inj (k3.symm.trans hcls.1)
  subst hcomp
  obtain ⟨kC, hkC, -⟩ := hcls.2
  refine W.aast hexec hb hcell (fun q h => by cases h) (fun h => by cases h) k1 k2 rfl hkC ⟨nI_pos (by omega), by show _ < (arrV _ _ _).slots.size; rw [arrV_size, hcl]; exact hj⟩ g1 (fun q h => by rw [g3] at h; cases h) (by rw [g2]; exact hkC) (by rw [g2]; exact va_assign hcls) rfl rfl hdg fun H1 e z oq => ?_
  refine kk H1 _ ⟨mRep_sr hM.1 hi (h0 j) (fun z hz => by cases hz; exact hq) ?_ oq, hM.2.1.put z oq hba, hM.2.2⟩
  unfold mcell
  rw [hs, e, hcl, arrV_store, mv_sr (h0 j)]
  rfl
theorem r_aastN (X : mCx D dA base p s m args c cc own) (hM : mSt D dA base M ad H0 H locs) {k i j a t n u : Nat} {C : String} (ha : ad k i = a) (hi : i < gn M k) (hA : aLk k t n (.object C)) (h0 : ∀ j, ft k j = u + 2) {x : Int32} (hx : x = nI j) (hj : j < n) (hdg : decode cc pc = .ok (.aastore, 1))
    (kk : ∀ (H1 : Heap) (locs1 : List Loc), mSt D dA base (sr M k i j none) ad H0 H1 locs1 → W p l e R s m args below meth c H1 locs1 cells slots Q (F0 m (pc + 1) ls rest)) : W p l e R s m args below meth c H locs cells slots Q (F0 m pc ls (.null :: .int x :: .ref a :: rest)) := by
  obtain ⟨hexec, hb, hown, hts, hK, -⟩ := X
  obtain ⟨hs, hn, ht⟩ := hA
  obtain ⟨hba, hcell⟩ := hM.1.1 k i hi
  unfold mcell at hcell
  rw [hs] at hcell
  subst ha; subst hx
  have hcl : (nI j).toNatClampNeg = j := nI_clamp (by omega)
  refine va_WaastN (C := C) hexec hb hcell ((hK.2 t _ (ht dA)).1 n (mv M ad k i)) (fun h => by cases h) (by show ¬ (nI j < 0 ∨ (arrV _ _ _).slots.size ≤ _); rw [arrV_size]; exact nI_in hj hn) rfl rfl hdg fun H1 e z oq => ?_
  refine kk H1 _ ⟨mRep_sr hM.1 hi (h0 j) (fun z hz => by cases hz) ?_ oq, hM.2.1.put z oq hba, hM.2.2⟩
  unfold mcell
  rw [hs, e, hcl, arrV_store, mv_sr (h0 j)]
  rfl
end MROWS
end
section
section MROWS2
variable {p : Program} {l : Launch} {e : Env} {R : Room} {s : State} {m : MethodId} {args : Array Value} {below : List Frame} {meth : Method} {c : Code} {H : Heap} {locs : List Loc} {cells slots : Nat} {Q : State → Prop}
variable {cc : ByteArray} {pc : Nat} {ls : Array Slot} {rest : List Value} {D : va_G} {dA : Nat → ClassId} {base : Nat} {M : mM} {ad : Nat → Nat → Nat} {own : String} {H0 : Heap}
theorem r_aload_n (hexec : p.tables.exec = Jvm.exec) (hb : c.code = cc) {z : Fin 4} {i k : Nat} {r : Option Nat} (hdg : decode cc pc = .ok (.aload_n z, 1)) (hi : (z : Nat) = i) (hl : ls[i]? = some (.val (rfv ad k r)))
    (kk : W p l e R s m args below meth c H locs cells slots Q (F0 m (pc + 1) ls (rfv ad k r :: rest))) : W p l e R s m args below meth c H locs cells slots Q (F0 m pc ls rest) := by
  cases r with
  | none => exact lv_aload_nN hexec hb hdg hi hl kk
  | some t => exact lv_aload_n hexec hb hdg hi hl kk
theorem r_aload (hexec : p.tables.exec = Jvm.exec) (hb : c.code = cc) {i k : Nat} {r : Option Nat} (hdg : decode cc pc = .ok (.aload i, 2)) (hl : ls[i]? = some (.val (rfv ad k r)))
    (kk : W p l e R s m args below meth c H locs cells slots Q (F0 m (pc + 2) ls (rfv ad k r :: rest))) : W p l e R s m args below meth c H locs cells slots Q (F0 m pc ls rest) := by
  cases r with
  | none => exact lv_aloadN hexec hb hdg hl kk
  | some t => exact lv_aload hexec hb hdg hl kk
theorem r_astore_n (hexec : p.tables.exec = Jvm.exec) (hb : c.code = cc) {z : Fin 4} {i nL k : Nat} {r : Option Nat} {lv lv' : List (Nat × Value)} (hdg : decode cc pc = .ok (.astore_n z, 1)) (hi : (z : Nat) = i) (h : lv_has ls nL lv) (hn : i < nL) (hl : (i, rfv ad k r) :: lv.filter (fun q => !(q.1 == i) && !(q.1 + 1 == i && q.2.category == 2)) = lv')
    (kk : ∀ ls' : Array Slot, lv_has ls' nL lv' → W p l e R s m args below meth c H locs cells slots Q (F0 m (pc + 1) ls' rest)) : W p l e R s m args below meth c H locs cells slots Q (F0 m pc ls (rfv ad k r :: rest)) := by
  cases r with
  | none => exact lv_astore_nN hexec hb hdg hi h hn hl kk
  | some t => exact lv_astore_n hexec hb hdg hi h hn hl kk
theorem r_astore (hexec : p.tables.exec = Jvm.exec) (hb : c.code = cc) {i nL k : Nat} {r : Option Nat} {lv lv' : List (Nat × Value)} (hdg : decode cc pc = .ok (.astore i, 2)) (h : lv_has ls nL lv) (hn : i < nL) (hl : (i, rfv ad k r) :: lv.filter (fun q => !(q.1 == i) && !(q.1 + 1 == i && q.2.category == 2)) = lv')
    (kk : ∀ ls' : Array Slot, lv_has ls' nL lv' → W p l e R s m args below meth c H locs cells slots Q (F0 m (pc + 2) ls' rest)) : W p l e R s m args below meth c H locs cells slots Q (F0 m pc ls (rfv ad k r :: rest)) := by
  cases r with
  | none => exact lv_astoreN hexec hb hdg h hn hl kk
  | some t => exact lv_astore hexec hb hdg h hn hl kk
theorem r_ifnull (hexec : p.tables.exec = Jvm.exec) (hb : c.code = cc) {k : Nat} {r : Option Nat} {off : Int} {tgt : Nat} (hdg : decode cc pc = .ok (.ifnull off, 3)) (ht : (pc : Int) + off = (tgt : Int))
    (kt : r = none → W p l e R s m args below meth c H locs cells slots Q (F0 m tgt ls rest)) (kf : ∀ t, r = some t → W p l e R s m args below meth c H locs cells slots Q (F0 m (pc + 3) ls rest)) : W p l e R s m args below meth c H locs cells slots Q (F0 m pc ls (rfv ad k r :: rest)) := by
  cases r with
  | none => exact lv_ifnullN hexec hb hdg ht (kt rfl)
  | some t => exact lv_ifnull hexec hb hdg (kf t rfl)
theorem r_ifnonnull (hexec : p.tables.exec = Jvm.exec) (hb : c.code = cc) {k : Nat} {r : Option Nat} {off : Int} {tgt : Nat} (hdg : decode cc pc = .ok (.ifnonnull off, 3)) (ht : (pc : Int) + off = (tgt : Int))
    (kt : ∀ t, r = some t → W p l e R s m args below meth c H locs cells slots Q (F0 m tgt ls rest)) (kf : r = none → W p l e R s m args below meth c H locs cells slots Q (F0 m (pc + 3) ls rest)) : W p l e R s m args below meth c H locs cells slots Q (F0 m pc ls (rfv ad k r :: rest)) := by
  cases r with
  | none => exact lv_ifnonnullN hexec hb hdg (kf rfl)
  | some t => exact lv_ifnonnull hexec hb hdg ht (kt t rfl)
theorem rfv_rf (ad : Nat → Nat → Nat) (k : Nat) (r : Option Nat) : rfv ad k r = va_rf (r.map (ad k)) := by cases r <;> rfl
theorem r_inj (hM : mSt D dA base M ad H0 H locs) {k : Nat} {x y : Option Nat} (hx : ∀ q, x = some q → q < gn M k) (hy : ∀ q, y = some q → q < gn M k) : x.map (ad k) = y.map (ad k) ↔ x = y := by
  constructor
  · intro h
    cases x with
    | none => cases y with
      | none => rfl
      | some b => cases h
    | some a => cases y with
      | none => cases h
      | some b =>
        have h2 : ad k a = ad k b := Option.some.inj h
        rw [(hM.1.2.1 k a k b (hx a rfl) (hy b rfl) h2).2]
  · intro h
    rw [h]
theorem r_acmp_eq (hexec : p.tables.exec = Jvm.exec) (hb : c.code = cc) (hM : mSt D dA base M ad H0 H locs) {k : Nat} {rx ry : Option Nat} (hx : ∀ q, rx = some q → q < gn M k) (hy : ∀ q, ry = some q → q < gn M k) {off : Int} {tgt : Nat} (hdg : decode cc pc = .ok (.if_acmp .eq off, 3)) (ht : (pc : Int) + off = (tgt : Int))
    (kt : rx = ry → W p l e R s m args below meth c H locs cells slots Q (F0 m tgt ls rest)) (kf : ¬ rx = ry → W p l e R s m args below meth c H locs cells slots Q (F0 m (pc + 3) ls rest)) : W p l e R s m args below meth c H locs cells slots Q (F0 m pc ls (rfv ad k ry :: rfv ad k rx :: rest)) := by
  rw [rfv_rf, rfv_rf]
  exact lv_acmp_eq hexec hb hdg ht (fun h => kt ((r_inj hM hx hy).mp h)) (fun h => kf (fun z => h ((r_inj hM hx hy).mpr z)))
theorem r_acmp_ne (hexec : p.tables.exec = Jvm.exec) (hb : c.code = cc) (hM : mSt D dA base M ad H0 H locs) {k : Nat} {rx ry : Option Nat} (hx : ∀ q, rx = some q → q < gn M k) (hy : ∀ q, ry = some q → q < gn M k) {off : Int} {tgt : Nat} (hdg : decode cc pc = .ok (.if_acmp .ne off, 3)) (ht : (pc : Int) + off = (tgt : Int))
    (kt : ¬ rx = ry → W p l e R s m args below meth c H locs cells slots Q (F0 m tgt ls rest)) (kf : rx = ry → W p l e R s m args below meth c H locs cells slots Q (F0 m (pc + 3) ls rest)) : W p l e R s m args below meth c H locs cells slots Q (F0 m pc ls (rfv ad k ry :: rfv ad k rx :: rest)) := by
  rw [rfv_rf, rfv_rf]
  exact lv_acmp_ne hexec hb hdg ht (fun h => kt (fun z => h ((r_inj hM hx hy).mpr z))) (fun h => kf ((r_inj hM hx hy).mp h))
def dv (t : Nat) : Value := match t with
  | 0 => .int 0
  | 1 => .long 0
  | _ + 2 => .null
theorem mRep_new {H1 : Heap} (h : mRep D dA base M ad H) {k q : Nat} (hq : H.size ≤ q) (hba : base ≤ q) (hc : mcell D dA k q (fun j => dv (ft k j)) H1) (ho : ∀ x : Nat, x < H.size → H1[x]? = H[x]?) : mRep D dA base (sn M k) (fun a b => if a = k ∧ b = gn M k then q else ad a b) H1 := by
  have hold : ∀ a b, b < gn M a → ¬ (a = k ∧ b = gn M k) := fun a b hb z => by
    obtain ⟨rfl, rfl⟩ := z
    exact Nat.lt_irrefl _ hb
  have hlive : ∀ a b, b < gn (sn M k) a → (a = k ∧ b = gn M k) ∨ b < gn M a := by
    intro a b hb
    rw [gn_sn] at hb
    by_cases ha : a = k
    · subst ha
      rw [if_pos rfl] at hb
      by_cases h2 : b = gn M a
      · exact Or.inl ⟨rfl, h2⟩
      · exact Or.inr (by omega)
    · rw [if_neg ha] at hb
      exact Or.inr hb
  have hmv : ∀ a b, b < gn M a → mv (sn M k) (fun a b => if a = k ∧ b = gn M k then q else ad a b) a b = mv M ad a b := by
    intro a b hb
    funext j
    have h3 := hold a b hb
    cases hf : ft a j with
    | zero => rw [mv_i hf, mv_i hf, gi_sn, if_neg h3]
    | succ n =>
      cases n with
      | zero => rw [mv_l hf, mv_l hf, gl_sn, if_neg h3]
      | succ t =>
        rw [mv_r hf, mv_r hf, gr_sn, if_neg h3]
        cases hr : gr M a b j with
        | none => rfl
        | some z =>
          have hz := h.2.2 a b j t z hb hf hr
          show Value.ref _ = Value.ref _
          dsimp only
          rw [if_neg (hold t z hz)]
  refine ⟨fun a b hb => ?_, fun a b a' b' hb hb' he => ?_, fun a b j t z hb hf hr => ?_⟩
  · rcases hlive a b hb with ⟨rfl, rfl⟩ | h2
    · have hq0 : (fun x y => if x = a ∧ y = gn M a then q else ad x y) a (gn M a) = q := if_pos ⟨rfl, rfl⟩
      rw [hq0]
      refine ⟨hba, ?_⟩
      have : mv (sn M a) (fun x y => if x = a ∧ y = gn M a then q else ad x y) a (gn M a) = fun j => dv (ft a j) := by
        funext j
        cases hf : ft a j with
        | zero => rw [mv_i hf, gi_sn, if_pos ⟨rfl, rfl⟩]; rfl
        | succ n =>
          cases n with
          | zero => rw [mv_l hf, gl_sn, if_pos ⟨rfl, rfl⟩]; rfl
          | succ t => rw [mv_r hf, gr_sn, if_pos ⟨rfl, rfl⟩]; rfl
      rw [this]
      exact hc
    · have hq0 : (fun x y => if x = k ∧ y = gn M k then q else ad x y) a b = ad a b := if_neg (hold a b h2)
      rw [hq0, hmv a b h2]
      exact ⟨(h.1 a b h2).1, (h.1 a b h2).2.kept (ho _ (h.1 a b h2).2.lt)⟩
  · dsimp only at he
    rcases hlive a b hb with h2 | h2 <;> rcases hlive a' b' hb' with h3 | h3
    · exact ⟨h2.1.trans h3.1.symm, h2.2.trans h3.2.symm⟩
    · exfalso
      rw [if_pos h2, if_neg (hold a' b' h3)] at he
      have := (h.1 a' b' h3).2.lt
      omega
    · exfalso
      rw [if_neg (hold a b h2), if_pos h3] at he
      have := (h.1 a b h2).2.lt
      omega
    · rw [if_neg (hold a b h2), if_neg (hold a' b' h3)] at he
      exact h.2.1 a b a' b' h2 h3 he
  · rw [gr_sn] at hr
    rcases hlive a b hb with h2 | h2
    · rw [if_pos h2] at hr
      cases hr
    · rw [if_neg (hold a b h2)] at hr
      have := h.2.2 a b j t z h2 hf hr
      rw [gn_sn]
      by_cases htk : t = k
      · subst htk
        rw [if_pos rfl]
        omega
      · rw [if_neg htk]
        exact this
theorem mSt_new {H1 : Heap} (hM : mSt D dA base M ad H0 H locs) {k q : Nat} (hq : q = H.size) (hc : mcell D dA k q (fun j => dv (ft k j)) H1) (hz : H.size ≤ H1.size) (ho : ∀ x : Nat, x < H.size → H1[x]? = H[x]?) : mSt D dA base (sn M k) (fun a b => if a = k ∧ b = gn M k then q else ad a b) H0 H1 locs := by
  have h1 : base ≤ H.size := Nat.le_trans hM.2.2 hM.2.1.1
  refine ⟨mRep_new hM.1 (by omega) (by omega) hc ho, ⟨Nat.le_trans hM.2.1.1 hz, fun x h2 h3 => (ho x (Nat.lt_of_lt_of_le h2 hM.2.1.1)).trans (hM.2.1.2.1 x h2 h3), hM.2.1.2.2⟩, hM.2.2⟩
/-- new: what it needs -/
def nLk (own : String) (idx k N : Nat) : Prop := ∃ (ci : Nat) (C : String) (T : u_T) (ty0 : Nat → FieldType), sh k = .inl ci ∧ classes[ci]? = some (C, T, N) ∧ (∀ w ∈ u_ws C T N, w ∈ gw) ∧ (∀ j, j < N → parseFieldDescriptor (T j).2.2.1 = some (ty0 j)) ∧ (∀ j, j < N → defaultValue (ty0 j) = dv (ft k j)) ∧ Cond.classLink own idx C ∈ gw ∧ Cond.instantiable C N ∈ gw ∧ Cond.initialized C ∈ gw
theorem r_new (X : mCx D dA base p s m args c cc own) (hM : mSt D dA base M ad H0 H locs) {k idx N : Nat} (hN : nLk own idx k N) (hcells : cells + 1 ≤ R.cells) (hslots : slots + N ≤ R.slots) (hdg : decode cc pc = .ok (.new idx, 3))
    (kk : ∀ (q : Nat) (H1 : Heap) (ad' : Nat → Nat → Nat), mSt D dA base (sn M k) ad' H0 H1 locs → (∀ a b, b < gn M a → ad' a b = ad a b) → ad' k (gn M k) = q → W p l e R s m args below meth c H1 locs (cells + 1) (slots + N) Q (F0 m (pc + 3) ls (.ref q :: rest))) : W p l e R s m args below meth c H locs cells slots Q (F0 m pc ls rest) := by
  obtain ⟨hexec, hb, hown, hts, hK, -⟩ := X
  obtain ⟨ci, C, T, ty0, hs, hc, hin, hty, hdv, w1, w2, w3⟩ := hN
  have hKn := hK.1 ci _ hc
  refine W.newcK hexec hb hown (hts _ w1) (hts _ w2) (hts _ w3) rfl hdg hcells hslots hKn.2.1 rfl fun H1 kC hkC e1 z1 o1 => ?_
  refine kk H.size H1 _ (mSt_new (k := k) hM rfl ?_ (by omega) o1) (fun a b hb => if_neg (fun z => ?_)) (if_pos ⟨rfl, rfl⟩)
  · unfold mcell
    rw [hs]
    exact ⟨_, hc, (u_born ty0 hts hin hKn hkC e1 hty).to (fun j hj => hdv j hj)⟩
  · obtain ⟨rfl, rfl⟩ := z
    exact Nat.lt_irrefl _ hb
theorem r_newi (X : mCx D dA base p s m args c cc own) (hM : mSt D dA base M ad H0 H locs) {k t n : Nat} (hA : aLk k t n .int) (h0 : ∀ j, ft k j = 0) (hw : Cond.arrayClass .int ∈ gw) {x : Int32} (hx : x = nI n) (hby : n * 4 ≤ 536870912) (hcells : cells + 1 ≤ R.cells) (hslots : slots + n ≤ R.slots) (hdg : decode cc pc = .ok (.newarray .int, 2))
    (kk : ∀ (q : Nat) (H1 : Heap) (ad' : Nat → Nat → Nat), mSt D dA base (sn M k) ad' H0 H1 locs → (∀ a b, b < gn M a → ad' a b = ad a b) → ad' k (gn M k) = q → W p l e R s m args below meth c H1 locs (cells + 1) (slots + n) Q (F0 m (pc + 2) ls (.ref q :: rest))) : W p l e R s m args below meth c H locs cells slots Q (F0 m pc ls (.int x :: rest)) := by
  obtain ⟨hexec, hb, hown, hts, hK, -⟩ := X
  obtain ⟨hs, hn, ht⟩ := hA
  subst hx
  refine va_newaK (atype := .int) hexec hb (hts _ hw) rfl hdg rfl (nI_pos hn) (nI_clamp hn) hby hcells hslots rfl fun H1 cA e1 z1 o1 hAr hNm => ?_
  have hcA : cA = dA t := by
    have h8 := (hK.2 t _ (ht dA)).2
    exact Option.some.inj (hNm.symm.trans h8)
  subst hcA
  refine kk H.size H1 _ (mSt_new (k := k) hM rfl ?_ (by omega) o1) (fun a b hb => if_neg (fun z => ?_)) (if_pos ⟨rfl, rfl⟩)
  · unfold mcell
    rw [hs]
    rw [show (fun j => dv (ft k j)) = (fun _ => Value.int 0) from funext fun j => by rw [h0]; rfl]
    exact e1
  · obtain ⟨rfl, rfl⟩ := z
    exact Nat.lt_irrefl _ hb
theorem r_newl (X : mCx D dA base p s m args c cc own) (hM : mSt D dA base M ad H0 H locs) {k t n : Nat} (hA : aLk k t n .long) (h0 : ∀ j, ft k j = 1) (hw : Cond.arrayClass .long ∈ gw) {x : Int32} (hx : x = nI n) (hby : n * 8 ≤ 536870912) (hcells : cells + 1 ≤ R.cells) (hslots : slots + n ≤ R.slots) (hdg : decode cc pc = .ok (.newarray .long, 2))
    (kk : ∀ (q : Nat) (H1 : Heap) (ad' : Nat → Nat → Nat), mSt D dA base (sn M k) ad' H0 H1 locs → (∀ a b, b < gn M a → ad' a b = ad a b) → ad' k (gn M k) = q → W p l e R s m args below meth c H1 locs (cells + 1) (slots + n) Q (F0 m (pc + 2) ls (.ref q :: rest))) : W p l e R s m args below meth c H locs cells slots Q (F0 m pc ls (.int x :: rest)) := by
  obtain ⟨hexec, hb, hown, hts, hK, -⟩ := X
  obtain ⟨hs, hn, ht⟩ := hA
  subst hx
  refine va_newaK (atype := .long) hexec hb (hts _ hw) rfl hdg rfl (nI_pos hn) (nI_clamp hn) hby hcells hslots rfl fun H1 cA e1 z1 o1 hAr hNm => ?_
  have hcA : cA = dA t := by
    have h8 := (hK.2 t _ (ht dA)).2
    exact Option.some.inj (hNm.symm.trans h8)
  subst hcA
  refine kk H.size H1 _ (mSt_new (k := k) hM rfl ?_ (by omega) o1) (fun a b hb => if_neg (fun z => ?_)) (if_pos ⟨rfl, rfl⟩)
  · unfold mcell
    rw [hs]
    rw [show (fun j => dv (ft k j)) = (fun _ => Value.long 0) from funext fun j => by rw [h0]; rfl]
    exact e1
  · obtain ⟨rfl, rfl⟩ := z
    exact Nat.lt_irrefl _ hb
theorem r_newq (X : mCx D dA base p s m args c cc own) (hM : mSt D dA base M ad H0 H locs) {k t n u idx : Nat} {C : String} (hA : aLk k t n (.object C)) (h0 : ∀ j, ft k j = u + 2) (hw : Cond.arrayOver (.object C) ∈ gw) (hw2 : Cond.classLink own idx C ∈ gw) {x : Int32} (hx : x = nI n) (hby : n * 4 ≤ 536870912) (hcells : cells + 1 ≤ R.cells) (hslots : slots + n ≤ R.slots) (hdg : decode cc pc = .ok (.anewarray idx, 3))
    (kk : ∀ (q : Nat) (H1 : Heap) (ad' : Nat → Nat → Nat), mSt D dA base (sn M k) ad' H0 H1 locs → (∀ a b, b < gn M a → ad' a b = ad a b) → ad' k (gn M k) = q → W p l e R s m args below meth c H1 locs (cells + 1) (slots + n) Q (F0 m (pc + 3) ls (.ref q :: rest))) : W p l e R s m args below meth c H locs cells slots Q (F0 m pc ls (.int x :: rest)) := by
  obtain ⟨hexec, hb, hown, hts, hK, -⟩ := X
  obtain ⟨hs, hn, ht⟩ := hA
  subst hx
  have hcl : (nI n).toNatClampNeg = n := nI_clamp hn
  refine W.anew hexec hb hown (hts _ hw2) (hts _ hw) rfl hdg rfl (nI_pos hn) (by rw [hcl]; exact hby) hcells (by rw [hcl]; exact hslots) fun cA kA comp f1 f2 f3 f4 => ?_
  generalize hH1 : H.push ({ cls := cA, slots := Array.replicate (nI n).toNatClampNeg .null, vm := .none } : Cell) = H1
  have z1 : H1.size = H.size + 1 := by rw [← hH1, Array.size_push]
  have e1 : H1[H.size]? = some (arrV cA n (fun _ => .null)) := by rw [← hH1, Array.getElem?_push_size, ← arrV_new, hcl]
  have o1 : ∀ q : Nat, q < H.size → H1[q]? = H[q]? := fun q hq => by rw [← hH1, Array.getElem?_push, if_neg (Nat.ne_of_lt hq)]
  obtain ⟨kA', comp', k1, k2, k3, k4⟩ := (hK.2 t _ (ht dA)).2
  have hcA : cA = dA t := Option.some.inj (f1.symm.trans k4)
  subst hcA
  rw [hcl]
  refine kk H.size H1 _ (mSt_new (k := k) hM rfl ?_ (by omega) o1) (fun a b hb => if_neg (fun z => ?_)) (if_pos ⟨rfl, rfl⟩)
  · unfold mcell
    rw [hs]
    rw [show (fun j => dv (ft k j)) = (fun _ => Value.null) from funext fun j => by rw [h0]; rfl]
    exact e1
  · obtain ⟨rfl, rfl⟩ := z
    exact Nat.lt_irrefl _ hb
end MROWS2
end
section
theorem okW_move {w : Cond} (h : okW w = true) {s U : State} {a a' : Array Value} (hW : s.WarmedH U.vm) (hb : w.before a s = true) : w.before a' U = true := by
  by_cases hg : goodWord w = true
  · exact word_at hW (good_of_word hg) hb
  · cases w with
    | fieldLinkNest x i b n d h => exact va_Nw.use rfl (va_Nw.warmF hW (va_Nw.of rfl hb))
    | methodLinkNest x i y h => exact va_Nw.use rfl (va_Nw.warmM hW (va_Nw.of rfl hb))
    | castable x y => exact va_Nw.use rfl (va_Nw.warmC hW (va_Nw.of rfl hb))
    | declares x => exact va_Nw.use rfl (va_Nw.warmD hW (va_Nw.of rfl hb))
    | arrayOver ty =>
      cases ty with
      | object C => exact va_AO.use (va_AO.moved hW.alike (va_AO.of hb))
      | _ => exact absurd h hg
    | _ => exact absurd h hg
def mWd (U : State) : Prop := ∀ w ∈ gw, ∀ a : Array Value, w.before a U = true
theorem mWd_move {s U : State} (hW : s.WarmedH U.vm) (h : mWd s) : mWd U := fun w hw _ => okW_move (gw_ok w hw) hW (h w hw #[])
def mPre (D : va_G) (dA : Nat → ClassId) (base : Nat) (M : mM) (ad : Nat → Nat → Nat) (as : List Value) : Array Value → State → Prop := fun v U => v = as.toArray ∧ mWd U ∧ mK D dA U ∧ mZ base U ∧ mRep D dA base M ad U.heap ∧ base ≤ U.heap.size
/-- names that were live stay where they are -/
def mExt (M : mM) (ad : Nat → Nat → Nat) (M' : mM) (ad' : Nat → Nat → Nat) : Prop := (∀ a b, b < gn M a → ad' a b = ad a b) ∧ ∀ a, gn M a ≤ gn M' a
theorem mExt_rf (M : mM) (ad : Nat → Nat → Nat) : mExt M ad M ad := ⟨fun _ _ _ => rfl, fun _ => Nat.le_refl _⟩
theorem mExt_tr {M M1 M2 : mM} {ad ad1 ad2 : Nat → Nat → Nat} (h : mExt M ad M1 ad1) (h2 : mExt M1 ad1 M2 ad2) : mExt M ad M2 ad2 := ⟨fun a b hb => (h2.1 a b (Nat.lt_of_lt_of_le hb (h.2 a))).trans (h.1 a b hb), fun a => Nat.le_trans (h.2 a) (h2.2 a)⟩
def mPost (D : va_G) (dA : Nat → ClassId) (base : Nat) (M : mM) (ad : Nat → Nat → Nat) (P : Option Value → mM → (Nat → Nat → Nat) → Prop) : Array Value → State → Outcome → State → Prop := fun _ st oc t => ∃ (rv : Option Value) (M' : mM) (ad' : Nat → Nat → Nat), oc = .returned rv ∧ P rv M' ad' ∧ mRep D dA base M' ad' t.heap ∧ mExt M ad M' ad' ∧ va_F (fun q => base ≤ q) st t
/-- A CONTRACT: from every heap that holds the memory M (names at ad), with the arguments 'as': it returns, and P says what, and which memory the heap holds then. At most mc cells of ms slots come. -/
def mMet (l : Launch) (y : MethodName) (cc : ByteArray) (maxL : Nat) (ret : Option FieldType) (rm : Room) (mc ms : Nat) (D : va_G) (dA : Nat → ClassId) (base : Nat) (M : mM) (ad : Nat → Nat → Nat) (as : List Value) (P : Option Value → mM → (Nat → Nat → Nat) → Prop) : Prop :=
  Met l y [.code y cc maxL ret] rm (mPre D dA base M ad as) (mPost D dA base M ad P) mc ms (fun q => base ≤ q)
theorem mZ_move {base : Nat} {s U : State} (hW : s.WarmedH U.vm) (hz : ∀ q : Nat, q < s.heap.size → ¬ base ≤ q → U.heap[q]? = s.heap[q]?) (h : mZ base s) : mZ base U :=
  ⟨vx_Zq.moved hW.alike (h.1.kept hz), vx_Zq.moved hW.alike (h.2.1.kept hz), fun x hx => (h.2.2 x hx).elim fun sa hs => ⟨sa, vk_R.warm hW hs⟩⟩
theorem mPre_blind {D : va_G} {dA : Nat → ClassId} {base : Nat} {M : mM} {ad : Nat → Nat → Nat} {as : List Value} : FrameBlind (mPre D dA base M ad as) := fun a U g mk h => ⟨h.1, mWd_move (U := U.calling g mk a) (State.WarmedH.refl U) h.2.1, va_K.moved (u := U) (U := U.calling g mk a) (Vm.Alike.refl U.vm) h.2.2.1, mZ_move (U := U.calling g mk a) (State.WarmedH.refl U) (fun _ _ _ => rfl) h.2.2.2.1, h.2.2.2.2.1, h.2.2.2.2.2⟩
theorem m_start {l : Launch} {y : MethodName} {cc : ByteArray} {maxL : Nat} {ret : Option FieldType} {rm : Room} {mc ms : Nat} {D : va_G} {dA : Nat → ClassId} {base : Nat} {M : mM} {ad : Nat → Nat → Nat} {as : List Value} {P : Option Value → mM → (Nat → Nat → Nat) → Prop} (hy : plainName y.cls = true) (hlen : (lg_sl as).length ≤ maxL) {lvs : List (Nat × Value)} (hlv : lv_args 0 as = lvs)
    (body : ∀ (p : Program) (e : Env) (s : State) (m : MethodId) (below : List Frame) (meth : Method) (c : Code) (ls : Array Slot), mCx D dA base p s m as.toArray c cc y.cls → meth.sig.returnType = ret → meth.locks = false → meth.name = y.name → c.maxLocals = maxL → mSt D dA base M ad s.heap s.heap [] → lv_has ls maxL lvs →
      W p l e rm s m as.toArray below meth c s.heap [] 0 0 (MQ below (mPost D dA base M ad P) as.toArray s mc ms (fun q => base ≤ q)) (F0 m 0 ls [])) : mMet l y cc maxL ret rm mc ms D dA base M ad as P := by
  refine Met.ofW (cc := cc) (maxL := maxL) (ret := ret) hy rfl ?_
  intro p e s m args below meth c s₁ B hml hv
  obtain ⟨rfl, hwd, hK, hZ, hR, hbs⟩ := hv
  have hl := lv_entry as (n := maxL) hlen
  rw [lg_entry_eq]
  rw [hlv] at hl
  exact body p e s m below meth c _ ⟨B.exec, B.bytes, findClass_of_methodNamed B.named, fun w hw => hwd w hw _, hK, hZ⟩ B.returns B.notSynchronized (name_of_methodNamed B.named B.method).1 hml ⟨hR, va_S.rf, hbs⟩ hl
section MRET
variable {p : Program} {l : Launch} {e : Env} {R : Room} {s : State} {m : MethodId} {args : Array Value} {below : List Frame} {meth : Method} {c : Code} {H : Heap} {locs : List Loc} {cells slots : Nat} {Q : State → Prop}
variable {cc : ByteArray} {pc : Nat} {ls : Array Slot} {rest : List Value} {D : va_G} {dA : Nat → ClassId} {base : Nat} {M M' : mM} {ad ad' : Nat → Nat → Nat} {own : String} {H0 : Heap} {P : Option Value → mM → (Nat → Nat → Nat) → Prop} {mc ms : Nat}
theorem m_iret (X : mCx D dA base p s m args c cc own) (hr : meth.sig.returnType = some .int) (hlk : meth.locks = false) (hM : mSt D dA base M' ad' s.heap H locs) {v : Int32} (hdg : decode cc pc = .ok (.ireturn, 1)) (hcs : cells ≤ mc ∧ slots ≤ ms) (hE : mExt M ad M' ad') (hP : P (some (.int v)) M' ad') :
    W p l e R s m args below meth c H locs cells slots (MQ below (mPost D dA base M ad P) args s mc ms (fun q => base ≤ q)) (F0 m pc ls [.int v]) :=
  W.widen hcs.1 hcs.2 (W.iret X.1 X.2.1 hr (fun t ht _ => ⟨_, M', ad', rfl, hP, by rw [ht]; exact hM.1, hE, hM.2.1.F ht⟩) hM.2.1.2.2 hdg hlk)
theorem m_zret (X : mCx D dA base p s m args c cc own) {ty : FieldType} (hr : meth.sig.returnType = some ty) (hlk : meth.locks = false) (hM : mSt D dA base M' ad' s.heap H locs) {v : Int32} (hn : narrow ty (.int v) = .int v) (hdg : decode cc pc = .ok (.ireturn, 1)) (hcs : cells ≤ mc ∧ slots ≤ ms) (hE : mExt M ad M' ad') (hP : P (some (.int v)) M' ad') :
    W p l e R s m args below meth c H locs cells slots (MQ below (mPost D dA base M ad P) args s mc ms (fun q => base ≤ q)) (F0 m pc ls [.int v]) :=
  W.widen hcs.1 hcs.2 (W.zret X.1 X.2.1 hr hn (fun t ht _ => ⟨_, M', ad', rfl, hP, by rw [ht]; exact hM.1, hE, hM.2.1.F ht⟩) hM.2.1.2.2 hdg hlk)
theorem m_vret (X : mCx D dA base p s m args c cc own) (hr : meth.sig.returnType = none) (hlk : meth.locks = false) (hM : mSt D dA base M' ad' s.heap H locs) (hdg : decode cc pc = .ok (.return_, 1)) (hcs : cells ≤ mc ∧ slots ≤ ms) (hE : mExt M ad M' ad') (hP : P none M' ad') :
    W p l e R s m args below meth c H locs cells slots (MQ below (mPost D dA base M ad P) args s mc ms (fun q => base ≤ q)) (F0 m pc ls []) :=
  W.widen hcs.1 hcs.2 (W.vret X.1 X.2.1 hr (fun t ht _ => ⟨_, M', ad', rfl, hP, by rw [ht]; exact hM.1, hE, hM.2.1.F ht⟩) hM.2.1.2.2 hdg hlk)
theorem m_aret (X : mCx D dA base p s m args c cc own) {C : String} (hr : meth.sig.returnType = some (.object C)) (hlk : meth.locks = false) (hM : mSt D dA base M' ad' s.heap H locs) {v : Value} (hv : v.isRef = true) (hdg : decode cc pc = .ok (.areturn, 1)) (hcs : cells ≤ mc ∧ slots ≤ ms) (hE : mExt M ad M' ad') (hP : P (some v) M' ad') :
    W p l e R s m args below meth c H locs cells slots (MQ below (mPost D dA base M ad P) args s mc ms (fun q => base ≤ q)) (F0 m pc ls [v]) :=
  W.widen hcs.1 hcs.2 (W.aret X.1 X.2.1 hr (Or.inl ⟨C, rfl⟩) (by cases v <;> simp_all [Value.isRef]) (fun t ht _ => ⟨_, M', ad', rfl, hP, by rw [ht]; exact hM.1, hE, hM.2.1.F ht⟩) hM.2.1.2.2 hdg hlk)
theorem r_call {st0 : List Value} {a : Array Value} (hr : va_Run p l e R s m args below meth c H locs cells slots mc ms (F0 m pc ls st0) rest (mPost D dA base M ad P a) (fun q => base ≤ q)) (hM : mSt D dA base M ad H0 H locs)
    (kk : ∀ (rv : Option Value) (M' : mM) (ad' : Nat → Nat → Nat) (H1 : Heap) (locs1 : List Loc), P rv M' ad' → mSt D dA base M' ad' H0 H1 locs1 → mExt M ad M' ad' → W p l e R s m args below meth c H1 locs1 (cells + mc) (slots + ms) Q (F0 m (pc + 3) ls (rv.toList ++ rest))) : W p l e R s m args below meth c H locs cells slots Q (F0 m pc ls st0) := by
  intro T hT X
  obtain ⟨v, st₀, t, T', L, h0, X', hL, e1, e2, ⟨rv, M', ad', hv, hp, hrep, hext, hz, hkeep⟩, st⟩ := hr T hT X
  cases hv
  rw [h0] at hz hkeep
  obtain ⟨t2, a1, b1⟩ := kk v M' ad' T'.heap (locs ++ L) hp ⟨by rw [e1]; exact hrep, ⟨Nat.le_trans hM.2.1.1 (by rw [e1]; exact hz), fun q h1 h2 => by rw [e1, hkeep q (Nat.lt_of_lt_of_le h1 hM.2.1.1) h2]; exact hM.2.1.2.1 q h1 h2, fun q hq => by
      rcases List.mem_append.mp hq with h | h
      · exact hM.2.1.2.2 q h
      · exact hL q h⟩, hM.2.2⟩ hext T' rfl X'
  exact ⟨t2, st t2 a1, b1⟩
/-- what a call's link needs -/
def cLk (own : String) (idx : Nat) (y : MethodName) (cc : ByteArray) (maxL : Nat) (ret : Option FieldType) (n : Nat) : Prop :=
  (Cond.methodLink own idx y ∈ gw ∨ ∃ host, Cond.methodLinkNest own idx y host ∈ gw) ∧ Cond.initialized y.cls ∈ gw ∧ Cond.code y cc maxL ret ∈ gw ∧ y.cls ≠ "java/lang/invoke/MethodHandle" ∧ y.cls ≠ "java/lang/invoke/VarHandle" ∧ (parseMethodDescriptor y.desc).map (fun d => d.parameters.length) = some n
theorem cLk_good {own : String} {idx : Nat} {y : MethodName} {bytes : ByteArray} {maxL n : Nat} {ret : Option FieldType} (h : cLk own idx y bytes maxL ret n) : GoodIn gw [.code y bytes maxL ret] := by
  intro w hw
  rw [List.mem_singleton.mp hw]
  exact ⟨h.2.2.1, Or.inl rfl⟩
theorem cLk_B {own : String} {idx : Nat} {y : MethodName} {bytes : ByteArray} {maxL n : Nat} {ret : Option FieldType} (h : cLk own idx y bytes maxL ret n) (hl : Cond.methodLink own idx y ∈ gw) (hts : ∀ w ∈ gw, w.before args s = true) {rm : Room} (hrc : rm.cells = mc) (hrs : rm.slots = ms) (hR : rm.frames + 1 ≤ R.frames ∧ 8 + (maxL + 11) + rm.locals ≤ R.locals) : CallB R s args own idx y bytes maxL ret [.code y bytes maxL ret] rm mc ms n :=
  callB_of n hts (cLk_good h) rfl hrc hrs (hts _ h.2.1) (hts _ hl) ⟨h.2.2.2.1, h.2.2.2.2.1, h.2.2.2.2.2⟩ hR
theorem cLk_N {own host : String} {idx : Nat} {y : MethodName} {bytes : ByteArray} {maxL n : Nat} {ret : Option FieldType} (h : cLk own idx y bytes maxL ret n) (hl : Cond.methodLinkNest own idx y host ∈ gw) (hts : ∀ w ∈ gw, w.before args s = true) {rm : Room} (hrc : rm.cells = mc) (hrs : rm.slots = ms) (hR : rm.frames + 1 ≤ R.frames ∧ 8 + (maxL + 11) + rm.locals ≤ R.locals) : va_CN R s args own idx y host bytes maxL ret [.code y bytes maxL ret] rm mc ms n :=
  va_cnB n hts (cLk_good h) rfl hrc hrs (va_Nw.of rfl (hts _ hl)) (hts _ h.2.1) ⟨h.2.2.2.1, h.2.2.2.2.1, h.2.2.2.2.2⟩ hR
def kcls (k : Nat) (C : String) : Prop := ∃ (ci : Nat) (r : vw_C), sh k = .inl ci ∧ classes[ci]? = some r ∧ r.1 = C
theorem r_recv (X : mCx D dA base p s m args c cc own) (hM : mSt D dA base M ad H0 H locs) {k i b : Nat} {C : String} (hk : kcls k C) (ha : ad k i = b) (hi : i < gn M k) : ∃ cellB : Cell, H[b]? = some cellB ∧ cellB.vm.isStatics = false ∧ s.vm.findClass C = some cellB.cls := by
  obtain ⟨ci, r, hs, hc, rfl⟩ := hk
  obtain ⟨-, hcell⟩ := hM.1.1 k i hi
  unfold mcell at hcell
  rw [hs] at hcell
  obtain ⟨r', h1, cell, q1, q2, q3, -⟩ := hcell
  subst ha
  exact ⟨cell, q1, by rw [q3]; rfl, by rw [q2]; exact (X.2.2.2.2.1.1 ci r hc).2.1⟩
theorem r_pre (X : mCx D dA base p s m args c cc own) (hM : mSt D dA base M ad s.heap H locs) (as : List Value) (hwd : mWd s) : ∀ U : State, U.heap = H → s.WarmedH U.vm → mPre D dA base M ad as as.toArray U := fun U hU hW => ⟨rfl, mWd_move hW hwd, va_K.moved hW.alike X.2.2.2.2.1, mZ_move hW (fun q h1 h2 => by rw [hU]; exact hM.2.1.2.1 q h1 h2) X.2.2.2.2.2, by rw [hU]; exact hM.1, by rw [hU]; exact Nat.le_trans hM.2.2 hM.2.1.1⟩
theorem X_wd (X : mCx D dA base p s m args c cc own) : mWd s := fun w hw _ => okW_move (gw_ok w hw) (State.WarmedH.refl s) (X.2.2.2.1 w hw)
variable {y : MethodName} {bytes : ByteArray} {maxL nL n idx : Nat} {ret : Option FieldType} {rm : Room} {As : List Value}
/-- a call of an object's method -/
theorem r_cV {k i b : Nat} (X : mCx D dA base p s m args c cc own) (hml : c.maxLocals = nL) (hsz : ls.size = nL) (hM : mSt D dA base M ad s.heap H locs) (hC : mMet l y bytes maxL ret rm mc ms D dA base M ad (.ref b :: As) P) (hk : cLk own idx y bytes maxL ret n) (hk2 : Cond.instanceMethod y ∈ gw ∧ Cond.selects y.cls y y ∈ gw) (hkc : kcls k y.cls) (ha : ad k i = b) (hi : i < gn M k) (hn : As.length = n) (hcat : (rest.map fun v => v.category).sum ≤ 8)
    (hroom : rm.cells = mc ∧ rm.slots = ms ∧ rm.frames + 1 ≤ R.frames ∧ 8 + (maxL + 11) + rm.locals ≤ R.locals) (hcs : cells + mc ≤ R.cells ∧ slots + ms ≤ R.slots) (hdg : decode cc pc = .ok (.invokevirtual idx, 3))
    (kk : ∀ (rv : Option Value) (M' : mM) (ad' : Nat → Nat → Nat) (H1 : Heap) (locs1 : List Loc), P rv M' ad' → mSt D dA base M' ad' s.heap H1 locs1 → mExt M ad M' ad' → W p l e R s m args below meth c H1 locs1 (cells + mc) (slots + ms) Q (F0 m (pc + 3) ls (rv.toList ++ rest))) : W p l e R s m args below meth c H locs cells slots Q (F0 m pc ls (As.reverse ++ .ref b :: rest)) := by
  have hts := X.2.2.2.1
  have hpre : PreV s H y.cls b (mPre D dA base M ad (.ref b :: As)) As := ⟨mPre_blind, r_recv X hM hkc ha hi, r_pre X hM _ (X_wd X)⟩
  rcases hk.1 with hl | ⟨host, hl⟩
  · exact r_call (va_runV ⟨X.1, X.2.1, hml, X.2.2.1, hts⟩ hC ⟨cLk_B hk hl hts hroom.1 hroom.2.1 hroom.2.2, hts _ hk2.1, hts _ hk2.2⟩ hpre rfl hn hsz rfl (lv_room hcat) hdg hcs) hM kk
  · exact r_call (va_runVN ⟨X.1, X.2.1, hml, X.2.2.1, hts⟩ hC ⟨cLk_N hk hl hts hroom.1 hroom.2.1 hroom.2.2, hts _ hk2.1, hts _ hk2.2⟩ hpre rfl hn hsz rfl (lv_room hcat) hdg hcs) hM kk
/-- a call of a static method -/
theorem r_cS (X : mCx D dA base p s m args c cc own) (hml : c.maxLocals = nL) (hsz : ls.size = nL) (hM : mSt D dA base M ad s.heap H locs) (hC : mMet l y bytes maxL ret rm mc ms D dA base M ad As P) (hk : cLk own idx y bytes maxL ret n) (hk2 : Cond.static y ∈ gw) (hn : As.length = n) (hcat : (rest.map fun v => v.category).sum ≤ 8)
    (hroom : rm.cells = mc ∧ rm.slots = ms ∧ rm.frames + 1 ≤ R.frames ∧ 8 + (maxL + 11) + rm.locals ≤ R.locals) (hcs : cells + mc ≤ R.cells ∧ slots + ms ≤ R.slots) (hdg : decode cc pc = .ok (.invokestatic idx, 3))
    (kk : ∀ (rv : Option Value) (M' : mM) (ad' : Nat → Nat → Nat) (H1 : Heap) (locs1 : List Loc), P rv M' ad' → mSt D dA base M' ad' s.heap H1 locs1 → mExt M ad M' ad' → W p l e R s m args below meth c H1 locs1 (cells + mc) (slots + ms) Q (F0 m (pc + 3) ls (rv.toList ++ rest))) : W p l e R s m args below meth c H locs cells slots Q (F0 m pc ls (As.reverse ++ rest)) := by
  have hts := X.2.2.2.1
  have hpre : PreS s H (mPre D dA base M ad As) As := ⟨mPre_blind, r_pre X hM _ (X_wd X)⟩
  rcases hk.1 with hl | ⟨host, hl⟩
  · exact r_call (va_runS ⟨X.1, X.2.1, hml, X.2.2.1, hts⟩ hC ⟨cLk_B hk hl hts hroom.1 hroom.2.1 hroom.2.2, hts _ hk2⟩ hpre rfl hn hsz rfl (lv_room hcat) hdg hcs) hM kk
  · exact r_call (va_runSN ⟨X.1, X.2.1, hml, X.2.2.1, hts⟩ hC ⟨cLk_N hk hl hts hroom.1 hroom.2.1 hroom.2.2, hts _ hk2, trivial⟩ hpre rfl hn hsz rfl (lv_room hcat) hdg hcs) hM kk
/-- a call of a constructor -/
theorem r_cI {b : Nat} (X : mCx D dA base p s m args c cc own) (hml : c.maxLocals = nL) (hsz : ls.size = nL) (hM : mSt D dA base M ad s.heap H locs) (hC : mMet l y bytes maxL none rm mc ms D dA base M ad (.ref b :: As) P) (hk : cLk own idx y bytes maxL none n) (hk2 : y.name = "<init>" ∧ Cond.instanceMethod y ∈ gw) (hn : As.length = n) (hcat : (rest.map fun v => v.category).sum ≤ 8)
    (hroom : rm.cells = mc ∧ rm.slots = ms ∧ rm.frames + 1 ≤ R.frames ∧ 8 + (maxL + 11) + rm.locals ≤ R.locals) (hcs : cells + mc ≤ R.cells ∧ slots + ms ≤ R.slots) (hdg : decode cc pc = .ok (.invokespecial idx, 3))
    (kk : ∀ (rv : Option Value) (M' : mM) (ad' : Nat → Nat → Nat) (H1 : Heap) (locs1 : List Loc), P rv M' ad' → mSt D dA base M' ad' s.heap H1 locs1 → mExt M ad M' ad' → W p l e R s m args below meth c H1 locs1 (cells + mc) (slots + ms) Q (F0 m (pc + 3) ls (rv.toList ++ rest))) : W p l e R s m args below meth c H locs cells slots Q (F0 m pc ls (As.reverse ++ .ref b :: rest)) := by
  have hts := X.2.2.2.1
  have hpre : PreS s H (mPre D dA base M ad (.ref b :: As)) (.ref b :: As) := ⟨mPre_blind, r_pre X hM _ (X_wd X)⟩
  rcases hk.1 with hl | ⟨host, hl⟩
  · exact r_call (va_runI ⟨X.1, X.2.1, hml, X.2.2.1, hts⟩ hC ⟨cLk_B hk hl hts hroom.1 hroom.2.1 hroom.2.2, hk2.1, hts _ hk2.2⟩ hpre rfl hn hsz rfl (lv_room hcat) hdg hcs) hM kk
  · exact r_call (va_runIN ⟨X.1, X.2.1, hml, X.2.2.1, hts⟩ hC ⟨cLk_N hk hl hts hroom.1 hroom.2.1 hroom.2.2, hk2.1, hts _ hk2.2⟩ hpre rfl hn hsz rfl (lv_room hcat) hdg hcs) hM kk
end MRET
end
section
/-! LINKS, by program: what each field, call, new and throw needs of the tables -/
theorem ws_K : ∀ w ∈ u_ws "ScopeKeeper" T_K 12, w ∈ gw := by
  intro w hw
  obtain ⟨k, hk, rfl⟩ := List.mem_map.mp hw
  have hk := List.mem_range.mp hk
  match k, hk with
  | 0, _ => exact gwm (lt1 107 rfl) rfl
  | 1, _ => exact gwm (lt1 109 rfl) rfl
  | 2, _ => exact gwm (lt1 111 rfl) rfl
  | 3, _ => exact gwm (lt1 113 rfl) rfl
  | 4, _ => exact gwm (lt1 115 rfl) rfl
  | 5, _ => exact gwm (lt1 117 rfl) rfl
  | 6, _ => exact gwm (lt1 119 rfl) rfl
  | 7, _ => exact gwm (lt1 121 rfl) rfl
  | 8, _ => exact gwm (lt1 123 rfl) rfl
  | 9, _ => exact gwm (lt1 125 rfl) rfl
  | 10, _ => exact gwm (lt1 127 rfl) rfl
  | 11, _ => exact gwm (lt1 129 rfl) rfl
  | k + 12, h => omega
theorem kc_K : kcls 0 "ScopeKeeper" := ⟨0, _, rfl, rfl, rfl⟩
theorem ws_Sc : ∀ w ∈ u_ws "ScopeKeeper$Script" T_Sc 4, w ∈ gw := by
  intro w hw
  obtain ⟨k, hk, rfl⟩ := List.mem_map.mp hw
  have hk := List.mem_range.mp hk
  match k, hk with
  | 0, _ => exact gwm (lt1 68 rfl) rfl
  | 1, _ => exact gwm (lt1 70 rfl) rfl
  | 2, _ => exact gwm (lt1 72 rfl) rfl
  | 3, _ => exact gwm (lt1 74 rfl) rfl
  | k + 4, h => omega
theorem kc_Sc : kcls 1 "ScopeKeeper$Script" := ⟨1, _, rfl, rfl, rfl⟩
theorem ws_Cl : ∀ w ∈ u_ws "ScopeKeeper$Client" T_Cl 3, w ∈ gw := by
  intro w hw
  obtain ⟨k, hk, rfl⟩ := List.mem_map.mp hw
  have hk := List.mem_range.mp hk
  match k, hk with
  | 0, _ => exact gwm (lt1 88 rfl) rfl
  | 1, _ => exact gwm (lt1 90 rfl) rfl
  | 2, _ => exact gwm (lt1 92 rfl) rfl
  | k + 3, h => omega
theorem kc_Cl : kcls 2 "ScopeKeeper$Client" := ⟨2, _, rfl, rfl, rfl⟩
theorem ws_Tr : ∀ w ∈ u_ws "ScopeKeeper$Trace" T_Tr 2, w ∈ gw := by
  intro w hw
  obtain ⟨k, hk, rfl⟩ := List.mem_map.mp hw
  have hk := List.mem_range.mp hk
  match k, hk with
  | 0, _ => exact gwm (lt1 46 rfl) rfl
  | 1, _ => exact gwm (lt1 48 rfl) rfl
  | k + 2, h => omega
theorem kc_Tr : kcls 3 "ScopeKeeper$Trace" := ⟨3, _, rfl, rfl, rfl⟩
theorem ws_Jb : ∀ w ∈ u_ws "ScopeKeeper$Job" T_Jb 6, w ∈ gw := by
  intro w hw
  obtain ⟨k, hk, rfl⟩ := List.mem_map.mp hw
  have hk := List.mem_range.mp hk
  match k, hk with
  | 0, _ => exact gwm (lt2 40 rfl) rfl
  | 1, _ => exact gwm (lt2 42 rfl) rfl
  | 2, _ => exact gwm (lt2 44 rfl) rfl
  | 3, _ => exact gwm (lt2 46 rfl) rfl
  | 4, _ => exact gwm (lt2 48 rfl) rfl
  | 5, _ => exact gwm (lt2 50 rfl) rfl
  | k + 6, h => omega
theorem kc_Jb : kcls 4 "ScopeKeeper$Job" := ⟨4, _, rfl, rfl, rfl⟩
theorem ws_Rg : ∀ w ∈ u_ws "ScopeKeeper$Registration" T_Rg 6, w ∈ gw := by
  intro w hw
  obtain ⟨k, hk, rfl⟩ := List.mem_map.mp hw
  have hk := List.mem_range.mp hk
  match k, hk with
  | 0, _ => exact gwm (lt2 160 rfl) rfl
  | 1, _ => exact gwm (lt2 162 rfl) rfl
  | 2, _ => exact gwm (lt2 164 rfl) rfl
  | 3, _ => exact gwm (lt2 166 rfl) rfl
  | 4, _ => exact gwm (lt2 168 rfl) rfl
  | 5, _ => exact gwm (lt2 170 rfl) rfl
  | k + 6, h => omega
theorem kc_Rg : kcls 5 "ScopeKeeper$Registration" := ⟨5, _, rfl, rfl, rfl⟩
theorem ws_Ca : ∀ w ∈ u_ws "ScopeKeeper$Cache" T_Ca 3, w ∈ gw := by
  intro w hw
  obtain ⟨k, hk, rfl⟩ := List.mem_map.mp hw
  have hk := List.mem_range.mp hk
  match k, hk with
  | 0, _ => exact gwm (lt2 196 rfl) rfl
  | 1, _ => exact gwm (lt2 198 rfl) rfl
  | 2, _ => exact gwm (lt2 200 rfl) rfl
  | k + 3, h => omega
theorem kc_Ca : kcls 6 "ScopeKeeper$Cache" := ⟨6, _, rfl, rfl, rfl⟩
theorem ws_Wk : ∀ w ∈ u_ws "ScopeKeeper$Worker" T_Wk 7, w ∈ gw := by
  intro w hw
  obtain ⟨k, hk, rfl⟩ := List.mem_map.mp hw
  have hk := List.mem_range.mp hk
  match k, hk with
  | 0, _ => exact gwm (lt2 217 rfl) rfl
  | 1, _ => exact gwm (lt2 219 rfl) rfl
  | 2, _ => exact gwm (lt2 221 rfl) rfl
  | 3, _ => exact gwm (lt2 223 rfl) rfl
  | 4, _ => exact gwm (lt2 225 rfl) rfl
  | 5, _ => exact gwm (lt2 227 rfl) rfl
  | 6, _ => exact gwm (lt2 229 rfl) rfl
  | k + 7, h => omega
theorem kc_Wk : kcls 7 "ScopeKeeper$Worker" := ⟨7, _, rfl, rfl, rfl⟩
theorem f_Tr_9 : fLk "ScopeKeeper$Trace" 9 3 0 := ⟨3, _, _, 2, rfl, rfl, by decide, rfl, ws_Tr, Or.inl (gwm (lt1 42 rfl) rfl)⟩
theorem p_Tr_9 : fFk "ScopeKeeper$Trace" 9 3 0 (.array .int) := ⟨3, _, _, 2, ty_Tr, rfl, rfl, by decide, rfl, ws_Tr, tyk_Tr, nm_Tr, rfl, rfl, rfl, gwm (lt1 42 rfl) rfl⟩
theorem f_K_268 : fLk "ScopeKeeper" 268 3 0 := ⟨3, _, _, 2, rfl, rfl, by decide, rfl, ws_Tr, Or.inr ⟨"ScopeKeeper", gwm (lt1 43 rfl) rfl⟩⟩
theorem f_Tr_15 : fLk "ScopeKeeper$Trace" 15 3 1 := ⟨3, _, _, 2, rfl, rfl, by decide, rfl, ws_Tr, Or.inl (gwm (lt1 44 rfl) rfl)⟩
theorem p_Tr_15 : fPk "ScopeKeeper$Trace" 15 3 1 (.int) := ⟨3, _, _, 2, ty_Tr, rfl, rfl, by decide, rfl, ws_Tr, tyk_Tr, nm_Tr, rfl, rfl, Or.inl (gwm (lt1 44 rfl) rfl)⟩
theorem f_K_265 : fLk "ScopeKeeper" 265 3 1 := ⟨3, _, _, 2, rfl, rfl, by decide, rfl, ws_Tr, Or.inr ⟨"ScopeKeeper", gwm (lt1 45 rfl) rfl⟩⟩
theorem p_K_265 : fPk "ScopeKeeper" 265 3 1 (.int) := ⟨3, _, _, 2, ty_Tr, rfl, rfl, by decide, rfl, ws_Tr, tyk_Tr, nm_Tr, rfl, rfl, Or.inr ⟨"ScopeKeeper", gwm (lt1 45 rfl) rfl⟩⟩
theorem f_Sc_9 : fLk "ScopeKeeper$Script" 9 1 0 := ⟨1, _, _, 4, rfl, rfl, by decide, rfl, ws_Sc, Or.inl (gwm (lt1 57 rfl) rfl)⟩
theorem p_Sc_9 : fPk "ScopeKeeper$Script" 9 1 0 (.int) := ⟨1, _, _, 4, ty_Sc, rfl, rfl, by decide, rfl, ws_Sc, tyk_Sc, nm_Sc, rfl, rfl, Or.inl (gwm (lt1 57 rfl) rfl)⟩
theorem f_Wk_29 : fLk "ScopeKeeper$Worker" 29 1 0 := ⟨1, _, _, 4, rfl, rfl, by decide, rfl, ws_Sc, Or.inr ⟨"ScopeKeeper", gwm (lt1 58 rfl) rfl⟩⟩
theorem p_Wk_29 : fPk "ScopeKeeper$Worker" 29 1 0 (.int) := ⟨1, _, _, 4, ty_Sc, rfl, rfl, by decide, rfl, ws_Sc, tyk_Sc, nm_Sc, rfl, rfl, Or.inr ⟨"ScopeKeeper", gwm (lt1 58 rfl) rfl⟩⟩
theorem f_K_84 : fLk "ScopeKeeper" 84 1 0 := ⟨1, _, _, 4, rfl, rfl, by decide, rfl, ws_Sc, Or.inr ⟨"ScopeKeeper", gwm (lt1 59 rfl) rfl⟩⟩
theorem p_K_84 : fPk "ScopeKeeper" 84 1 0 (.int) := ⟨1, _, _, 4, ty_Sc, rfl, rfl, by decide, rfl, ws_Sc, tyk_Sc, nm_Sc, rfl, rfl, Or.inr ⟨"ScopeKeeper", gwm (lt1 59 rfl) rfl⟩⟩
theorem f_Sc_15 : fLk "ScopeKeeper$Script" 15 1 1 := ⟨1, _, _, 4, rfl, rfl, by decide, rfl, ws_Sc, Or.inl (gwm (lt1 60 rfl) rfl)⟩
theorem p_Sc_15 : fPk "ScopeKeeper$Script" 15 1 1 (.int) := ⟨1, _, _, 4, ty_Sc, rfl, rfl, by decide, rfl, ws_Sc, tyk_Sc, nm_Sc, rfl, rfl, Or.inl (gwm (lt1 60 rfl) rfl)⟩
theorem f_K_87 : fLk "ScopeKeeper" 87 1 1 := ⟨1, _, _, 4, rfl, rfl, by decide, rfl, ws_Sc, Or.inr ⟨"ScopeKeeper", gwm (lt1 61 rfl) rfl⟩⟩
theorem p_K_87 : fPk "ScopeKeeper" 87 1 1 (.int) := ⟨1, _, _, 4, ty_Sc, rfl, rfl, by decide, rfl, ws_Sc, tyk_Sc, nm_Sc, rfl, rfl, Or.inr ⟨"ScopeKeeper", gwm (lt1 61 rfl) rfl⟩⟩
theorem f_Sc_18 : fLk "ScopeKeeper$Script" 18 1 2 := ⟨1, _, _, 4, rfl, rfl, by decide, rfl, ws_Sc, Or.inl (gwm (lt1 62 rfl) rfl)⟩
theorem p_Sc_18 : fPk "ScopeKeeper$Script" 18 1 2 (.int) := ⟨1, _, _, 4, ty_Sc, rfl, rfl, by decide, rfl, ws_Sc, tyk_Sc, nm_Sc, rfl, rfl, Or.inl (gwm (lt1 62 rfl) rfl)⟩
theorem f_Wk_35 : fLk "ScopeKeeper$Worker" 35 1 2 := ⟨1, _, _, 4, rfl, rfl, by decide, rfl, ws_Sc, Or.inr ⟨"ScopeKeeper", gwm (lt1 63 rfl) rfl⟩⟩
theorem p_Wk_35 : fPk "ScopeKeeper$Worker" 35 1 2 (.int) := ⟨1, _, _, 4, ty_Sc, rfl, rfl, by decide, rfl, ws_Sc, tyk_Sc, nm_Sc, rfl, rfl, Or.inr ⟨"ScopeKeeper", gwm (lt1 63 rfl) rfl⟩⟩
theorem f_K_90 : fLk "ScopeKeeper" 90 1 2 := ⟨1, _, _, 4, rfl, rfl, by decide, rfl, ws_Sc, Or.inr ⟨"ScopeKeeper", gwm (lt1 64 rfl) rfl⟩⟩
theorem p_K_90 : fPk "ScopeKeeper" 90 1 2 (.int) := ⟨1, _, _, 4, ty_Sc, rfl, rfl, by decide, rfl, ws_Sc, tyk_Sc, nm_Sc, rfl, rfl, Or.inr ⟨"ScopeKeeper", gwm (lt1 64 rfl) rfl⟩⟩
theorem f_Sc_21 : fLk "ScopeKeeper$Script" 21 1 3 := ⟨1, _, _, 4, rfl, rfl, by decide, rfl, ws_Sc, Or.inl (gwm (lt1 65 rfl) rfl)⟩
theorem p_Sc_21 : fPk "ScopeKeeper$Script" 21 1 3 (.int) := ⟨1, _, _, 4, ty_Sc, rfl, rfl, by decide, rfl, ws_Sc, tyk_Sc, nm_Sc, rfl, rfl, Or.inl (gwm (lt1 65 rfl) rfl)⟩
theorem f_Wk_39 : fLk "ScopeKeeper$Worker" 39 1 3 := ⟨1, _, _, 4, rfl, rfl, by decide, rfl, ws_Sc, Or.inr ⟨"ScopeKeeper", gwm (lt1 66 rfl) rfl⟩⟩
theorem p_Wk_39 : fPk "ScopeKeeper$Worker" 39 1 3 (.int) := ⟨1, _, _, 4, ty_Sc, rfl, rfl, by decide, rfl, ws_Sc, tyk_Sc, nm_Sc, rfl, rfl, Or.inr ⟨"ScopeKeeper", gwm (lt1 66 rfl) rfl⟩⟩
theorem f_K_93 : fLk "ScopeKeeper" 93 1 3 := ⟨1, _, _, 4, rfl, rfl, by decide, rfl, ws_Sc, Or.inr ⟨"ScopeKeeper", gwm (lt1 67 rfl) rfl⟩⟩
theorem p_K_93 : fPk "ScopeKeeper" 93 1 3 (.int) := ⟨1, _, _, 4, ty_Sc, rfl, rfl, by decide, rfl, ws_Sc, tyk_Sc, nm_Sc, rfl, rfl, Or.inr ⟨"ScopeKeeper", gwm (lt1 67 rfl) rfl⟩⟩
theorem f_Cl_7 : fLk "ScopeKeeper$Client" 7 2 0 := ⟨2, _, _, 3, rfl, rfl, by decide, rfl, ws_Cl, Or.inl (gwm (lt1 82 rfl) rfl)⟩
theorem p_Cl_7 : fPk "ScopeKeeper$Client" 7 2 0 (.boolean) := ⟨2, _, _, 3, ty_Cl, rfl, rfl, by decide, rfl, ws_Cl, tyk_Cl, nm_Cl, rfl, rfl, Or.inl (gwm (lt1 82 rfl) rfl)⟩
theorem f_K_163 : fLk "ScopeKeeper" 163 2 0 := ⟨2, _, _, 3, rfl, rfl, by decide, rfl, ws_Cl, Or.inr ⟨"ScopeKeeper", gwm (lt1 83 rfl) rfl⟩⟩
theorem p_K_163 : fPk "ScopeKeeper" 163 2 0 (.boolean) := ⟨2, _, _, 3, ty_Cl, rfl, rfl, by decide, rfl, ws_Cl, tyk_Cl, nm_Cl, rfl, rfl, Or.inr ⟨"ScopeKeeper", gwm (lt1 83 rfl) rfl⟩⟩
theorem f_Cl_13 : fLk "ScopeKeeper$Client" 13 2 1 := ⟨2, _, _, 3, rfl, rfl, by decide, rfl, ws_Cl, Or.inl (gwm (lt1 84 rfl) rfl)⟩
theorem p_Cl_13 : fPk "ScopeKeeper$Client" 13 2 1 (.int) := ⟨2, _, _, 3, ty_Cl, rfl, rfl, by decide, rfl, ws_Cl, tyk_Cl, nm_Cl, rfl, rfl, Or.inl (gwm (lt1 84 rfl) rfl)⟩
theorem f_K_166 : fLk "ScopeKeeper" 166 2 1 := ⟨2, _, _, 3, rfl, rfl, by decide, rfl, ws_Cl, Or.inr ⟨"ScopeKeeper", gwm (lt1 85 rfl) rfl⟩⟩
theorem p_K_166 : fPk "ScopeKeeper" 166 2 1 (.int) := ⟨2, _, _, 3, ty_Cl, rfl, rfl, by decide, rfl, ws_Cl, tyk_Cl, nm_Cl, rfl, rfl, Or.inr ⟨"ScopeKeeper", gwm (lt1 85 rfl) rfl⟩⟩
theorem f_Cl_17 : fLk "ScopeKeeper$Client" 17 2 2 := ⟨2, _, _, 3, rfl, rfl, by decide, rfl, ws_Cl, Or.inl (gwm (lt1 86 rfl) rfl)⟩
theorem p_Cl_17 : fPk "ScopeKeeper$Client" 17 2 2 (.object "ScopeKeeper$Worker") := ⟨2, _, _, 3, ty_Cl, rfl, rfl, by decide, rfl, ws_Cl, tyk_Cl, nm_Cl, rfl, rfl, Or.inl (gwm (lt1 86 rfl) rfl)⟩
theorem f_K_173 : fLk "ScopeKeeper" 173 2 2 := ⟨2, _, _, 3, rfl, rfl, by decide, rfl, ws_Cl, Or.inr ⟨"ScopeKeeper", gwm (lt1 87 rfl) rfl⟩⟩
theorem p_K_173 : fPk "ScopeKeeper" 173 2 2 (.object "ScopeKeeper$Worker") := ⟨2, _, _, 3, ty_Cl, rfl, rfl, by decide, rfl, ws_Cl, tyk_Cl, nm_Cl, rfl, rfl, Or.inr ⟨"ScopeKeeper", gwm (lt1 87 rfl) rfl⟩⟩
theorem f_K_11 : fLk "ScopeKeeper" 11 0 0 := ⟨0, _, _, 12, rfl, rfl, by decide, rfl, ws_K, Or.inl (gwm (lt1 95 rfl) rfl)⟩
theorem p_K_11 : fFk "ScopeKeeper" 11 0 0 (.array (.object "ScopeKeeper$Script")) := ⟨0, _, _, 12, ty_K, rfl, rfl, by decide, rfl, ws_K, tyk_K, nm_K, rfl, rfl, rfl, gwm (lt1 95 rfl) rfl⟩
theorem f_K_15 : fLk "ScopeKeeper" 15 0 1 := ⟨0, _, _, 12, rfl, rfl, by decide, rfl, ws_K, Or.inl (gwm (lt1 96 rfl) rfl)⟩
theorem p_K_15 : fPk "ScopeKeeper" 15 0 1 (.boolean) := ⟨0, _, _, 12, ty_K, rfl, rfl, by decide, rfl, ws_K, tyk_K, nm_K, rfl, rfl, Or.inl (gwm (lt1 96 rfl) rfl)⟩
theorem f_K_19 : fLk "ScopeKeeper" 19 0 2 := ⟨0, _, _, 12, rfl, rfl, by decide, rfl, ws_K, Or.inl (gwm (lt1 97 rfl) rfl)⟩
theorem p_K_19 : fPk "ScopeKeeper" 19 0 2 (.int) := ⟨0, _, _, 12, ty_K, rfl, rfl, by decide, rfl, ws_K, tyk_K, nm_K, rfl, rfl, Or.inl (gwm (lt1 97 rfl) rfl)⟩
theorem f_K_25 : fLk "ScopeKeeper" 25 0 3 := ⟨0, _, _, 12, rfl, rfl, by decide, rfl, ws_K, Or.inl (gwm (lt1 98 rfl) rfl)⟩
theorem p_K_25 : fFk "ScopeKeeper" 25 0 3 (.array (.object "ScopeKeeper$Worker")) := ⟨0, _, _, 12, ty_K, rfl, rfl, by decide, rfl, ws_K, tyk_K, nm_K, rfl, rfl, rfl, gwm (lt1 98 rfl) rfl⟩
theorem f_K_29 : fLk "ScopeKeeper" 29 0 4 := ⟨0, _, _, 12, rfl, rfl, by decide, rfl, ws_K, Or.inl (gwm (lt1 99 rfl) rfl)⟩
theorem p_K_29 : fPk "ScopeKeeper" 29 0 4 (.int) := ⟨0, _, _, 12, ty_K, rfl, rfl, by decide, rfl, ws_K, tyk_K, nm_K, rfl, rfl, Or.inl (gwm (lt1 99 rfl) rfl)⟩
theorem f_K_34 : fLk "ScopeKeeper" 34 0 5 := ⟨0, _, _, 12, rfl, rfl, by decide, rfl, ws_K, Or.inl (gwm (lt1 100 rfl) rfl)⟩
theorem p_K_34 : fFk "ScopeKeeper" 34 0 5 (.array (.object "ScopeKeeper$Registration")) := ⟨0, _, _, 12, ty_K, rfl, rfl, by decide, rfl, ws_K, tyk_K, nm_K, rfl, rfl, rfl, gwm (lt1 100 rfl) rfl⟩
theorem f_K_38 : fLk "ScopeKeeper" 38 0 6 := ⟨0, _, _, 12, rfl, rfl, by decide, rfl, ws_K, Or.inl (gwm (lt1 101 rfl) rfl)⟩
theorem p_K_38 : fPk "ScopeKeeper" 38 0 6 (.int) := ⟨0, _, _, 12, ty_K, rfl, rfl, by decide, rfl, ws_K, tyk_K, nm_K, rfl, rfl, Or.inl (gwm (lt1 101 rfl) rfl)⟩
theorem f_K_43 : fLk "ScopeKeeper" 43 0 7 := ⟨0, _, _, 12, rfl, rfl, by decide, rfl, ws_K, Or.inl (gwm (lt1 102 rfl) rfl)⟩
theorem p_K_43 : fFk "ScopeKeeper" 43 0 7 (.array (.object "ScopeKeeper$Client")) := ⟨0, _, _, 12, ty_K, rfl, rfl, by decide, rfl, ws_K, tyk_K, nm_K, rfl, rfl, rfl, gwm (lt1 102 rfl) rfl⟩
theorem f_K_47 : fLk "ScopeKeeper" 47 0 8 := ⟨0, _, _, 12, rfl, rfl, by decide, rfl, ws_K, Or.inl (gwm (lt1 103 rfl) rfl)⟩
theorem p_K_47 : fFk "ScopeKeeper" 47 0 8 (.array (.object "ScopeKeeper$Worker")) := ⟨0, _, _, 12, ty_K, rfl, rfl, by decide, rfl, ws_K, tyk_K, nm_K, rfl, rfl, rfl, gwm (lt1 103 rfl) rfl⟩
theorem f_K_52 : fLk "ScopeKeeper" 52 0 9 := ⟨0, _, _, 12, rfl, rfl, by decide, rfl, ws_K, Or.inl (gwm (lt1 104 rfl) rfl)⟩
theorem p_K_52 : fFk "ScopeKeeper" 52 0 9 (.array (.object "ScopeKeeper$Job")) := ⟨0, _, _, 12, ty_K, rfl, rfl, by decide, rfl, ws_K, tyk_K, nm_K, rfl, rfl, rfl, gwm (lt1 104 rfl) rfl⟩
theorem f_K_56 : fLk "ScopeKeeper" 56 0 10 := ⟨0, _, _, 12, rfl, rfl, by decide, rfl, ws_K, Or.inl (gwm (lt1 105 rfl) rfl)⟩
theorem p_K_56 : fPk "ScopeKeeper" 56 0 10 (.int) := ⟨0, _, _, 12, ty_K, rfl, rfl, by decide, rfl, ws_K, tyk_K, nm_K, rfl, rfl, Or.inl (gwm (lt1 105 rfl) rfl)⟩
theorem f_K_62 : fLk "ScopeKeeper" 62 0 11 := ⟨0, _, _, 12, rfl, rfl, by decide, rfl, ws_K, Or.inl (gwm (lt1 106 rfl) rfl)⟩
theorem p_K_62 : fFk "ScopeKeeper" 62 0 11 (.object "ScopeKeeper$Trace") := ⟨0, _, _, 12, ty_K, rfl, rfl, by decide, rfl, ws_K, tyk_K, nm_K, rfl, rfl, rfl, gwm (lt1 106 rfl) rfl⟩
theorem f_Jb_19 : fLk "ScopeKeeper$Job" 19 4 0 := ⟨4, _, _, 6, rfl, rfl, by decide, rfl, ws_Jb, Or.inl (gwm (lt2 28 rfl) rfl)⟩
theorem p_Jb_19 : fFk "ScopeKeeper$Job" 19 4 0 (.int) := ⟨4, _, _, 6, ty_Jb, rfl, rfl, by decide, rfl, ws_Jb, tyk_Jb, nm_Jb, rfl, rfl, rfl, gwm (lt2 28 rfl) rfl⟩
theorem f_K_117 : fLk "ScopeKeeper" 117 4 0 := ⟨4, _, _, 6, rfl, rfl, by decide, rfl, ws_Jb, Or.inr ⟨"ScopeKeeper", gwm (lt2 29 rfl) rfl⟩⟩
theorem f_Jb_22 : fLk "ScopeKeeper$Job" 22 4 1 := ⟨4, _, _, 6, rfl, rfl, by decide, rfl, ws_Jb, Or.inl (gwm (lt2 30 rfl) rfl)⟩
theorem p_Jb_22 : fFk "ScopeKeeper$Job" 22 4 1 (.int) := ⟨4, _, _, 6, ty_Jb, rfl, rfl, by decide, rfl, ws_Jb, tyk_Jb, nm_Jb, rfl, rfl, rfl, gwm (lt2 30 rfl) rfl⟩
theorem f_K_111 : fLk "ScopeKeeper" 111 4 1 := ⟨4, _, _, 6, rfl, rfl, by decide, rfl, ws_Jb, Or.inr ⟨"ScopeKeeper", gwm (lt2 31 rfl) rfl⟩⟩
theorem f_Jb_25 : fLk "ScopeKeeper$Job" 25 4 2 := ⟨4, _, _, 6, rfl, rfl, by decide, rfl, ws_Jb, Or.inl (gwm (lt2 32 rfl) rfl)⟩
theorem p_Jb_25 : fFk "ScopeKeeper$Job" 25 4 2 (.int) := ⟨4, _, _, 6, ty_Jb, rfl, rfl, by decide, rfl, ws_Jb, tyk_Jb, nm_Jb, rfl, rfl, rfl, gwm (lt2 32 rfl) rfl⟩
theorem f_K_296 : fLk "ScopeKeeper" 296 4 2 := ⟨4, _, _, 6, rfl, rfl, by decide, rfl, ws_Jb, Or.inr ⟨"ScopeKeeper", gwm (lt2 33 rfl) rfl⟩⟩
theorem f_Jb_28 : fLk "ScopeKeeper$Job" 28 4 3 := ⟨4, _, _, 6, rfl, rfl, by decide, rfl, ws_Jb, Or.inl (gwm (lt2 34 rfl) rfl)⟩
theorem p_Jb_28 : fFk "ScopeKeeper$Job" 28 4 3 (.int) := ⟨4, _, _, 6, ty_Jb, rfl, rfl, by decide, rfl, ws_Jb, tyk_Jb, nm_Jb, rfl, rfl, rfl, gwm (lt2 34 rfl) rfl⟩
theorem f_K_114 : fLk "ScopeKeeper" 114 4 3 := ⟨4, _, _, 6, rfl, rfl, by decide, rfl, ws_Jb, Or.inr ⟨"ScopeKeeper", gwm (lt2 35 rfl) rfl⟩⟩
theorem f_Jb_9 : fLk "ScopeKeeper$Job" 9 4 4 := ⟨4, _, _, 6, rfl, rfl, by decide, rfl, ws_Jb, Or.inl (gwm (lt2 36 rfl) rfl)⟩
theorem p_Jb_9 : fPk "ScopeKeeper$Job" 9 4 4 (.boolean) := ⟨4, _, _, 6, ty_Jb, rfl, rfl, by decide, rfl, ws_Jb, tyk_Jb, nm_Jb, rfl, rfl, Or.inl (gwm (lt2 36 rfl) rfl)⟩
theorem f_K_108 : fLk "ScopeKeeper" 108 4 4 := ⟨4, _, _, 6, rfl, rfl, by decide, rfl, ws_Jb, Or.inr ⟨"ScopeKeeper", gwm (lt2 37 rfl) rfl⟩⟩
theorem p_K_108 : fPk "ScopeKeeper" 108 4 4 (.boolean) := ⟨4, _, _, 6, ty_Jb, rfl, rfl, by decide, rfl, ws_Jb, tyk_Jb, nm_Jb, rfl, rfl, Or.inr ⟨"ScopeKeeper", gwm (lt2 37 rfl) rfl⟩⟩
theorem f_Jb_15 : fLk "ScopeKeeper$Job" 15 4 5 := ⟨4, _, _, 6, rfl, rfl, by decide, rfl, ws_Jb, Or.inl (gwm (lt2 38 rfl) rfl)⟩
theorem p_Jb_15 : fPk "ScopeKeeper$Job" 15 4 5 (.int) := ⟨4, _, _, 6, ty_Jb, rfl, rfl, by decide, rfl, ws_Jb, tyk_Jb, nm_Jb, rfl, rfl, Or.inl (gwm (lt2 38 rfl) rfl)⟩
theorem f_K_147 : fLk "ScopeKeeper" 147 4 5 := ⟨4, _, _, 6, rfl, rfl, by decide, rfl, ws_Jb, Or.inr ⟨"ScopeKeeper", gwm (lt2 39 rfl) rfl⟩⟩
theorem p_K_147 : fPk "ScopeKeeper" 147 4 5 (.int) := ⟨4, _, _, 6, ty_Jb, rfl, rfl, by decide, rfl, ws_Jb, tyk_Jb, nm_Jb, rfl, rfl, Or.inr ⟨"ScopeKeeper", gwm (lt2 39 rfl) rfl⟩⟩
theorem f_Rg_27 : fLk "ScopeKeeper$Registration" 27 5 0 := ⟨5, _, _, 6, rfl, rfl, by decide, rfl, ws_Rg, Or.inl (gwm (lt2 148 rfl) rfl)⟩
theorem p_Rg_27 : fFk "ScopeKeeper$Registration" 27 5 0 (.int) := ⟨5, _, _, 6, ty_Rg, rfl, rfl, by decide, rfl, ws_Rg, tyk_Rg, nm_Rg, rfl, rfl, rfl, gwm (lt2 148 rfl) rfl⟩
theorem f_K_272 : fLk "ScopeKeeper" 272 5 0 := ⟨5, _, _, 6, rfl, rfl, by decide, rfl, ws_Rg, Or.inr ⟨"ScopeKeeper", gwm (lt2 149 rfl) rfl⟩⟩
theorem f_Rg_7 : fLk "ScopeKeeper$Registration" 7 5 1 := ⟨5, _, _, 6, rfl, rfl, by decide, rfl, ws_Rg, Or.inl (gwm (lt2 150 rfl) rfl)⟩
theorem p_Rg_7 : fPk "ScopeKeeper$Registration" 7 5 1 (.int) := ⟨5, _, _, 6, ty_Rg, rfl, rfl, by decide, rfl, ws_Rg, tyk_Rg, nm_Rg, rfl, rfl, Or.inl (gwm (lt2 150 rfl) rfl)⟩
theorem f_K_235 : fLk "ScopeKeeper" 235 5 1 := ⟨5, _, _, 6, rfl, rfl, by decide, rfl, ws_Rg, Or.inr ⟨"ScopeKeeper", gwm (lt2 151 rfl) rfl⟩⟩
theorem p_K_235 : fPk "ScopeKeeper" 235 5 1 (.int) := ⟨5, _, _, 6, ty_Rg, rfl, rfl, by decide, rfl, ws_Rg, tyk_Rg, nm_Rg, rfl, rfl, Or.inr ⟨"ScopeKeeper", gwm (lt2 151 rfl) rfl⟩⟩
theorem f_Rg_13 : fLk "ScopeKeeper$Registration" 13 5 2 := ⟨5, _, _, 6, rfl, rfl, by decide, rfl, ws_Rg, Or.inl (gwm (lt2 152 rfl) rfl)⟩
theorem p_Rg_13 : fPk "ScopeKeeper$Registration" 13 5 2 (.object "ScopeKeeper$Worker") := ⟨5, _, _, 6, ty_Rg, rfl, rfl, by decide, rfl, ws_Rg, tyk_Rg, nm_Rg, rfl, rfl, Or.inl (gwm (lt2 152 rfl) rfl)⟩
theorem f_K_199 : fLk "ScopeKeeper" 199 5 2 := ⟨5, _, _, 6, rfl, rfl, by decide, rfl, ws_Rg, Or.inr ⟨"ScopeKeeper", gwm (lt2 153 rfl) rfl⟩⟩
theorem p_K_199 : fPk "ScopeKeeper" 199 5 2 (.object "ScopeKeeper$Worker") := ⟨5, _, _, 6, ty_Rg, rfl, rfl, by decide, rfl, ws_Rg, tyk_Rg, nm_Rg, rfl, rfl, Or.inr ⟨"ScopeKeeper", gwm (lt2 153 rfl) rfl⟩⟩
theorem f_Rg_17 : fLk "ScopeKeeper$Registration" 17 5 3 := ⟨5, _, _, 6, rfl, rfl, by decide, rfl, ws_Rg, Or.inl (gwm (lt2 154 rfl) rfl)⟩
theorem p_Rg_17 : fPk "ScopeKeeper$Registration" 17 5 3 (.object "ScopeKeeper$Worker") := ⟨5, _, _, 6, ty_Rg, rfl, rfl, by decide, rfl, ws_Rg, tyk_Rg, nm_Rg, rfl, rfl, Or.inl (gwm (lt2 154 rfl) rfl)⟩
theorem f_K_196 : fLk "ScopeKeeper" 196 5 3 := ⟨5, _, _, 6, rfl, rfl, by decide, rfl, ws_Rg, Or.inr ⟨"ScopeKeeper", gwm (lt2 155 rfl) rfl⟩⟩
theorem p_K_196 : fPk "ScopeKeeper" 196 5 3 (.object "ScopeKeeper$Worker") := ⟨5, _, _, 6, ty_Rg, rfl, rfl, by decide, rfl, ws_Rg, tyk_Rg, nm_Rg, rfl, rfl, Or.inr ⟨"ScopeKeeper", gwm (lt2 155 rfl) rfl⟩⟩
theorem f_Rg_20 : fLk "ScopeKeeper$Registration" 20 5 4 := ⟨5, _, _, 6, rfl, rfl, by decide, rfl, ws_Rg, Or.inl (gwm (lt2 156 rfl) rfl)⟩
theorem p_Rg_20 : fPk "ScopeKeeper$Registration" 20 5 4 (.object "ScopeKeeper$Worker") := ⟨5, _, _, 6, ty_Rg, rfl, rfl, by decide, rfl, ws_Rg, tyk_Rg, nm_Rg, rfl, rfl, Or.inl (gwm (lt2 156 rfl) rfl)⟩
theorem f_K_169 : fLk "ScopeKeeper" 169 5 4 := ⟨5, _, _, 6, rfl, rfl, by decide, rfl, ws_Rg, Or.inr ⟨"ScopeKeeper", gwm (lt2 157 rfl) rfl⟩⟩
theorem p_K_169 : fPk "ScopeKeeper" 169 5 4 (.object "ScopeKeeper$Worker") := ⟨5, _, _, 6, ty_Rg, rfl, rfl, by decide, rfl, ws_Rg, tyk_Rg, nm_Rg, rfl, rfl, Or.inr ⟨"ScopeKeeper", gwm (lt2 157 rfl) rfl⟩⟩
theorem f_Rg_23 : fLk "ScopeKeeper$Registration" 23 5 5 := ⟨5, _, _, 6, rfl, rfl, by decide, rfl, ws_Rg, Or.inl (gwm (lt2 158 rfl) rfl)⟩
theorem p_Rg_23 : fPk "ScopeKeeper$Registration" 23 5 5 (.boolean) := ⟨5, _, _, 6, ty_Rg, rfl, rfl, by decide, rfl, ws_Rg, tyk_Rg, nm_Rg, rfl, rfl, Or.inl (gwm (lt2 158 rfl) rfl)⟩
theorem f_K_236 : fLk "ScopeKeeper" 236 5 5 := ⟨5, _, _, 6, rfl, rfl, by decide, rfl, ws_Rg, Or.inr ⟨"ScopeKeeper", gwm (lt2 159 rfl) rfl⟩⟩
theorem p_K_236 : fPk "ScopeKeeper" 236 5 5 (.boolean) := ⟨5, _, _, 6, ty_Rg, rfl, rfl, by decide, rfl, ws_Rg, tyk_Rg, nm_Rg, rfl, rfl, Or.inr ⟨"ScopeKeeper", gwm (lt2 159 rfl) rfl⟩⟩
theorem f_Ca_9 : fLk "ScopeKeeper$Cache" 9 6 0 := ⟨6, _, _, 3, rfl, rfl, by decide, rfl, ws_Ca, Or.inl (gwm (lt2 192 rfl) rfl)⟩
theorem p_Ca_9 : fFk "ScopeKeeper$Cache" 9 6 0 (.array .int) := ⟨6, _, _, 3, ty_Ca, rfl, rfl, by decide, rfl, ws_Ca, tyk_Ca, nm_Ca, rfl, rfl, rfl, gwm (lt2 192 rfl) rfl⟩
theorem f_Ca_15 : fLk "ScopeKeeper$Cache" 15 6 1 := ⟨6, _, _, 3, rfl, rfl, by decide, rfl, ws_Ca, Or.inl (gwm (lt2 193 rfl) rfl)⟩
theorem p_Ca_15 : fFk "ScopeKeeper$Cache" 15 6 1 (.array .int) := ⟨6, _, _, 3, ty_Ca, rfl, rfl, by decide, rfl, ws_Ca, tyk_Ca, nm_Ca, rfl, rfl, rfl, gwm (lt2 193 rfl) rfl⟩
theorem f_Ca_18 : fLk "ScopeKeeper$Cache" 18 6 2 := ⟨6, _, _, 3, rfl, rfl, by decide, rfl, ws_Ca, Or.inl (gwm (lt2 194 rfl) rfl)⟩
theorem p_Ca_18 : fPk "ScopeKeeper$Cache" 18 6 2 (.int) := ⟨6, _, _, 3, ty_Ca, rfl, rfl, by decide, rfl, ws_Ca, tyk_Ca, nm_Ca, rfl, rfl, Or.inl (gwm (lt2 194 rfl) rfl)⟩
theorem f_K_254 : fLk "ScopeKeeper" 254 6 2 := ⟨6, _, _, 3, rfl, rfl, by decide, rfl, ws_Ca, Or.inr ⟨"ScopeKeeper", gwm (lt2 195 rfl) rfl⟩⟩
theorem p_K_254 : fPk "ScopeKeeper" 254 6 2 (.int) := ⟨6, _, _, 3, ty_Ca, rfl, rfl, by decide, rfl, ws_Ca, tyk_Ca, nm_Ca, rfl, rfl, Or.inr ⟨"ScopeKeeper", gwm (lt2 195 rfl) rfl⟩⟩
theorem f_Wk_26 : fLk "ScopeKeeper$Worker" 26 7 0 := ⟨7, _, _, 7, rfl, rfl, by decide, rfl, ws_Wk, Or.inl (gwm (lt2 203 rfl) rfl)⟩
theorem p_Wk_26 : fFk "ScopeKeeper$Worker" 26 7 0 (.int) := ⟨7, _, _, 7, ty_Wk, rfl, rfl, by decide, rfl, ws_Wk, tyk_Wk, nm_Wk, rfl, rfl, rfl, gwm (lt2 203 rfl) rfl⟩
theorem f_K_211 : fLk "ScopeKeeper" 211 7 0 := ⟨7, _, _, 7, rfl, rfl, by decide, rfl, ws_Wk, Or.inr ⟨"ScopeKeeper", gwm (lt2 204 rfl) rfl⟩⟩
theorem f_Wk_34 : fLk "ScopeKeeper$Worker" 34 7 1 := ⟨7, _, _, 7, rfl, rfl, by decide, rfl, ws_Wk, Or.inl (gwm (lt2 205 rfl) rfl)⟩
theorem p_Wk_34 : fFk "ScopeKeeper$Worker" 34 7 1 (.int) := ⟨7, _, _, 7, ty_Wk, rfl, rfl, by decide, rfl, ws_Wk, tyk_Wk, nm_Wk, rfl, rfl, rfl, gwm (lt2 205 rfl) rfl⟩
theorem f_K_216 : fLk "ScopeKeeper" 216 7 1 := ⟨7, _, _, 7, rfl, rfl, by decide, rfl, ws_Wk, Or.inr ⟨"ScopeKeeper", gwm (lt2 206 rfl) rfl⟩⟩
theorem f_Wk_38 : fLk "ScopeKeeper$Worker" 38 7 2 := ⟨7, _, _, 7, rfl, rfl, by decide, rfl, ws_Wk, Or.inl (gwm (lt2 207 rfl) rfl)⟩
theorem p_Wk_38 : fFk "ScopeKeeper$Worker" 38 7 2 (.int) := ⟨7, _, _, 7, ty_Wk, rfl, rfl, by decide, rfl, ws_Wk, tyk_Wk, nm_Wk, rfl, rfl, rfl, gwm (lt2 207 rfl) rfl⟩
theorem f_K_338 : fLk "ScopeKeeper" 338 7 2 := ⟨7, _, _, 7, rfl, rfl, by decide, rfl, ws_Wk, Or.inr ⟨"ScopeKeeper", gwm (lt2 208 rfl) rfl⟩⟩
theorem f_Wk_42 : fLk "ScopeKeeper$Worker" 42 7 3 := ⟨7, _, _, 7, rfl, rfl, by decide, rfl, ws_Wk, Or.inl (gwm (lt2 209 rfl) rfl)⟩
theorem p_Wk_42 : fFk "ScopeKeeper$Worker" 42 7 3 (.int) := ⟨7, _, _, 7, ty_Wk, rfl, rfl, by decide, rfl, ws_Wk, tyk_Wk, nm_Wk, rfl, rfl, rfl, gwm (lt2 209 rfl) rfl⟩
theorem f_K_212 : fLk "ScopeKeeper" 212 7 3 := ⟨7, _, _, 7, rfl, rfl, by decide, rfl, ws_Wk, Or.inr ⟨"ScopeKeeper", gwm (lt2 210 rfl) rfl⟩⟩
theorem f_Wk_12 : fLk "ScopeKeeper$Worker" 12 7 4 := ⟨7, _, _, 7, rfl, rfl, by decide, rfl, ws_Wk, Or.inl (gwm (lt2 211 rfl) rfl)⟩
theorem p_Wk_12 : fFk "ScopeKeeper$Worker" 12 7 4 (.object "ScopeKeeper$Cache") := ⟨7, _, _, 7, ty_Wk, rfl, rfl, by decide, rfl, ws_Wk, tyk_Wk, nm_Wk, rfl, rfl, rfl, gwm (lt2 211 rfl) rfl⟩
theorem f_K_217 : fLk "ScopeKeeper" 217 7 4 := ⟨7, _, _, 7, rfl, rfl, by decide, rfl, ws_Wk, Or.inr ⟨"ScopeKeeper", gwm (lt2 212 rfl) rfl⟩⟩
theorem f_Wk_18 : fLk "ScopeKeeper$Worker" 18 7 5 := ⟨7, _, _, 7, rfl, rfl, by decide, rfl, ws_Wk, Or.inl (gwm (lt2 213 rfl) rfl)⟩
theorem p_Wk_18 : fPk "ScopeKeeper$Worker" 18 7 5 (.int) := ⟨7, _, _, 7, ty_Wk, rfl, rfl, by decide, rfl, ws_Wk, tyk_Wk, nm_Wk, rfl, rfl, Or.inl (gwm (lt2 213 rfl) rfl)⟩
theorem f_K_248 : fLk "ScopeKeeper" 248 7 5 := ⟨7, _, _, 7, rfl, rfl, by decide, rfl, ws_Wk, Or.inr ⟨"ScopeKeeper", gwm (lt2 214 rfl) rfl⟩⟩
theorem p_K_248 : fPk "ScopeKeeper" 248 7 5 (.int) := ⟨7, _, _, 7, ty_Wk, rfl, rfl, by decide, rfl, ws_Wk, tyk_Wk, nm_Wk, rfl, rfl, Or.inr ⟨"ScopeKeeper", gwm (lt2 214 rfl) rfl⟩⟩
theorem f_Wk_22 : fLk "ScopeKeeper$Worker" 22 7 6 := ⟨7, _, _, 7, rfl, rfl, by decide, rfl, ws_Wk, Or.inl (gwm (lt2 215 rfl) rfl)⟩
theorem p_Wk_22 : fPk "ScopeKeeper$Worker" 22 7 6 (.boolean) := ⟨7, _, _, 7, ty_Wk, rfl, rfl, by decide, rfl, ws_Wk, tyk_Wk, nm_Wk, rfl, rfl, Or.inl (gwm (lt2 215 rfl) rfl)⟩
theorem f_K_204 : fLk "ScopeKeeper" 204 7 6 := ⟨7, _, _, 7, rfl, rfl, by decide, rfl, ws_Wk, Or.inr ⟨"ScopeKeeper", gwm (lt2 216 rfl) rfl⟩⟩
theorem p_K_204 : fPk "ScopeKeeper" 204 7 6 (.boolean) := ⟨7, _, _, 7, ty_Wk, rfl, rfl, by decide, rfl, ws_Wk, tyk_Wk, nm_Wk, rfl, rfl, Or.inr ⟨"ScopeKeeper", gwm (lt2 216 rfl) rfl⟩⟩
theorem n_Lw_8 : nLk "ScopeKeeperLaw" 8 0 12 := ⟨0, _, _, ty_K, rfl, rfl, ws_K, tyk_K, (fun j hj => by match j, hj with | 0, _ => rfl | 1, _ => rfl | 2, _ => rfl | 3, _ => rfl | 4, _ => rfl | 5, _ => rfl | 6, _ => rfl | 7, _ => rfl | 8, _ => rfl | 9, _ => rfl | 10, _ => rfl | 11, _ => rfl | j + 12, h => omega), gwm (lt1 18 rfl) rfl, gwm (lt1 19 rfl) rfl, gwm (lt1 1 rfl) rfl⟩
theorem n_K_9 : nLk "ScopeKeeper" 9 1 4 := ⟨1, _, _, ty_Sc, rfl, rfl, ws_Sc, tyk_Sc, (fun j hj => by match j, hj with | 0, _ => rfl | 1, _ => rfl | 2, _ => rfl | 3, _ => rfl | j + 4, h => omega), gwm (lt1 26 rfl) rfl, gwm (lt1 52 rfl) rfl, gwm (lt1 3 rfl) rfl⟩
theorem n_K_23 : nLk "ScopeKeeper" 23 7 7 := ⟨7, _, _, ty_Wk, rfl, rfl, ws_Wk, tyk_Wk, (fun j hj => by match j, hj with | 0, _ => rfl | 1, _ => rfl | 2, _ => rfl | 3, _ => rfl | 4, _ => rfl | 5, _ => rfl | 6, _ => rfl | j + 7, h => omega), gwm (lt1 28 rfl) rfl, gwm (lt2 181 rfl) rfl, gwm (lt1 14 rfl) rfl⟩
theorem n_K_32 : nLk "ScopeKeeper" 32 5 6 := ⟨5, _, _, ty_Rg, rfl, rfl, ws_Rg, tyk_Rg, (fun j hj => by match j, hj with | 0, _ => rfl | 1, _ => rfl | 2, _ => rfl | 3, _ => rfl | 4, _ => rfl | 5, _ => rfl | j + 6, h => omega), gwm (lt1 30 rfl) rfl, gwm (lt2 143 rfl) rfl, gwm (lt1 13 rfl) rfl⟩
theorem n_K_41 : nLk "ScopeKeeper" 41 2 3 := ⟨2, _, _, ty_Cl, rfl, rfl, ws_Cl, tyk_Cl, (fun j hj => by match j, hj with | 0, _ => rfl | 1, _ => rfl | 2, _ => rfl | j + 3, h => omega), gwm (lt1 32 rfl) rfl, gwm (lt1 77 rfl) rfl, gwm (lt1 4 rfl) rfl⟩
theorem n_K_50 : nLk "ScopeKeeper" 50 4 6 := ⟨4, _, _, ty_Jb, rfl, rfl, ws_Jb, tyk_Jb, (fun j hj => by match j, hj with | 0, _ => rfl | 1, _ => rfl | 2, _ => rfl | 3, _ => rfl | 4, _ => rfl | 5, _ => rfl | j + 6, h => omega), gwm (lt1 34 rfl) rfl, gwm (lt2 23 rfl) rfl, gwm (lt1 11 rfl) rfl⟩
theorem n_K_59 : nLk "ScopeKeeper" 59 3 2 := ⟨3, _, _, ty_Tr, rfl, rfl, ws_Tr, tyk_Tr, (fun j hj => by match j, hj with | 0, _ => rfl | 1, _ => rfl | j + 2, h => omega), gwm (lt1 36 rfl) rfl, gwm (lt1 37 rfl) rfl, gwm (lt1 2 rfl) rfl⟩
theorem n_Wk_9 : nLk "ScopeKeeper$Worker" 9 6 3 := ⟨6, _, _, ty_Ca, rfl, rfl, ws_Ca, tyk_Ca, (fun j hj => by match j, hj with | 0, _ => rfl | 1, _ => rfl | 2, _ => rfl | j + 3, h => omega), gwm (lt2 186 rfl) rfl, gwm (lt2 187 rfl) rfl, gwm (lt1 15 rfl) rfl⟩
theorem a_scripts : aLk 8 1 4 (.object "ScopeKeeper$Script") := ⟨rfl, by decide, fun _ => rfl⟩
theorem a_workers : aLk 9 2 40 (.object "ScopeKeeper$Worker") := ⟨rfl, by decide, fun _ => rfl⟩
theorem a_regs : aLk 10 3 5 (.object "ScopeKeeper$Registration") := ⟨rfl, by decide, fun _ => rfl⟩
theorem a_clients : aLk 11 4 8 (.object "ScopeKeeper$Client") := ⟨rfl, by decide, fun _ => rfl⟩
theorem a_from : aLk 12 2 8 (.object "ScopeKeeper$Worker") := ⟨rfl, by decide, fun _ => rfl⟩
theorem a_jobs : aLk 13 5 60 (.object "ScopeKeeper$Job") := ⟨rfl, by decide, fun _ => rfl⟩
theorem a_numbers : aLk 14 0 60 (.int) := ⟨rfl, by decide, fun _ => rfl⟩
theorem a_paths : aLk 15 0 4 (.int) := ⟨rfl, by decide, fun _ => rfl⟩
theorem a_values : aLk 16 0 4 (.int) := ⟨rfl, by decide, fun _ => rfl⟩
theorem a_out : aLk 17 6 1 (.long) := ⟨rfl, by decide, fun _ => rfl⟩
theorem c_Lw_62 : cLk "ScopeKeeperLaw" 62 y_K_init b_K_init 2 none 0 := ⟨Or.inl (gwm (lt1 20 rfl) rfl), gwm (lt1 1 rfl) rfl, gwm (lt1 22 rfl) rfl, by decide +kernel, by decide +kernel, by decide +kernel⟩
theorem c_K_61 : cLk "ScopeKeeper" 61 y_Tr_init b_Tr_init 1 none 0 := ⟨Or.inr ⟨"ScopeKeeper", gwm (lt1 38 rfl) rfl⟩, gwm (lt1 2 rfl) rfl, gwm (lt1 40 rfl) rfl, by decide +kernel, by decide +kernel, by decide +kernel⟩
theorem c_K_66 : cLk "ScopeKeeper" 66 y_Sc_init b_Sc_init 1 none 0 := ⟨Or.inr ⟨"ScopeKeeper", gwm (lt1 53 rfl) rfl⟩, gwm (lt1 3 rfl) rfl, gwm (lt1 55 rfl) rfl, by decide +kernel, by decide +kernel, by decide +kernel⟩
theorem c_K_67 : cLk "ScopeKeeper" 67 y_Cl_init b_Cl_init 1 none 0 := ⟨Or.inr ⟨"ScopeKeeper", gwm (lt1 78 rfl) rfl⟩, gwm (lt1 4 rfl) rfl, gwm (lt1 80 rfl) rfl, by decide +kernel, by decide +kernel, by decide +kernel⟩
theorem c_Lw_76 : cLk "ScopeKeeperLaw" 76 y_K_network b_K_network 4 (some FieldType.boolean) 2 := ⟨Or.inl (gwm (lt1 132 rfl) rfl), gwm (lt1 1 rfl) rfl, gwm (lt1 135 rfl) rfl, by decide +kernel, by decide +kernel, by decide +kernel⟩
theorem c_Lw_7 : cLk "ScopeKeeperLaw" 7 y_K_serve b_K_serve 7 none 5 := ⟨Or.inl (gwm (lt1 140 rfl) rfl), gwm (lt1 1 rfl) rfl, gwm (lt1 143 rfl) rfl, by decide +kernel, by decide +kernel, by decide +kernel⟩
theorem c_K_68 : cLk "ScopeKeeper" 68 y_K_isScript b_K_isScript 1 (some FieldType.boolean) 1 := ⟨Or.inl (gwm (lt1 144 rfl) rfl), gwm (lt1 1 rfl) rfl, gwm (lt1 146 rfl) rfl, by decide +kernel, by decide +kernel, by decide +kernel⟩
theorem c_K_72 : cLk "ScopeKeeper" 72 y_K_isPath b_K_isPath 3 (some FieldType.boolean) 1 := ⟨Or.inl (gwm (lt1 147 rfl) rfl), gwm (lt1 1 rfl) rfl, gwm (lt1 149 rfl) rfl, by decide +kernel, by decide +kernel, by decide +kernel⟩
theorem c_Lw_15 : cLk "ScopeKeeperLaw" 15 y_K_job b_K_job 7 (some FieldType.int) 3 := ⟨Or.inl (gwm (lt1 226 rfl) rfl), gwm (lt1 1 rfl) rfl, gwm (lt1 229 rfl) rfl, by decide +kernel, by decide +kernel, by decide +kernel⟩
theorem c_K_98 : cLk "ScopeKeeper" 98 y_K_refuseNoPath b_K_refuseNoPath 1 none 1 := ⟨Or.inl (gwm (lt1 231 rfl) rfl), gwm (lt1 1 rfl) rfl, gwm (lt1 233 rfl) rfl, by decide +kernel, by decide +kernel, by decide +kernel⟩
theorem c_K_104 : cLk "ScopeKeeper" 104 y_K_lastOfRow b_K_lastOfRow 3 (some (FieldType.object "ScopeKeeper$Job")) 1 := ⟨Or.inl (gwm (lt1 236 rfl) rfl), gwm (lt1 1 rfl) rfl, gwm (lt1 239 rfl) rfl, by decide +kernel, by decide +kernel, by decide +kernel⟩
theorem c_K_297 : cLk "ScopeKeeper" 297 y_K_isInRow b_K_isInRow 2 (some FieldType.boolean) 2 := ⟨Or.inl (gwm (lt2 0 rfl) rfl), gwm (lt1 1 rfl) rfl, gwm (lt2 2 rfl) rfl, by decide +kernel, by decide +kernel, by decide +kernel⟩
theorem c_K_120 : cLk "ScopeKeeper" 120 y_K_rowLength b_K_rowLength 4 (some FieldType.int) 1 := ⟨Or.inl (gwm (lt2 3 rfl) rfl), gwm (lt1 1 rfl) rfl, gwm (lt2 6 rfl) rfl, by decide +kernel, by decide +kernel, by decide +kernel⟩
theorem c_K_129 : cLk "ScopeKeeper" 129 y_Jb_init b_Jb_init 5 none 4 := ⟨Or.inl (gwm (lt2 24 rfl) rfl), gwm (lt1 11 rfl) rfl, gwm (lt2 26 rfl) rfl, by decide +kernel, by decide +kernel, by decide +kernel⟩
theorem c_Lw_21 : cLk "ScopeKeeperLaw" 21 y_K_step b_K_step 4 (some FieldType.int) 1 := ⟨Or.inl (gwm (lt2 57 rfl) rfl), gwm (lt1 1 rfl) rfl, gwm (lt2 60 rfl) rfl, by decide +kernel, by decide +kernel, by decide +kernel⟩
theorem c_K_132 : cLk "ScopeKeeper" 132 y_K_firstOfRow b_K_firstOfRow 3 (some (FieldType.object "ScopeKeeper$Job")) 1 := ⟨Or.inl (gwm (lt2 61 rfl) rfl), gwm (lt1 1 rfl) rfl, gwm (lt2 64 rfl) rfl, by decide +kernel, by decide +kernel, by decide +kernel⟩
theorem c_K_140 : cLk "ScopeKeeper" 140 y_K_finishInstall b_K_finishInstall 4 (some FieldType.int) 1 := ⟨Or.inl (gwm (lt2 81 rfl) rfl), gwm (lt1 1 rfl) rfl, gwm (lt2 84 rfl) rfl, by decide +kernel, by decide +kernel, by decide +kernel⟩
theorem c_K_286 : cLk "ScopeKeeper" 286 y_K_registrationOf b_K_registrationOf 3 (some (FieldType.object "ScopeKeeper$Registration")) 1 := ⟨Or.inl (gwm (lt2 85 rfl) rfl), gwm (lt1 1 rfl) rfl, gwm (lt2 88 rfl) rfl, by decide +kernel, by decide +kernel, by decide +kernel⟩
theorem c_K_334 : cLk "ScopeKeeper" 334 y_K_bring b_K_bring 3 none 2 := ⟨Or.inl (gwm (lt2 89 rfl) rfl), gwm (lt1 1 rfl) rfl, gwm (lt2 92 rfl) rfl, by decide +kernel, by decide +kernel, by decide +kernel⟩
theorem c_K_346 : cLk "ScopeKeeper" 346 y_Tr_workerComesTo b_Tr_workerComesTo 3 none 2 := ⟨Or.inl (gwm (lt2 93 rfl) rfl), gwm (lt1 2 rfl) rfl, gwm (lt2 96 rfl) rfl, by decide +kernel, by decide +kernel, by decide +kernel⟩
theorem c_Tr_19 : cLk "ScopeKeeper$Trace" 19 y_Tr_append b_Tr_append 2 none 1 := ⟨Or.inl (gwm (lt2 97 rfl) rfl), gwm (lt1 2 rfl) rfl, gwm (lt2 100 rfl) rfl, by decide +kernel, by decide +kernel, by decide +kernel⟩
theorem c_K_327 : cLk "ScopeKeeper" 327 y_Rg_newest b_Rg_newest 1 (some (FieldType.object "ScopeKeeper$Worker")) 0 := ⟨Or.inl (gwm (lt2 101 rfl) rfl), gwm (lt1 13 rfl) rfl, gwm (lt2 104 rfl) rfl, by decide +kernel, by decide +kernel, by decide +kernel⟩
theorem c_K_339 : cLk "ScopeKeeper" 339 y_K_removeRegistration b_K_removeRegistration 4 none 1 := ⟨Or.inl (gwm (lt2 105 rfl) rfl), gwm (lt1 1 rfl) rfl, gwm (lt2 108 rfl) rfl, by decide +kernel, by decide +kernel, by decide +kernel⟩
theorem c_K_207 : cLk "ScopeKeeper" 207 y_K_tryActivation b_K_tryActivation 5 none 1 := ⟨Or.inl (gwm (lt2 109 rfl) rfl), gwm (lt1 1 rfl) rfl, gwm (lt2 112 rfl) rfl, by decide +kernel, by decide +kernel, by decide +kernel⟩
theorem c_K_251 : cLk "ScopeKeeper" 251 y_K_controlledBy b_K_controlledBy 4 (some FieldType.int) 1 := ⟨Or.inl (gwm (lt2 113 rfl) rfl), gwm (lt1 1 rfl) rfl, gwm (lt2 116 rfl) rfl, by decide +kernel, by decide +kernel, by decide +kernel⟩
theorem c_K_192 : cLk "ScopeKeeper" 192 y_K_control b_K_control 3 none 2 := ⟨Or.inl (gwm (lt2 117 rfl) rfl), gwm (lt1 1 rfl) rfl, gwm (lt2 120 rfl) rfl, by decide +kernel, by decide +kernel, by decide +kernel⟩
theorem c_K_183 : cLk "ScopeKeeper" 183 y_K_numberOf b_K_numberOf 1 (some FieldType.int) 1 := ⟨Or.inl (gwm (lt2 121 rfl) rfl), gwm (lt1 1 rfl) rfl, gwm (lt2 123 rfl) rfl, by decide +kernel, by decide +kernel, by decide +kernel⟩
theorem c_K_349 : cLk "ScopeKeeper" 349 y_Tr_clientIsControlled b_Tr_clientIsControlled 3 none 2 := ⟨Or.inl (gwm (lt2 124 rfl) rfl), gwm (lt1 2 rfl) rfl, gwm (lt2 127 rfl) rfl, by decide +kernel, by decide +kernel, by decide +kernel⟩
theorem c_K_143 : cLk "ScopeKeeper" 143 y_K_beginJob b_K_beginJob 2 (some FieldType.int) 1 := ⟨Or.inl (gwm (lt2 128 rfl) rfl), gwm (lt1 1 rfl) rfl, gwm (lt2 131 rfl) rfl, by decide +kernel, by decide +kernel, by decide +kernel⟩
theorem c_K_301 : cLk "ScopeKeeper" 301 y_K_beginRegister b_K_beginRegister 4 (some FieldType.int) 1 := ⟨Or.inl (gwm (lt2 132 rfl) rfl), gwm (lt1 1 rfl) rfl, gwm (lt2 135 rfl) rfl, by decide +kernel, by decide +kernel, by decide +kernel⟩
theorem c_K_310 : cLk "ScopeKeeper" 310 y_K_begins b_K_begins 5 (some FieldType.boolean) 2 := ⟨Or.inl (gwm (lt2 136 rfl) rfl), gwm (lt1 1 rfl) rfl, gwm (lt2 138 rfl) rfl, by decide +kernel, by decide +kernel, by decide +kernel⟩
theorem c_K_314 : cLk "ScopeKeeper" 314 y_K_addRegistration b_K_addRegistration 3 (some (FieldType.object "ScopeKeeper$Registration")) 1 := ⟨Or.inl (gwm (lt2 139 rfl) rfl), gwm (lt1 1 rfl) rfl, gwm (lt2 142 rfl) rfl, by decide +kernel, by decide +kernel, by decide +kernel⟩
theorem c_K_352 : cLk "ScopeKeeper" 352 y_Rg_init b_Rg_init 2 none 1 := ⟨Or.inl (gwm (lt2 144 rfl) rfl), gwm (lt1 13 rfl) rfl, gwm (lt2 146 rfl) rfl, by decide +kernel, by decide +kernel, by decide +kernel⟩
theorem c_K_317 : cLk "ScopeKeeper" 317 y_K_isUpToDate b_K_isUpToDate 3 (some FieldType.boolean) 1 := ⟨Or.inl (gwm (lt2 173 rfl) rfl), gwm (lt1 1 rfl) rfl, gwm (lt2 176 rfl) rfl, by decide +kernel, by decide +kernel, by decide +kernel⟩
theorem c_K_321 : cLk "ScopeKeeper" 321 y_K_beginInstall b_K_beginInstall 3 none 1 := ⟨Or.inl (gwm (lt2 177 rfl) rfl), gwm (lt1 1 rfl) rfl, gwm (lt2 180 rfl) rfl, by decide +kernel, by decide +kernel, by decide +kernel⟩
theorem c_K_331 : cLk "ScopeKeeper" 331 y_Wk_init b_Wk_init 3 none 2 := ⟨Or.inl (gwm (lt2 182 rfl) rfl), gwm (lt1 14 rfl) rfl, gwm (lt2 184 rfl) rfl, by decide +kernel, by decide +kernel, by decide +kernel⟩
theorem c_Wk_11 : cLk "ScopeKeeper$Worker" 11 y_Ca_init b_Ca_init 1 none 0 := ⟨Or.inr ⟨"ScopeKeeper", gwm (lt2 188 rfl) rfl⟩, gwm (lt1 15 rfl) rfl, gwm (lt2 190 rfl) rfl, by decide +kernel, by decide +kernel, by decide +kernel⟩
theorem c_K_304 : cLk "ScopeKeeper" 304 y_K_beginUpdate b_K_beginUpdate 3 (some FieldType.int) 1 := ⟨Or.inl (gwm (lt2 232 rfl) rfl), gwm (lt1 1 rfl) rfl, gwm (lt2 235 rfl) rfl, by decide +kernel, by decide +kernel, by decide +kernel⟩
theorem c_K_307 : cLk "ScopeKeeper" 307 y_K_unregister b_K_unregister 3 (some FieldType.int) 1 := ⟨Or.inl (gwm (lt2 236 rfl) rfl), gwm (lt1 1 rfl) rfl, gwm (lt2 239 rfl) rfl, by decide +kernel, by decide +kernel, by decide +kernel⟩
theorem c_K_324 : cLk "ScopeKeeper" 324 y_K_tryClearing b_K_tryClearing 2 (some FieldType.boolean) 1 := ⟨Or.inl (gwm (lt3 0 rfl) rfl), gwm (lt1 1 rfl) rfl, gwm (lt3 3 rfl) rfl, by decide +kernel, by decide +kernel, by decide +kernel⟩
theorem c_K_150 : cLk "ScopeKeeper" 150 y_Tr_jobEnds b_Tr_jobEnds 2 none 1 := ⟨Or.inl (gwm (lt3 4 rfl) rfl), gwm (lt1 2 rfl) rfl, gwm (lt3 7 rfl) rfl, by decide +kernel, by decide +kernel, by decide +kernel⟩
theorem c_Lw_27 : cLk "ScopeKeeperLaw" 27 y_K_open b_K_open 5 (some FieldType.int) 1 := ⟨Or.inl (gwm (lt3 11 rfl) rfl), gwm (lt1 1 rfl) rfl, gwm (lt3 14 rfl) rfl, by decide +kernel, by decide +kernel, by decide +kernel⟩
theorem c_K_153 : cLk "ScopeKeeper" 153 y_K_leastFreeClient b_K_leastFreeClient 2 (some FieldType.int) 0 := ⟨Or.inl (gwm (lt3 15 rfl) rfl), gwm (lt1 1 rfl) rfl, gwm (lt3 18 rfl) rfl, by decide +kernel, by decide +kernel, by decide +kernel⟩
theorem c_K_159 : cLk "ScopeKeeper" 159 y_K_registrationFor b_K_registrationFor 6 (some (FieldType.object "ScopeKeeper$Registration")) 1 := ⟨Or.inl (gwm (lt3 20 rfl) rfl), gwm (lt1 1 rfl) rfl, gwm (lt3 23 rfl) rfl, by decide +kernel, by decide +kernel, by decide +kernel⟩
theorem c_Lw_30 : cLk "ScopeKeeperLaw" 30 y_K_close b_K_close 4 (some FieldType.int) 1 := ⟨Or.inl (gwm (lt3 27 rfl) rfl), gwm (lt1 1 rfl) rfl, gwm (lt3 30 rfl) rfl, by decide +kernel, by decide +kernel, by decide +kernel⟩
theorem c_K_176 : cLk "ScopeKeeper" 176 y_K_refuseNoClient b_K_refuseNoClient 2 none 1 := ⟨Or.inl (gwm (lt3 31 rfl) rfl), gwm (lt1 1 rfl) rfl, gwm (lt3 34 rfl) rfl, by decide +kernel, by decide +kernel, by decide +kernel⟩
theorem c_K_179 : cLk "ScopeKeeper" 179 y_K_settleAfterLoss b_K_settleAfterLoss 3 none 1 := ⟨Or.inl (gwm (lt3 36 rfl) rfl), gwm (lt1 1 rfl) rfl, gwm (lt3 39 rfl) rfl, by decide +kernel, by decide +kernel, by decide +kernel⟩
theorem c_K_342 : cLk "ScopeKeeper" 342 y_K_registrationWithActive b_K_registrationWithActive 3 (some (FieldType.object "ScopeKeeper$Registration")) 1 := ⟨Or.inl (gwm (lt3 40 rfl) rfl), gwm (lt1 1 rfl) rfl, gwm (lt3 43 rfl) rfl, by decide +kernel, by decide +kernel, by decide +kernel⟩
theorem c_Lw_33 : cLk "ScopeKeeperLaw" 33 y_K_claim b_K_claim 6 (some FieldType.int) 1 := ⟨Or.inl (gwm (lt3 47 rfl) rfl), gwm (lt1 1 rfl) rfl, gwm (lt3 50 rfl) rfl, by decide +kernel, by decide +kernel, by decide +kernel⟩
theorem c_K_187 : cLk "ScopeKeeper" 187 y_K_needRegistration b_K_needRegistration 3 (some (FieldType.object "ScopeKeeper$Registration")) 1 := ⟨Or.inl (gwm (lt3 51 rfl) rfl), gwm (lt1 1 rfl) rfl, gwm (lt3 54 rfl) rfl, by decide +kernel, by decide +kernel, by decide +kernel⟩
theorem c_Lw_36 : cLk "ScopeKeeperLaw" 36 y_K_skip b_K_skip 4 (some FieldType.int) 1 := ⟨Or.inl (gwm (lt3 60 rfl) rfl), gwm (lt1 1 rfl) rfl, gwm (lt3 63 rfl) rfl, by decide +kernel, by decide +kernel, by decide +kernel⟩
theorem c_Lw_39 : cLk "ScopeKeeperLaw" 39 y_K_fetch b_K_fetch 8 (some FieldType.int) 2 := ⟨Or.inl (gwm (lt3 69 rfl) rfl), gwm (lt1 1 rfl) rfl, gwm (lt3 72 rfl) rfl, by decide +kernel, by decide +kernel, by decide +kernel⟩
theorem c_K_213 : cLk "ScopeKeeper" 213 y_K_networkAnswer b_K_networkAnswer 2 (some FieldType.int) 1 := ⟨Or.inl (gwm (lt3 73 rfl) rfl), gwm (lt1 1 rfl) rfl, gwm (lt3 76 rfl) rfl, by decide +kernel, by decide +kernel, by decide +kernel⟩
theorem c_K_221 : cLk "ScopeKeeper" 221 y_Ca_has b_Ca_has 2 (some FieldType.boolean) 1 := ⟨Or.inl (gwm (lt3 93 rfl) rfl), gwm (lt1 15 rfl) rfl, gwm (lt3 96 rfl) rfl, by decide +kernel, by decide +kernel, by decide +kernel⟩
theorem c_Ca_22 : cLk "ScopeKeeper$Cache" 22 y_Ca_placeOf b_Ca_placeOf 3 (some FieldType.int) 1 := ⟨Or.inl (gwm (lt3 97 rfl) rfl), gwm (lt1 15 rfl) rfl, gwm (lt3 100 rfl) rfl, by decide +kernel, by decide +kernel, by decide +kernel⟩
theorem c_K_226 : cLk "ScopeKeeper" 226 y_Ca_valueOf b_Ca_valueOf 2 (some FieldType.int) 1 := ⟨Or.inl (gwm (lt3 101 rfl) rfl), gwm (lt1 15 rfl) rfl, gwm (lt3 104 rfl) rfl, by decide +kernel, by decide +kernel, by decide +kernel⟩
theorem c_Ca_26 : cLk "ScopeKeeper$Cache" 26 y_Ca_valueAt b_Ca_valueAt 2 (some FieldType.int) 1 := ⟨Or.inl (gwm (lt3 105 rfl) rfl), gwm (lt1 15 rfl) rfl, gwm (lt3 108 rfl) rfl, by decide +kernel, by decide +kernel, by decide +kernel⟩
theorem c_K_229 : cLk "ScopeKeeper" 229 y_Ca_keep b_Ca_keep 3 none 2 := ⟨Or.inl (gwm (lt3 109 rfl) rfl), gwm (lt1 15 rfl) rfl, gwm (lt3 112 rfl) rfl, by decide +kernel, by decide +kernel, by decide +kernel⟩
theorem c_Ca_29 : cLk "ScopeKeeper$Cache" 29 y_Ca_has b_Ca_has 2 (some FieldType.boolean) 1 := ⟨Or.inl (gwm (lt3 113 rfl) rfl), gwm (lt1 15 rfl) rfl, gwm (lt3 96 rfl) rfl, by decide +kernel, by decide +kernel, by decide +kernel⟩
theorem c_Ca_33 : cLk "ScopeKeeper$Cache" 33 y_Ca_drop b_Ca_drop 3 none 1 := ⟨Or.inl (gwm (lt3 114 rfl) rfl), gwm (lt1 15 rfl) rfl, gwm (lt3 117 rfl) rfl, by decide +kernel, by decide +kernel, by decide +kernel⟩
theorem c_Lw_45 : cLk "ScopeKeeperLaw" 45 y_K_registration b_K_registration 4 (some FieldType.int) 2 := ⟨Or.inl (gwm (lt3 121 rfl) rfl), gwm (lt1 1 rfl) rfl, gwm (lt3 124 rfl) rfl, by decide +kernel, by decide +kernel, by decide +kernel⟩
theorem c_Lw_48 : cLk "ScopeKeeperLaw" 48 y_K_worker b_K_worker 6 (some FieldType.int) 2 := ⟨Or.inl (gwm (lt3 130 rfl) rfl), gwm (lt1 1 rfl) rfl, gwm (lt3 133 rfl) rfl, by decide +kernel, by decide +kernel, by decide +kernel⟩
theorem c_K_239 : cLk "ScopeKeeper" 239 y_K_isWithin b_K_isWithin 3 (some FieldType.boolean) 3 := ⟨Or.inl (gwm (lt3 134 rfl) rfl), gwm (lt1 1 rfl) rfl, gwm (lt3 136 rfl) rfl, by decide +kernel, by decide +kernel, by decide +kernel⟩
theorem c_K_257 : cLk "ScopeKeeper" 257 y_Ca_pathAt b_Ca_pathAt 2 (some FieldType.int) 1 := ⟨Or.inl (gwm (lt3 153 rfl) rfl), gwm (lt1 15 rfl) rfl, gwm (lt3 156 rfl) rfl, by decide +kernel, by decide +kernel, by decide +kernel⟩
theorem c_K_260 : cLk "ScopeKeeper" 260 y_Ca_valueAt b_Ca_valueAt 2 (some FieldType.int) 1 := ⟨Or.inl (gwm (lt3 157 rfl) rfl), gwm (lt1 15 rfl) rfl, gwm (lt3 108 rfl) rfl, by decide +kernel, by decide +kernel, by decide +kernel⟩
theorem c_Lw_53 : cLk "ScopeKeeperLaw" 53 y_K_outcome b_K_outcome 2 (some FieldType.int) 1 := ⟨Or.inl (gwm (lt3 161 rfl) rfl), gwm (lt1 1 rfl) rfl, gwm (lt3 164 rfl) rfl, by decide +kernel, by decide +kernel, by decide +kernel⟩
theorem c_Lw_56 : cLk "ScopeKeeperLaw" 56 y_K_trace b_K_trace 2 (some FieldType.int) 1 := ⟨Or.inl (gwm (lt3 169 rfl) rfl), gwm (lt1 1 rfl) rfl, gwm (lt3 172 rfl) rfl, by decide +kernel, by decide +kernel, by decide +kernel⟩
theorem c_Lw_59 : cLk "ScopeKeeperLaw" 59 y_K_count b_K_count 3 (some FieldType.int) 1 := ⟨Or.inl (gwm (lt3 177 rfl) rfl), gwm (lt1 1 rfl) rfl, gwm (lt3 180 rfl) rfl, by decide +kernel, by decide +kernel, by decide +kernel⟩
theorem c_K_275 : cLk "ScopeKeeper" 275 y_K_clientsThere b_K_clientsThere 3 (some FieldType.int) 0 := ⟨Or.inl (gwm (lt3 181 rfl) rfl), gwm (lt1 1 rfl) rfl, gwm (lt3 184 rfl) rfl, by decide +kernel, by decide +kernel, by decide +kernel⟩
theorem c_K_278 : cLk "ScopeKeeper" 278 y_K_jobsNotEnded b_K_jobsNotEnded 3 (some FieldType.int) 0 := ⟨Or.inl (gwm (lt3 185 rfl) rfl), gwm (lt1 1 rfl) rfl, gwm (lt3 188 rfl) rfl, by decide +kernel, by decide +kernel, by decide +kernel⟩
theorem v_K_init : y_K_init.name = "<init>" ∧ Cond.instanceMethod y_K_init ∈ gw := ⟨rfl, gwm (lt1 21 rfl) rfl⟩
theorem v_K_serve : Cond.instanceMethod y_K_serve ∈ gw ∧ Cond.selects y_K_serve.cls y_K_serve y_K_serve ∈ gw := ⟨gwm (lt1 141 rfl) rfl, gwm (lt1 142 rfl) rfl⟩
theorem v_K_network : Cond.instanceMethod y_K_network ∈ gw ∧ Cond.selects y_K_network.cls y_K_network y_K_network ∈ gw := ⟨gwm (lt1 133 rfl) rfl, gwm (lt1 134 rfl) rfl⟩
theorem v_K_job : Cond.instanceMethod y_K_job ∈ gw ∧ Cond.selects y_K_job.cls y_K_job y_K_job ∈ gw := ⟨gwm (lt1 227 rfl) rfl, gwm (lt1 228 rfl) rfl⟩
theorem v_K_step : Cond.instanceMethod y_K_step ∈ gw ∧ Cond.selects y_K_step.cls y_K_step y_K_step ∈ gw := ⟨gwm (lt2 58 rfl) rfl, gwm (lt2 59 rfl) rfl⟩
theorem v_K_open : Cond.instanceMethod y_K_open ∈ gw ∧ Cond.selects y_K_open.cls y_K_open y_K_open ∈ gw := ⟨gwm (lt3 12 rfl) rfl, gwm (lt3 13 rfl) rfl⟩
theorem v_K_close : Cond.instanceMethod y_K_close ∈ gw ∧ Cond.selects y_K_close.cls y_K_close y_K_close ∈ gw := ⟨gwm (lt3 28 rfl) rfl, gwm (lt3 29 rfl) rfl⟩
theorem v_K_claim : Cond.instanceMethod y_K_claim ∈ gw ∧ Cond.selects y_K_claim.cls y_K_claim y_K_claim ∈ gw := ⟨gwm (lt3 48 rfl) rfl, gwm (lt3 49 rfl) rfl⟩
theorem v_K_skip : Cond.instanceMethod y_K_skip ∈ gw ∧ Cond.selects y_K_skip.cls y_K_skip y_K_skip ∈ gw := ⟨gwm (lt3 61 rfl) rfl, gwm (lt3 62 rfl) rfl⟩
theorem v_K_fetch : Cond.instanceMethod y_K_fetch ∈ gw ∧ Cond.selects y_K_fetch.cls y_K_fetch y_K_fetch ∈ gw := ⟨gwm (lt3 70 rfl) rfl, gwm (lt3 71 rfl) rfl⟩
theorem v_K_registration : Cond.instanceMethod y_K_registration ∈ gw ∧ Cond.selects y_K_registration.cls y_K_registration y_K_registration ∈ gw := ⟨gwm (lt3 122 rfl) rfl, gwm (lt3 123 rfl) rfl⟩
theorem v_K_worker : Cond.instanceMethod y_K_worker ∈ gw ∧ Cond.selects y_K_worker.cls y_K_worker y_K_worker ∈ gw := ⟨gwm (lt3 131 rfl) rfl, gwm (lt3 132 rfl) rfl⟩
theorem v_K_outcome : Cond.instanceMethod y_K_outcome ∈ gw ∧ Cond.selects y_K_outcome.cls y_K_outcome y_K_outcome ∈ gw := ⟨gwm (lt3 162 rfl) rfl, gwm (lt3 163 rfl) rfl⟩
theorem v_K_trace : Cond.instanceMethod y_K_trace ∈ gw ∧ Cond.selects y_K_trace.cls y_K_trace y_K_trace ∈ gw := ⟨gwm (lt3 170 rfl) rfl, gwm (lt3 171 rfl) rfl⟩
theorem v_K_count : Cond.instanceMethod y_K_count ∈ gw ∧ Cond.selects y_K_count.cls y_K_count y_K_count ∈ gw := ⟨gwm (lt3 178 rfl) rfl, gwm (lt3 179 rfl) rfl⟩
theorem v_K_isWithin : Cond.static y_K_isWithin ∈ gw := gwm (lt3 135 rfl) rfl
theorem v_K_isScript : Cond.static y_K_isScript ∈ gw := gwm (lt1 145 rfl) rfl
theorem v_K_isPath : Cond.static y_K_isPath ∈ gw := gwm (lt1 148 rfl) rfl
theorem v_K_begins : Cond.static y_K_begins ∈ gw := gwm (lt2 137 rfl) rfl
theorem v_K_refuseNoPath : Cond.static y_K_refuseNoPath ∈ gw := gwm (lt1 232 rfl) rfl
theorem v_K_refuseNoClient : Cond.instanceMethod y_K_refuseNoClient ∈ gw ∧ Cond.selects y_K_refuseNoClient.cls y_K_refuseNoClient y_K_refuseNoClient ∈ gw := ⟨gwm (lt3 33 rfl) rfl, gwm (lt0 22 rfl) rfl⟩
theorem v_K_needRegistration : Cond.instanceMethod y_K_needRegistration ∈ gw ∧ Cond.selects y_K_needRegistration.cls y_K_needRegistration y_K_needRegistration ∈ gw := ⟨gwm (lt3 53 rfl) rfl, gwm (lt0 25 rfl) rfl⟩
theorem v_K_networkAnswer : Cond.instanceMethod y_K_networkAnswer ∈ gw ∧ Cond.selects y_K_networkAnswer.cls y_K_networkAnswer y_K_networkAnswer ∈ gw := ⟨gwm (lt3 75 rfl) rfl, gwm (lt0 26 rfl) rfl⟩
theorem v_K_isInRow : Cond.static y_K_isInRow ∈ gw := gwm (lt2 1 rfl) rfl
theorem v_K_firstOfRow : Cond.instanceMethod y_K_firstOfRow ∈ gw ∧ Cond.selects y_K_firstOfRow.cls y_K_firstOfRow y_K_firstOfRow ∈ gw := ⟨gwm (lt2 63 rfl) rfl, gwm (lt0 3 rfl) rfl⟩
theorem v_K_lastOfRow : Cond.instanceMethod y_K_lastOfRow ∈ gw ∧ Cond.selects y_K_lastOfRow.cls y_K_lastOfRow y_K_lastOfRow ∈ gw := ⟨gwm (lt1 238 rfl) rfl, gwm (lt0 1 rfl) rfl⟩
theorem v_K_rowLength : Cond.instanceMethod y_K_rowLength ∈ gw ∧ Cond.selects y_K_rowLength.cls y_K_rowLength y_K_rowLength ∈ gw := ⟨gwm (lt2 5 rfl) rfl, gwm (lt0 2 rfl) rfl⟩
theorem v_K_jobsNotEnded : Cond.instanceMethod y_K_jobsNotEnded ∈ gw ∧ Cond.selects y_K_jobsNotEnded.cls y_K_jobsNotEnded y_K_jobsNotEnded ∈ gw := ⟨gwm (lt3 187 rfl) rfl, gwm (lt0 30 rfl) rfl⟩
theorem v_K_beginJob : Cond.instanceMethod y_K_beginJob ∈ gw ∧ Cond.selects y_K_beginJob.cls y_K_beginJob y_K_beginJob ∈ gw := ⟨gwm (lt2 130 rfl) rfl, gwm (lt0 12 rfl) rfl⟩
theorem v_K_beginRegister : Cond.instanceMethod y_K_beginRegister ∈ gw ∧ Cond.selects y_K_beginRegister.cls y_K_beginRegister y_K_beginRegister ∈ gw := ⟨gwm (lt2 134 rfl) rfl, gwm (lt0 13 rfl) rfl⟩
theorem v_K_beginUpdate : Cond.instanceMethod y_K_beginUpdate ∈ gw ∧ Cond.selects y_K_beginUpdate.cls y_K_beginUpdate y_K_beginUpdate ∈ gw := ⟨gwm (lt2 234 rfl) rfl, gwm (lt0 17 rfl) rfl⟩
theorem v_K_unregister : Cond.instanceMethod y_K_unregister ∈ gw ∧ Cond.selects y_K_unregister.cls y_K_unregister y_K_unregister ∈ gw := ⟨gwm (lt2 238 rfl) rfl, gwm (lt0 18 rfl) rfl⟩
theorem v_K_isUpToDate : Cond.instanceMethod y_K_isUpToDate ∈ gw ∧ Cond.selects y_K_isUpToDate.cls y_K_isUpToDate y_K_isUpToDate ∈ gw := ⟨gwm (lt2 175 rfl) rfl, gwm (lt0 15 rfl) rfl⟩
theorem v_K_beginInstall : Cond.instanceMethod y_K_beginInstall ∈ gw ∧ Cond.selects y_K_beginInstall.cls y_K_beginInstall y_K_beginInstall ∈ gw := ⟨gwm (lt2 179 rfl) rfl, gwm (lt0 16 rfl) rfl⟩
theorem v_K_finishInstall : Cond.instanceMethod y_K_finishInstall ∈ gw ∧ Cond.selects y_K_finishInstall.cls y_K_finishInstall y_K_finishInstall ∈ gw := ⟨gwm (lt2 83 rfl) rfl, gwm (lt0 4 rfl) rfl⟩
theorem v_K_tryActivation : Cond.instanceMethod y_K_tryActivation ∈ gw ∧ Cond.selects y_K_tryActivation.cls y_K_tryActivation y_K_tryActivation ∈ gw := ⟨gwm (lt2 111 rfl) rfl, gwm (lt0 9 rfl) rfl⟩
theorem v_K_tryClearing : Cond.instanceMethod y_K_tryClearing ∈ gw ∧ Cond.selects y_K_tryClearing.cls y_K_tryClearing y_K_tryClearing ∈ gw := ⟨gwm (lt3 2 rfl) rfl, gwm (lt0 19 rfl) rfl⟩
theorem v_K_settleAfterLoss : Cond.instanceMethod y_K_settleAfterLoss ∈ gw ∧ Cond.selects y_K_settleAfterLoss.cls y_K_settleAfterLoss y_K_settleAfterLoss ∈ gw := ⟨gwm (lt3 38 rfl) rfl, gwm (lt0 23 rfl) rfl⟩
theorem v_K_numberOf : Cond.static y_K_numberOf ∈ gw := gwm (lt2 122 rfl) rfl
theorem v_K_bring : Cond.instanceMethod y_K_bring ∈ gw ∧ Cond.selects y_K_bring.cls y_K_bring y_K_bring ∈ gw := ⟨gwm (lt2 91 rfl) rfl, gwm (lt0 6 rfl) rfl⟩
theorem v_K_control : Cond.instanceMethod y_K_control ∈ gw ∧ Cond.selects y_K_control.cls y_K_control y_K_control ∈ gw := ⟨gwm (lt2 119 rfl) rfl, gwm (lt0 11 rfl) rfl⟩
theorem v_K_controlledBy : Cond.instanceMethod y_K_controlledBy ∈ gw ∧ Cond.selects y_K_controlledBy.cls y_K_controlledBy y_K_controlledBy ∈ gw := ⟨gwm (lt2 115 rfl) rfl, gwm (lt0 10 rfl) rfl⟩
theorem v_K_clientsThere : Cond.instanceMethod y_K_clientsThere ∈ gw ∧ Cond.selects y_K_clientsThere.cls y_K_clientsThere y_K_clientsThere ∈ gw := ⟨gwm (lt3 183 rfl) rfl, gwm (lt0 29 rfl) rfl⟩
theorem v_K_leastFreeClient : Cond.instanceMethod y_K_leastFreeClient ∈ gw ∧ Cond.selects y_K_leastFreeClient.cls y_K_leastFreeClient y_K_leastFreeClient ∈ gw := ⟨gwm (lt3 17 rfl) rfl, gwm (lt0 20 rfl) rfl⟩
theorem v_K_registrationOf : Cond.instanceMethod y_K_registrationOf ∈ gw ∧ Cond.selects y_K_registrationOf.cls y_K_registrationOf y_K_registrationOf ∈ gw := ⟨gwm (lt2 87 rfl) rfl, gwm (lt0 5 rfl) rfl⟩
theorem v_K_registrationFor : Cond.instanceMethod y_K_registrationFor ∈ gw ∧ Cond.selects y_K_registrationFor.cls y_K_registrationFor y_K_registrationFor ∈ gw := ⟨gwm (lt3 22 rfl) rfl, gwm (lt0 21 rfl) rfl⟩
theorem v_K_registrationWithActive : Cond.instanceMethod y_K_registrationWithActive ∈ gw ∧ Cond.selects y_K_registrationWithActive.cls y_K_registrationWithActive y_K_registrationWithActive ∈ gw := ⟨gwm (lt3 42 rfl) rfl, gwm (lt0 24 rfl) rfl⟩
theorem v_K_addRegistration : Cond.instanceMethod y_K_addRegistration ∈ gw ∧ Cond.selects y_K_addRegistration.cls y_K_addRegistration y_K_addRegistration ∈ gw := ⟨gwm (lt2 141 rfl) rfl, gwm (lt0 14 rfl) rfl⟩
theorem v_K_removeRegistration : Cond.instanceMethod y_K_removeRegistration ∈ gw ∧ Cond.selects y_K_removeRegistration.cls y_K_removeRegistration y_K_removeRegistration ∈ gw := ⟨gwm (lt2 107 rfl) rfl, gwm (lt0 8 rfl) rfl⟩
theorem v_Ca_init : y_Ca_init.name = "<init>" ∧ Cond.instanceMethod y_Ca_init ∈ gw := ⟨rfl, gwm (lt2 189 rfl) rfl⟩
theorem v_Ca_placeOf : Cond.instanceMethod y_Ca_placeOf ∈ gw ∧ Cond.selects y_Ca_placeOf.cls y_Ca_placeOf y_Ca_placeOf ∈ gw := ⟨gwm (lt3 99 rfl) rfl, gwm (lt0 27 rfl) rfl⟩
theorem v_Ca_has : Cond.instanceMethod y_Ca_has ∈ gw ∧ Cond.selects y_Ca_has.cls y_Ca_has y_Ca_has ∈ gw := ⟨gwm (lt3 94 rfl) rfl, gwm (lt3 95 rfl) rfl⟩
theorem v_Ca_valueOf : Cond.instanceMethod y_Ca_valueOf ∈ gw ∧ Cond.selects y_Ca_valueOf.cls y_Ca_valueOf y_Ca_valueOf ∈ gw := ⟨gwm (lt3 102 rfl) rfl, gwm (lt3 103 rfl) rfl⟩
theorem v_Ca_pathAt : Cond.instanceMethod y_Ca_pathAt ∈ gw ∧ Cond.selects y_Ca_pathAt.cls y_Ca_pathAt y_Ca_pathAt ∈ gw := ⟨gwm (lt3 154 rfl) rfl, gwm (lt3 155 rfl) rfl⟩
theorem v_Ca_valueAt : Cond.instanceMethod y_Ca_valueAt ∈ gw ∧ Cond.selects y_Ca_valueAt.cls y_Ca_valueAt y_Ca_valueAt ∈ gw := ⟨gwm (lt3 106 rfl) rfl, gwm (lt3 107 rfl) rfl⟩
theorem v_Ca_keep : Cond.instanceMethod y_Ca_keep ∈ gw ∧ Cond.selects y_Ca_keep.cls y_Ca_keep y_Ca_keep ∈ gw := ⟨gwm (lt3 110 rfl) rfl, gwm (lt3 111 rfl) rfl⟩
theorem v_Ca_drop : Cond.instanceMethod y_Ca_drop ∈ gw ∧ Cond.selects y_Ca_drop.cls y_Ca_drop y_Ca_drop ∈ gw := ⟨gwm (lt3 116 rfl) rfl, gwm (lt0 28 rfl) rfl⟩
theorem v_Cl_init : y_Cl_init.name = "<init>" ∧ Cond.instanceMethod y_Cl_init ∈ gw := ⟨rfl, gwm (lt1 79 rfl) rfl⟩
theorem v_Jb_init : y_Jb_init.name = "<init>" ∧ Cond.instanceMethod y_Jb_init ∈ gw := ⟨rfl, gwm (lt2 25 rfl) rfl⟩
theorem v_Rg_init : y_Rg_init.name = "<init>" ∧ Cond.instanceMethod y_Rg_init ∈ gw := ⟨rfl, gwm (lt2 145 rfl) rfl⟩
theorem v_Rg_newest : Cond.instanceMethod y_Rg_newest ∈ gw ∧ Cond.selects y_Rg_newest.cls y_Rg_newest y_Rg_newest ∈ gw := ⟨gwm (lt2 102 rfl) rfl, gwm (lt2 103 rfl) rfl⟩
theorem v_Sc_init : y_Sc_init.name = "<init>" ∧ Cond.instanceMethod y_Sc_init ∈ gw := ⟨rfl, gwm (lt1 54 rfl) rfl⟩
theorem v_Tr_init : y_Tr_init.name = "<init>" ∧ Cond.instanceMethod y_Tr_init ∈ gw := ⟨rfl, gwm (lt1 39 rfl) rfl⟩
theorem v_Tr_workerComesTo : Cond.instanceMethod y_Tr_workerComesTo ∈ gw ∧ Cond.selects y_Tr_workerComesTo.cls y_Tr_workerComesTo y_Tr_workerComesTo ∈ gw := ⟨gwm (lt2 94 rfl) rfl, gwm (lt2 95 rfl) rfl⟩
theorem v_Tr_clientIsControlled : Cond.instanceMethod y_Tr_clientIsControlled ∈ gw ∧ Cond.selects y_Tr_clientIsControlled.cls y_Tr_clientIsControlled y_Tr_clientIsControlled ∈ gw := ⟨gwm (lt2 125 rfl) rfl, gwm (lt2 126 rfl) rfl⟩
theorem v_Tr_jobEnds : Cond.instanceMethod y_Tr_jobEnds ∈ gw ∧ Cond.selects y_Tr_jobEnds.cls y_Tr_jobEnds y_Tr_jobEnds ∈ gw := ⟨gwm (lt3 5 rfl) rfl, gwm (lt3 6 rfl) rfl⟩
theorem v_Tr_append : Cond.instanceMethod y_Tr_append ∈ gw ∧ Cond.selects y_Tr_append.cls y_Tr_append y_Tr_append ∈ gw := ⟨gwm (lt2 99 rfl) rfl, gwm (lt0 7 rfl) rfl⟩
theorem v_Wk_init : y_Wk_init.name = "<init>" ∧ Cond.instanceMethod y_Wk_init ∈ gw := ⟨rfl, gwm (lt2 183 rfl) rfl⟩
theorem oi_K : Cond.methodLink "ScopeKeeper" 1 objectInit ∈ gw := gwm (lt1 23 rfl) rfl
theorem oi_Tr : Cond.methodLink "ScopeKeeper$Trace" 3 objectInit ∈ gw := gwm (lt1 41 rfl) rfl
theorem oi_Sc : Cond.methodLink "ScopeKeeper$Script" 3 objectInit ∈ gw := gwm (lt1 56 rfl) rfl
theorem oi_Cl : Cond.methodLink "ScopeKeeper$Client" 1 objectInit ∈ gw := gwm (lt1 81 rfl) rfl
theorem oi_Jb : Cond.methodLink "ScopeKeeper$Job" 3 objectInit ∈ gw := gwm (lt2 27 rfl) rfl
theorem oi_Rg : Cond.methodLink "ScopeKeeper$Registration" 1 objectInit ∈ gw := gwm (lt2 147 rfl) rfl
theorem oi_Wk : Cond.methodLink "ScopeKeeper$Worker" 3 objectInit ∈ gw := gwm (lt2 185 rfl) rfl
theorem oi_Ca : Cond.methodLink "ScopeKeeper$Cache" 3 objectInit ∈ gw := gwm (lt2 191 rfl) rfl
theorem oi_Md : Cond.methodLink "ScopeKeeperModel" 1 objectInit ∈ gw := gwm (lt3 194 rfl) rfl
theorem oi_inst : Cond.instanceMethod objectInit ∈ gw := gwm (lt1 24 rfl) rfl
theorem oi_code : Cond.code objectInit ⟨#[0xb1]⟩ 1 none ∈ gw := gwm (lt1 25 rfl) rfl
theorem gw_int : Cond.arrayClass .int ∈ gw := gwm (lt1 51 rfl) rfl
theorem gw_long : Cond.arrayClass .long ∈ gw := gwm (lt4 226 rfl) rfl
end
section
theorem d_Ca_init_0 : decode b_Ca_init 0 = .ok (.aload_n 0, 1) := by decide +kernel
theorem d_Ca_init_1 : decode b_Ca_init 1 = .ok (.invokespecial 3, 3) := by decide +kernel
theorem d_Ca_init_4 : decode b_Ca_init 4 = .ok (.aload_n 0, 1) := by decide +kernel
theorem d_Ca_init_5 : decode b_Ca_init 5 = .ok (.iconst 4, 1) := by decide +kernel
theorem d_Ca_init_6 : decode b_Ca_init 6 = .ok (.newarray .int, 2) := by decide +kernel
theorem d_Ca_init_8 : decode b_Ca_init 8 = .ok (.putfield 9, 3) := by decide +kernel
theorem d_Ca_init_11 : decode b_Ca_init 11 = .ok (.aload_n 0, 1) := by decide +kernel
theorem d_Ca_init_12 : decode b_Ca_init 12 = .ok (.iconst 4, 1) := by decide +kernel
theorem d_Ca_init_13 : decode b_Ca_init 13 = .ok (.newarray .int, 2) := by decide +kernel
theorem d_Ca_init_15 : decode b_Ca_init 15 = .ok (.putfield 15, 3) := by decide +kernel
theorem d_Ca_init_18 : decode b_Ca_init 18 = .ok (.aload_n 0, 1) := by decide +kernel
theorem d_Ca_init_19 : decode b_Ca_init 19 = .ok (.iconst 0, 1) := by decide +kernel
theorem d_Ca_init_20 : decode b_Ca_init 20 = .ok (.putfield 18, 3) := by decide +kernel
theorem d_Ca_init_23 : decode b_Ca_init 23 = .ok (.return_, 1) := by decide +kernel
theorem d_Ca_placeOf_0 : decode b_Ca_placeOf 0 = .ok (.iconst 0, 1) := by decide +kernel
theorem d_Ca_placeOf_1 : decode b_Ca_placeOf 1 = .ok (.istore_n 2, 1) := by decide +kernel
theorem d_Ca_placeOf_2 : decode b_Ca_placeOf 2 = .ok (.iload_n 2, 1) := by decide +kernel
theorem d_Ca_placeOf_3 : decode b_Ca_placeOf 3 = .ok (.aload_n 0, 1) := by decide +kernel
theorem d_Ca_placeOf_4 : decode b_Ca_placeOf 4 = .ok (.getfield 18, 3) := by decide +kernel
theorem d_Ca_placeOf_7 : decode b_Ca_placeOf 7 = .ok (.if_icmp .ge 19, 3) := by decide +kernel
theorem d_Ca_placeOf_10 : decode b_Ca_placeOf 10 = .ok (.aload_n 0, 1) := by decide +kernel
theorem d_Ca_placeOf_11 : decode b_Ca_placeOf 11 = .ok (.getfield 9, 3) := by decide +kernel
theorem d_Ca_placeOf_14 : decode b_Ca_placeOf 14 = .ok (.iload_n 2, 1) := by decide +kernel
theorem d_Ca_placeOf_15 : decode b_Ca_placeOf 15 = .ok (.iaload, 1) := by decide +kernel
theorem d_Ca_placeOf_16 : decode b_Ca_placeOf 16 = .ok (.iload_n 1, 1) := by decide +kernel
theorem d_Ca_placeOf_17 : decode b_Ca_placeOf 17 = .ok (.if_icmp .eq 9, 3) := by decide +kernel
theorem d_Ca_placeOf_20 : decode b_Ca_placeOf 20 = .ok (.iinc 2 1, 3) := by decide +kernel
theorem d_Ca_placeOf_23 : decode b_Ca_placeOf 23 = .ok (.goto (-21), 3) := by decide +kernel
theorem d_Ca_placeOf_26 : decode b_Ca_placeOf 26 = .ok (.iload_n 2, 1) := by decide +kernel
theorem d_Ca_placeOf_27 : decode b_Ca_placeOf 27 = .ok (.ireturn, 1) := by decide +kernel
theorem d_Ca_has_0 : decode b_Ca_has 0 = .ok (.aload_n 0, 1) := by decide +kernel
theorem d_Ca_has_1 : decode b_Ca_has 1 = .ok (.iload_n 1, 1) := by decide +kernel
theorem d_Ca_has_2 : decode b_Ca_has 2 = .ok (.invokevirtual 22, 3) := by decide +kernel
theorem d_Ca_has_5 : decode b_Ca_has 5 = .ok (.aload_n 0, 1) := by decide +kernel
theorem d_Ca_has_6 : decode b_Ca_has 6 = .ok (.getfield 18, 3) := by decide +kernel
theorem d_Ca_has_9 : decode b_Ca_has 9 = .ok (.if_icmp .ge 7, 3) := by decide +kernel
theorem d_Ca_has_12 : decode b_Ca_has 12 = .ok (.iconst 1, 1) := by decide +kernel
theorem d_Ca_has_13 : decode b_Ca_has 13 = .ok (.goto 4, 3) := by decide +kernel
theorem d_Ca_has_16 : decode b_Ca_has 16 = .ok (.iconst 0, 1) := by decide +kernel
theorem d_Ca_has_17 : decode b_Ca_has 17 = .ok (.ireturn, 1) := by decide +kernel
theorem d_Ca_valueOf_0 : decode b_Ca_valueOf 0 = .ok (.aload_n 0, 1) := by decide +kernel
theorem d_Ca_valueOf_1 : decode b_Ca_valueOf 1 = .ok (.aload_n 0, 1) := by decide +kernel
theorem d_Ca_valueOf_2 : decode b_Ca_valueOf 2 = .ok (.iload_n 1, 1) := by decide +kernel
theorem d_Ca_valueOf_3 : decode b_Ca_valueOf 3 = .ok (.invokevirtual 22, 3) := by decide +kernel
theorem d_Ca_valueOf_6 : decode b_Ca_valueOf 6 = .ok (.invokevirtual 26, 3) := by decide +kernel
theorem d_Ca_valueOf_9 : decode b_Ca_valueOf 9 = .ok (.ireturn, 1) := by decide +kernel
theorem d_Ca_pathAt_0 : decode b_Ca_pathAt 0 = .ok (.iload_n 1, 1) := by decide +kernel
theorem d_Ca_pathAt_1 : decode b_Ca_pathAt 1 = .ok (.ifCond .lt 20, 3) := by decide +kernel
theorem d_Ca_pathAt_4 : decode b_Ca_pathAt 4 = .ok (.iload_n 1, 1) := by decide +kernel
theorem d_Ca_pathAt_5 : decode b_Ca_pathAt 5 = .ok (.aload_n 0, 1) := by decide +kernel
theorem d_Ca_pathAt_6 : decode b_Ca_pathAt 6 = .ok (.getfield 18, 3) := by decide +kernel
theorem d_Ca_pathAt_9 : decode b_Ca_pathAt 9 = .ok (.if_icmp .ge 12, 3) := by decide +kernel
theorem d_Ca_pathAt_12 : decode b_Ca_pathAt 12 = .ok (.aload_n 0, 1) := by decide +kernel
theorem d_Ca_pathAt_13 : decode b_Ca_pathAt 13 = .ok (.getfield 9, 3) := by decide +kernel
theorem d_Ca_pathAt_16 : decode b_Ca_pathAt 16 = .ok (.iload_n 1, 1) := by decide +kernel
theorem d_Ca_pathAt_17 : decode b_Ca_pathAt 17 = .ok (.iaload, 1) := by decide +kernel
theorem d_Ca_pathAt_18 : decode b_Ca_pathAt 18 = .ok (.goto 4, 3) := by decide +kernel
theorem d_Ca_pathAt_21 : decode b_Ca_pathAt 21 = .ok (.iconst 0, 1) := by decide +kernel
theorem d_Ca_pathAt_22 : decode b_Ca_pathAt 22 = .ok (.ireturn, 1) := by decide +kernel
theorem d_Ca_valueAt_0 : decode b_Ca_valueAt 0 = .ok (.iload_n 1, 1) := by decide +kernel
theorem d_Ca_valueAt_1 : decode b_Ca_valueAt 1 = .ok (.ifCond .lt 20, 3) := by decide +kernel
theorem d_Ca_valueAt_4 : decode b_Ca_valueAt 4 = .ok (.iload_n 1, 1) := by decide +kernel
theorem d_Ca_valueAt_5 : decode b_Ca_valueAt 5 = .ok (.aload_n 0, 1) := by decide +kernel
theorem d_Ca_valueAt_6 : decode b_Ca_valueAt 6 = .ok (.getfield 18, 3) := by decide +kernel
theorem d_Ca_valueAt_9 : decode b_Ca_valueAt 9 = .ok (.if_icmp .ge 12, 3) := by decide +kernel
theorem d_Ca_valueAt_12 : decode b_Ca_valueAt 12 = .ok (.aload_n 0, 1) := by decide +kernel
theorem d_Ca_valueAt_13 : decode b_Ca_valueAt 13 = .ok (.getfield 15, 3) := by decide +kernel
theorem d_Ca_valueAt_16 : decode b_Ca_valueAt 16 = .ok (.iload_n 1, 1) := by decide +kernel
theorem d_Ca_valueAt_17 : decode b_Ca_valueAt 17 = .ok (.iaload, 1) := by decide +kernel
theorem d_Ca_valueAt_18 : decode b_Ca_valueAt 18 = .ok (.goto 4, 3) := by decide +kernel
theorem d_Ca_valueAt_21 : decode b_Ca_valueAt 21 = .ok (.iconst 0, 1) := by decide +kernel
theorem d_Ca_valueAt_22 : decode b_Ca_valueAt 22 = .ok (.ireturn, 1) := by decide +kernel
theorem d_Ca_keep_0 : decode b_Ca_keep 0 = .ok (.aload_n 0, 1) := by decide +kernel
theorem d_Ca_keep_1 : decode b_Ca_keep 1 = .ok (.iload_n 1, 1) := by decide +kernel
theorem d_Ca_keep_2 : decode b_Ca_keep 2 = .ok (.invokevirtual 29, 3) := by decide +kernel
theorem d_Ca_keep_5 : decode b_Ca_keep 5 = .ok (.ifCond .eq 15, 3) := by decide +kernel
theorem d_Ca_keep_8 : decode b_Ca_keep 8 = .ok (.aload_n 0, 1) := by decide +kernel
theorem d_Ca_keep_9 : decode b_Ca_keep 9 = .ok (.aload_n 0, 1) := by decide +kernel
theorem d_Ca_keep_10 : decode b_Ca_keep 10 = .ok (.iload_n 1, 1) := by decide +kernel
theorem d_Ca_keep_11 : decode b_Ca_keep 11 = .ok (.invokevirtual 22, 3) := by decide +kernel
theorem d_Ca_keep_14 : decode b_Ca_keep 14 = .ok (.invokevirtual 33, 3) := by decide +kernel
theorem d_Ca_keep_17 : decode b_Ca_keep 17 = .ok (.goto 16, 3) := by decide +kernel
theorem d_Ca_keep_20 : decode b_Ca_keep 20 = .ok (.aload_n 0, 1) := by decide +kernel
theorem d_Ca_keep_21 : decode b_Ca_keep 21 = .ok (.getfield 18, 3) := by decide +kernel
theorem d_Ca_keep_24 : decode b_Ca_keep 24 = .ok (.iconst 4, 1) := by decide +kernel
theorem d_Ca_keep_25 : decode b_Ca_keep 25 = .ok (.if_icmp .lt 8, 3) := by decide +kernel
theorem d_Ca_keep_28 : decode b_Ca_keep 28 = .ok (.aload_n 0, 1) := by decide +kernel
theorem d_Ca_keep_29 : decode b_Ca_keep 29 = .ok (.iconst 0, 1) := by decide +kernel
theorem d_Ca_keep_30 : decode b_Ca_keep 30 = .ok (.invokevirtual 33, 3) := by decide +kernel
theorem d_Ca_keep_33 : decode b_Ca_keep 33 = .ok (.aload_n 0, 1) := by decide +kernel
theorem d_Ca_keep_34 : decode b_Ca_keep 34 = .ok (.getfield 9, 3) := by decide +kernel
theorem d_Ca_keep_37 : decode b_Ca_keep 37 = .ok (.aload_n 0, 1) := by decide +kernel
theorem d_Ca_keep_38 : decode b_Ca_keep 38 = .ok (.getfield 18, 3) := by decide +kernel
theorem d_Ca_keep_41 : decode b_Ca_keep 41 = .ok (.iload_n 1, 1) := by decide +kernel
theorem d_Ca_keep_42 : decode b_Ca_keep 42 = .ok (.iastore, 1) := by decide +kernel
theorem d_Ca_keep_43 : decode b_Ca_keep 43 = .ok (.aload_n 0, 1) := by decide +kernel
theorem d_Ca_keep_44 : decode b_Ca_keep 44 = .ok (.getfield 15, 3) := by decide +kernel
theorem d_Ca_keep_47 : decode b_Ca_keep 47 = .ok (.aload_n 0, 1) := by decide +kernel
theorem d_Ca_keep_48 : decode b_Ca_keep 48 = .ok (.getfield 18, 3) := by decide +kernel
theorem d_Ca_keep_51 : decode b_Ca_keep 51 = .ok (.iload_n 2, 1) := by decide +kernel
theorem d_Ca_keep_52 : decode b_Ca_keep 52 = .ok (.iastore, 1) := by decide +kernel
theorem d_Ca_keep_53 : decode b_Ca_keep 53 = .ok (.aload_n 0, 1) := by decide +kernel
theorem d_Ca_keep_54 : decode b_Ca_keep 54 = .ok (.dup, 1) := by decide +kernel
theorem d_Ca_keep_55 : decode b_Ca_keep 55 = .ok (.getfield 18, 3) := by decide +kernel
theorem d_Ca_keep_58 : decode b_Ca_keep 58 = .ok (.iconst 1, 1) := by decide +kernel
theorem d_Ca_keep_59 : decode b_Ca_keep 59 = .ok (.iadd, 1) := by decide +kernel
theorem d_Ca_keep_60 : decode b_Ca_keep 60 = .ok (.putfield 18, 3) := by decide +kernel
theorem d_Ca_keep_63 : decode b_Ca_keep 63 = .ok (.return_, 1) := by decide +kernel
theorem d_Ca_drop_0 : decode b_Ca_drop 0 = .ok (.iload_n 1, 1) := by decide +kernel
theorem d_Ca_drop_1 : decode b_Ca_drop 1 = .ok (.istore_n 2, 1) := by decide +kernel
theorem d_Ca_drop_2 : decode b_Ca_drop 2 = .ok (.iload_n 2, 1) := by decide +kernel
theorem d_Ca_drop_3 : decode b_Ca_drop 3 = .ok (.iconst 1, 1) := by decide +kernel
theorem d_Ca_drop_4 : decode b_Ca_drop 4 = .ok (.iadd, 1) := by decide +kernel
theorem d_Ca_drop_5 : decode b_Ca_drop 5 = .ok (.aload_n 0, 1) := by decide +kernel
theorem d_Ca_drop_6 : decode b_Ca_drop 6 = .ok (.getfield 18, 3) := by decide +kernel
theorem d_Ca_drop_9 : decode b_Ca_drop 9 = .ok (.if_icmp .ge 37, 3) := by decide +kernel
theorem d_Ca_drop_12 : decode b_Ca_drop 12 = .ok (.aload_n 0, 1) := by decide +kernel
theorem d_Ca_drop_13 : decode b_Ca_drop 13 = .ok (.getfield 9, 3) := by decide +kernel
theorem d_Ca_drop_16 : decode b_Ca_drop 16 = .ok (.iload_n 2, 1) := by decide +kernel
theorem d_Ca_drop_17 : decode b_Ca_drop 17 = .ok (.aload_n 0, 1) := by decide +kernel
theorem d_Ca_drop_18 : decode b_Ca_drop 18 = .ok (.getfield 9, 3) := by decide +kernel
theorem d_Ca_drop_21 : decode b_Ca_drop 21 = .ok (.iload_n 2, 1) := by decide +kernel
theorem d_Ca_drop_22 : decode b_Ca_drop 22 = .ok (.iconst 1, 1) := by decide +kernel
theorem d_Ca_drop_23 : decode b_Ca_drop 23 = .ok (.iadd, 1) := by decide +kernel
theorem d_Ca_drop_24 : decode b_Ca_drop 24 = .ok (.iaload, 1) := by decide +kernel
theorem d_Ca_drop_25 : decode b_Ca_drop 25 = .ok (.iastore, 1) := by decide +kernel
theorem d_Ca_drop_26 : decode b_Ca_drop 26 = .ok (.aload_n 0, 1) := by decide +kernel
theorem d_Ca_drop_27 : decode b_Ca_drop 27 = .ok (.getfield 15, 3) := by decide +kernel
theorem d_Ca_drop_30 : decode b_Ca_drop 30 = .ok (.iload_n 2, 1) := by decide +kernel
theorem d_Ca_drop_31 : decode b_Ca_drop 31 = .ok (.aload_n 0, 1) := by decide +kernel
theorem d_Ca_drop_32 : decode b_Ca_drop 32 = .ok (.getfield 15, 3) := by decide +kernel
theorem d_Ca_drop_35 : decode b_Ca_drop 35 = .ok (.iload_n 2, 1) := by decide +kernel
theorem d_Ca_drop_36 : decode b_Ca_drop 36 = .ok (.iconst 1, 1) := by decide +kernel
theorem d_Ca_drop_37 : decode b_Ca_drop 37 = .ok (.iadd, 1) := by decide +kernel
theorem d_Ca_drop_38 : decode b_Ca_drop 38 = .ok (.iaload, 1) := by decide +kernel
theorem d_Ca_drop_39 : decode b_Ca_drop 39 = .ok (.iastore, 1) := by decide +kernel
theorem d_Ca_drop_40 : decode b_Ca_drop 40 = .ok (.iinc 2 1, 3) := by decide +kernel
theorem d_Ca_drop_43 : decode b_Ca_drop 43 = .ok (.goto (-41), 3) := by decide +kernel
theorem d_Ca_drop_46 : decode b_Ca_drop 46 = .ok (.aload_n 0, 1) := by decide +kernel
theorem d_Ca_drop_47 : decode b_Ca_drop 47 = .ok (.dup, 1) := by decide +kernel
theorem d_Ca_drop_48 : decode b_Ca_drop 48 = .ok (.getfield 18, 3) := by decide +kernel
theorem d_Ca_drop_51 : decode b_Ca_drop 51 = .ok (.iconst 1, 1) := by decide +kernel
theorem d_Ca_drop_52 : decode b_Ca_drop 52 = .ok (.isub, 1) := by decide +kernel
theorem d_Ca_drop_53 : decode b_Ca_drop 53 = .ok (.putfield 18, 3) := by decide +kernel
theorem d_Ca_drop_56 : decode b_Ca_drop 56 = .ok (.return_, 1) := by decide +kernel
theorem d_Cl_init_0 : decode b_Cl_init 0 = .ok (.aload_n 0, 1) := by decide +kernel
theorem d_Cl_init_1 : decode b_Cl_init 1 = .ok (.invokespecial 1, 3) := by decide +kernel
theorem d_Cl_init_4 : decode b_Cl_init 4 = .ok (.aload_n 0, 1) := by decide +kernel
theorem d_Cl_init_5 : decode b_Cl_init 5 = .ok (.iconst 0, 1) := by decide +kernel
theorem d_Cl_init_6 : decode b_Cl_init 6 = .ok (.putfield 7, 3) := by decide +kernel
theorem d_Cl_init_9 : decode b_Cl_init 9 = .ok (.aload_n 0, 1) := by decide +kernel
theorem d_Cl_init_10 : decode b_Cl_init 10 = .ok (.iconst 0, 1) := by decide +kernel
theorem d_Cl_init_11 : decode b_Cl_init 11 = .ok (.putfield 13, 3) := by decide +kernel
theorem d_Cl_init_14 : decode b_Cl_init 14 = .ok (.aload_n 0, 1) := by decide +kernel
theorem d_Cl_init_15 : decode b_Cl_init 15 = .ok (.aconst_null, 1) := by decide +kernel
theorem d_Cl_init_16 : decode b_Cl_init 16 = .ok (.putfield 17, 3) := by decide +kernel
theorem d_Cl_init_19 : decode b_Cl_init 19 = .ok (.return_, 1) := by decide +kernel
theorem d_Jb_init_0 : decode b_Jb_init 0 = .ok (.aload_n 0, 1) := by decide +kernel
theorem d_Jb_init_1 : decode b_Jb_init 1 = .ok (.invokespecial 3, 3) := by decide +kernel
theorem d_Jb_init_4 : decode b_Jb_init 4 = .ok (.aload_n 0, 1) := by decide +kernel
theorem d_Jb_init_5 : decode b_Jb_init 5 = .ok (.iconst 0, 1) := by decide +kernel
theorem d_Jb_init_6 : decode b_Jb_init 6 = .ok (.putfield 9, 3) := by decide +kernel
theorem d_Jb_init_9 : decode b_Jb_init 9 = .ok (.aload_n 0, 1) := by decide +kernel
theorem d_Jb_init_10 : decode b_Jb_init 10 = .ok (.iconst 0, 1) := by decide +kernel
theorem d_Jb_init_11 : decode b_Jb_init 11 = .ok (.putfield 15, 3) := by decide +kernel
theorem d_Jb_init_14 : decode b_Jb_init 14 = .ok (.aload_n 0, 1) := by decide +kernel
theorem d_Jb_init_15 : decode b_Jb_init 15 = .ok (.iload_n 1, 1) := by decide +kernel
theorem d_Jb_init_16 : decode b_Jb_init 16 = .ok (.putfield 19, 3) := by decide +kernel
theorem d_Jb_init_19 : decode b_Jb_init 19 = .ok (.aload_n 0, 1) := by decide +kernel
theorem d_Jb_init_20 : decode b_Jb_init 20 = .ok (.iload_n 2, 1) := by decide +kernel
theorem d_Jb_init_21 : decode b_Jb_init 21 = .ok (.putfield 22, 3) := by decide +kernel
theorem d_Jb_init_24 : decode b_Jb_init 24 = .ok (.aload_n 0, 1) := by decide +kernel
theorem d_Jb_init_25 : decode b_Jb_init 25 = .ok (.iload_n 3, 1) := by decide +kernel
theorem d_Jb_init_26 : decode b_Jb_init 26 = .ok (.putfield 25, 3) := by decide +kernel
theorem d_Jb_init_29 : decode b_Jb_init 29 = .ok (.aload_n 0, 1) := by decide +kernel
theorem d_Jb_init_30 : decode b_Jb_init 30 = .ok (.iload 4, 2) := by decide +kernel
theorem d_Jb_init_32 : decode b_Jb_init 32 = .ok (.putfield 28, 3) := by decide +kernel
theorem d_Jb_init_35 : decode b_Jb_init 35 = .ok (.return_, 1) := by decide +kernel
theorem d_Rg_init_0 : decode b_Rg_init 0 = .ok (.aload_n 0, 1) := by decide +kernel
theorem d_Rg_init_1 : decode b_Rg_init 1 = .ok (.invokespecial 1, 3) := by decide +kernel
theorem d_Rg_init_4 : decode b_Rg_init 4 = .ok (.aload_n 0, 1) := by decide +kernel
theorem d_Rg_init_5 : decode b_Rg_init 5 = .ok (.iconst 0, 1) := by decide +kernel
theorem d_Rg_init_6 : decode b_Rg_init 6 = .ok (.putfield 7, 3) := by decide +kernel
theorem d_Rg_init_9 : decode b_Rg_init 9 = .ok (.aload_n 0, 1) := by decide +kernel
theorem d_Rg_init_10 : decode b_Rg_init 10 = .ok (.aconst_null, 1) := by decide +kernel
theorem d_Rg_init_11 : decode b_Rg_init 11 = .ok (.putfield 13, 3) := by decide +kernel
theorem d_Rg_init_14 : decode b_Rg_init 14 = .ok (.aload_n 0, 1) := by decide +kernel
theorem d_Rg_init_15 : decode b_Rg_init 15 = .ok (.aconst_null, 1) := by decide +kernel
theorem d_Rg_init_16 : decode b_Rg_init 16 = .ok (.putfield 17, 3) := by decide +kernel
theorem d_Rg_init_19 : decode b_Rg_init 19 = .ok (.aload_n 0, 1) := by decide +kernel
theorem d_Rg_init_20 : decode b_Rg_init 20 = .ok (.aconst_null, 1) := by decide +kernel
theorem d_Rg_init_21 : decode b_Rg_init 21 = .ok (.putfield 20, 3) := by decide +kernel
theorem d_Rg_init_24 : decode b_Rg_init 24 = .ok (.aload_n 0, 1) := by decide +kernel
theorem d_Rg_init_25 : decode b_Rg_init 25 = .ok (.iconst 0, 1) := by decide +kernel
theorem d_Rg_init_26 : decode b_Rg_init 26 = .ok (.putfield 23, 3) := by decide +kernel
theorem d_Rg_init_29 : decode b_Rg_init 29 = .ok (.aload_n 0, 1) := by decide +kernel
theorem d_Rg_init_30 : decode b_Rg_init 30 = .ok (.iload_n 1, 1) := by decide +kernel
theorem d_Rg_init_31 : decode b_Rg_init 31 = .ok (.putfield 27, 3) := by decide +kernel
theorem d_Rg_init_34 : decode b_Rg_init 34 = .ok (.return_, 1) := by decide +kernel
theorem d_Rg_newest_0 : decode b_Rg_newest 0 = .ok (.aload_n 0, 1) := by decide +kernel
theorem d_Rg_newest_1 : decode b_Rg_newest 1 = .ok (.getfield 13, 3) := by decide +kernel
theorem d_Rg_newest_4 : decode b_Rg_newest 4 = .ok (.ifnull 8, 3) := by decide +kernel
theorem d_Rg_newest_7 : decode b_Rg_newest 7 = .ok (.aload_n 0, 1) := by decide +kernel
theorem d_Rg_newest_8 : decode b_Rg_newest 8 = .ok (.getfield 13, 3) := by decide +kernel
theorem d_Rg_newest_11 : decode b_Rg_newest 11 = .ok (.areturn, 1) := by decide +kernel
theorem d_Rg_newest_12 : decode b_Rg_newest 12 = .ok (.aload_n 0, 1) := by decide +kernel
theorem d_Rg_newest_13 : decode b_Rg_newest 13 = .ok (.getfield 17, 3) := by decide +kernel
theorem d_Rg_newest_16 : decode b_Rg_newest 16 = .ok (.ifnull 10, 3) := by decide +kernel
theorem d_Rg_newest_19 : decode b_Rg_newest 19 = .ok (.aload_n 0, 1) := by decide +kernel
theorem d_Rg_newest_20 : decode b_Rg_newest 20 = .ok (.getfield 17, 3) := by decide +kernel
theorem d_Rg_newest_23 : decode b_Rg_newest 23 = .ok (.goto 7, 3) := by decide +kernel
theorem d_Rg_newest_26 : decode b_Rg_newest 26 = .ok (.aload_n 0, 1) := by decide +kernel
theorem d_Rg_newest_27 : decode b_Rg_newest 27 = .ok (.getfield 20, 3) := by decide +kernel
theorem d_Rg_newest_30 : decode b_Rg_newest 30 = .ok (.areturn, 1) := by decide +kernel
theorem d_Sc_init_0 : decode b_Sc_init 0 = .ok (.aload_n 0, 1) := by decide +kernel
theorem d_Sc_init_1 : decode b_Sc_init 1 = .ok (.invokespecial 3, 3) := by decide +kernel
theorem d_Sc_init_4 : decode b_Sc_init 4 = .ok (.aload_n 0, 1) := by decide +kernel
theorem d_Sc_init_5 : decode b_Sc_init 5 = .ok (.iconst 0, 1) := by decide +kernel
theorem d_Sc_init_6 : decode b_Sc_init 6 = .ok (.putfield 9, 3) := by decide +kernel
theorem d_Sc_init_9 : decode b_Sc_init 9 = .ok (.aload_n 0, 1) := by decide +kernel
theorem d_Sc_init_10 : decode b_Sc_init 10 = .ok (.iconst 0, 1) := by decide +kernel
theorem d_Sc_init_11 : decode b_Sc_init 11 = .ok (.putfield 15, 3) := by decide +kernel
theorem d_Sc_init_14 : decode b_Sc_init 14 = .ok (.aload_n 0, 1) := by decide +kernel
theorem d_Sc_init_15 : decode b_Sc_init 15 = .ok (.iconst 0, 1) := by decide +kernel
theorem d_Sc_init_16 : decode b_Sc_init 16 = .ok (.putfield 18, 3) := by decide +kernel
theorem d_Sc_init_19 : decode b_Sc_init 19 = .ok (.aload_n 0, 1) := by decide +kernel
theorem d_Sc_init_20 : decode b_Sc_init 20 = .ok (.iconst 0, 1) := by decide +kernel
theorem d_Sc_init_21 : decode b_Sc_init 21 = .ok (.putfield 21, 3) := by decide +kernel
theorem d_Sc_init_24 : decode b_Sc_init 24 = .ok (.return_, 1) := by decide +kernel
theorem d_Tr_init_0 : decode b_Tr_init 0 = .ok (.aload_n 0, 1) := by decide +kernel
theorem d_Tr_init_1 : decode b_Tr_init 1 = .ok (.invokespecial 3, 3) := by decide +kernel
theorem d_Tr_init_4 : decode b_Tr_init 4 = .ok (.aload_n 0, 1) := by decide +kernel
theorem d_Tr_init_5 : decode b_Tr_init 5 = .ok (.bipush 60, 2) := by decide +kernel
theorem d_Tr_init_7 : decode b_Tr_init 7 = .ok (.newarray .int, 2) := by decide +kernel
theorem d_Tr_init_9 : decode b_Tr_init 9 = .ok (.putfield 9, 3) := by decide +kernel
theorem d_Tr_init_12 : decode b_Tr_init 12 = .ok (.aload_n 0, 1) := by decide +kernel
theorem d_Tr_init_13 : decode b_Tr_init 13 = .ok (.iconst 0, 1) := by decide +kernel
theorem d_Tr_init_14 : decode b_Tr_init 14 = .ok (.putfield 15, 3) := by decide +kernel
theorem d_Tr_init_17 : decode b_Tr_init 17 = .ok (.return_, 1) := by decide +kernel
theorem d_Tr_workerComesTo_0 : decode b_Tr_workerComesTo 0 = .ok (.aload_n 0, 1) := by decide +kernel
theorem d_Tr_workerComesTo_1 : decode b_Tr_workerComesTo 1 = .ok (.bipush 8, 2) := by decide +kernel
theorem d_Tr_workerComesTo_3 : decode b_Tr_workerComesTo 3 = .ok (.iload_n 1, 1) := by decide +kernel
theorem d_Tr_workerComesTo_4 : decode b_Tr_workerComesTo 4 = .ok (.imul, 1) := by decide +kernel
theorem d_Tr_workerComesTo_5 : decode b_Tr_workerComesTo 5 = .ok (.iload_n 2, 1) := by decide +kernel
theorem d_Tr_workerComesTo_6 : decode b_Tr_workerComesTo 6 = .ok (.iadd, 1) := by decide +kernel
theorem d_Tr_workerComesTo_7 : decode b_Tr_workerComesTo 7 = .ok (.invokevirtual 19, 3) := by decide +kernel
theorem d_Tr_workerComesTo_10 : decode b_Tr_workerComesTo 10 = .ok (.return_, 1) := by decide +kernel
theorem d_Tr_clientIsControlled_0 : decode b_Tr_clientIsControlled 0 = .ok (.aload_n 0, 1) := by decide +kernel
theorem d_Tr_clientIsControlled_1 : decode b_Tr_clientIsControlled 1 = .ok (.bipush 64, 2) := by decide +kernel
theorem d_Tr_clientIsControlled_3 : decode b_Tr_clientIsControlled 3 = .ok (.iload_n 1, 1) := by decide +kernel
theorem d_Tr_clientIsControlled_4 : decode b_Tr_clientIsControlled 4 = .ok (.imul, 1) := by decide +kernel
theorem d_Tr_clientIsControlled_5 : decode b_Tr_clientIsControlled 5 = .ok (.iload_n 2, 1) := by decide +kernel
theorem d_Tr_clientIsControlled_6 : decode b_Tr_clientIsControlled 6 = .ok (.iadd, 1) := by decide +kernel
theorem d_Tr_clientIsControlled_7 : decode b_Tr_clientIsControlled 7 = .ok (.ineg, 1) := by decide +kernel
theorem d_Tr_clientIsControlled_8 : decode b_Tr_clientIsControlled 8 = .ok (.iconst 1, 1) := by decide +kernel
theorem d_Tr_clientIsControlled_9 : decode b_Tr_clientIsControlled 9 = .ok (.isub, 1) := by decide +kernel
theorem d_Tr_clientIsControlled_10 : decode b_Tr_clientIsControlled 10 = .ok (.invokevirtual 19, 3) := by decide +kernel
theorem d_Tr_clientIsControlled_13 : decode b_Tr_clientIsControlled 13 = .ok (.return_, 1) := by decide +kernel
theorem d_Tr_jobEnds_0 : decode b_Tr_jobEnds 0 = .ok (.aload_n 0, 1) := by decide +kernel
theorem d_Tr_jobEnds_1 : decode b_Tr_jobEnds 1 = .ok (.sipush 1000, 3) := by decide +kernel
theorem d_Tr_jobEnds_4 : decode b_Tr_jobEnds 4 = .ok (.iload_n 1, 1) := by decide +kernel
theorem d_Tr_jobEnds_5 : decode b_Tr_jobEnds 5 = .ok (.iadd, 1) := by decide +kernel
theorem d_Tr_jobEnds_6 : decode b_Tr_jobEnds 6 = .ok (.invokevirtual 19, 3) := by decide +kernel
theorem d_Tr_jobEnds_9 : decode b_Tr_jobEnds 9 = .ok (.return_, 1) := by decide +kernel
theorem d_Tr_append_0 : decode b_Tr_append 0 = .ok (.aload_n 0, 1) := by decide +kernel
theorem d_Tr_append_1 : decode b_Tr_append 1 = .ok (.getfield 15, 3) := by decide +kernel
theorem d_Tr_append_4 : decode b_Tr_append 4 = .ok (.bipush 60, 2) := by decide +kernel
theorem d_Tr_append_6 : decode b_Tr_append 6 = .ok (.if_icmp .ge 23, 3) := by decide +kernel
theorem d_Tr_append_9 : decode b_Tr_append 9 = .ok (.aload_n 0, 1) := by decide +kernel
theorem d_Tr_append_10 : decode b_Tr_append 10 = .ok (.getfield 9, 3) := by decide +kernel
theorem d_Tr_append_13 : decode b_Tr_append 13 = .ok (.aload_n 0, 1) := by decide +kernel
theorem d_Tr_append_14 : decode b_Tr_append 14 = .ok (.getfield 15, 3) := by decide +kernel
theorem d_Tr_append_17 : decode b_Tr_append 17 = .ok (.iload_n 1, 1) := by decide +kernel
theorem d_Tr_append_18 : decode b_Tr_append 18 = .ok (.iastore, 1) := by decide +kernel
theorem d_Tr_append_19 : decode b_Tr_append 19 = .ok (.aload_n 0, 1) := by decide +kernel
theorem d_Tr_append_20 : decode b_Tr_append 20 = .ok (.dup, 1) := by decide +kernel
theorem d_Tr_append_21 : decode b_Tr_append 21 = .ok (.getfield 15, 3) := by decide +kernel
theorem d_Tr_append_24 : decode b_Tr_append 24 = .ok (.iconst 1, 1) := by decide +kernel
theorem d_Tr_append_25 : decode b_Tr_append 25 = .ok (.iadd, 1) := by decide +kernel
theorem d_Tr_append_26 : decode b_Tr_append 26 = .ok (.putfield 15, 3) := by decide +kernel
theorem d_Tr_append_29 : decode b_Tr_append 29 = .ok (.return_, 1) := by decide +kernel
theorem d_Wk_init_0 : decode b_Wk_init 0 = .ok (.aload_n 0, 1) := by decide +kernel
theorem d_Wk_init_1 : decode b_Wk_init 1 = .ok (.invokespecial 3, 3) := by decide +kernel
theorem d_Wk_init_4 : decode b_Wk_init 4 = .ok (.aload_n 0, 1) := by decide +kernel
theorem d_Wk_init_5 : decode b_Wk_init 5 = .ok (.new 9, 3) := by decide +kernel
theorem d_Wk_init_8 : decode b_Wk_init 8 = .ok (.dup, 1) := by decide +kernel
theorem d_Wk_init_9 : decode b_Wk_init 9 = .ok (.invokespecial 11, 3) := by decide +kernel
theorem d_Wk_init_12 : decode b_Wk_init 12 = .ok (.putfield 12, 3) := by decide +kernel
theorem d_Wk_init_15 : decode b_Wk_init 15 = .ok (.aload_n 0, 1) := by decide +kernel
theorem d_Wk_init_16 : decode b_Wk_init 16 = .ok (.iconst 1, 1) := by decide +kernel
theorem d_Wk_init_17 : decode b_Wk_init 17 = .ok (.putfield 18, 3) := by decide +kernel
theorem d_Wk_init_20 : decode b_Wk_init 20 = .ok (.aload_n 0, 1) := by decide +kernel
theorem d_Wk_init_21 : decode b_Wk_init 21 = .ok (.iconst 0, 1) := by decide +kernel
theorem d_Wk_init_22 : decode b_Wk_init 22 = .ok (.putfield 22, 3) := by decide +kernel
theorem d_Wk_init_25 : decode b_Wk_init 25 = .ok (.aload_n 0, 1) := by decide +kernel
theorem d_Wk_init_26 : decode b_Wk_init 26 = .ok (.iload_n 1, 1) := by decide +kernel
theorem d_Wk_init_27 : decode b_Wk_init 27 = .ok (.putfield 26, 3) := by decide +kernel
theorem d_Wk_init_30 : decode b_Wk_init 30 = .ok (.aload_n 0, 1) := by decide +kernel
theorem d_Wk_init_31 : decode b_Wk_init 31 = .ok (.aload_n 2, 1) := by decide +kernel
theorem d_Wk_init_32 : decode b_Wk_init 32 = .ok (.getfield 29, 3) := by decide +kernel
theorem d_Wk_init_35 : decode b_Wk_init 35 = .ok (.putfield 34, 3) := by decide +kernel
theorem d_Wk_init_38 : decode b_Wk_init 38 = .ok (.aload_n 0, 1) := by decide +kernel
theorem d_Wk_init_39 : decode b_Wk_init 39 = .ok (.aload_n 2, 1) := by decide +kernel
theorem d_Wk_init_40 : decode b_Wk_init 40 = .ok (.getfield 35, 3) := by decide +kernel
theorem d_Wk_init_43 : decode b_Wk_init 43 = .ok (.putfield 38, 3) := by decide +kernel
theorem d_Wk_init_46 : decode b_Wk_init 46 = .ok (.aload_n 0, 1) := by decide +kernel
theorem d_Wk_init_47 : decode b_Wk_init 47 = .ok (.aload_n 2, 1) := by decide +kernel
theorem d_Wk_init_48 : decode b_Wk_init 48 = .ok (.getfield 39, 3) := by decide +kernel
theorem d_Wk_init_51 : decode b_Wk_init 51 = .ok (.putfield 42, 3) := by decide +kernel
theorem d_Wk_init_54 : decode b_Wk_init 54 = .ok (.return_, 1) := by decide +kernel
end
section
theorem d_K_init_0 : decode b_K_init 0 = .ok (.aload_n 0, 1) := by decide +kernel
theorem d_K_init_1 : decode b_K_init 1 = .ok (.invokespecial 1, 3) := by decide +kernel
theorem d_K_init_4 : decode b_K_init 4 = .ok (.aload_n 0, 1) := by decide +kernel
theorem d_K_init_5 : decode b_K_init 5 = .ok (.iconst 4, 1) := by decide +kernel
theorem d_K_init_6 : decode b_K_init 6 = .ok (.anewarray 9, 3) := by decide +kernel
theorem d_K_init_9 : decode b_K_init 9 = .ok (.putfield 11, 3) := by decide +kernel
theorem d_K_init_12 : decode b_K_init 12 = .ok (.aload_n 0, 1) := by decide +kernel
theorem d_K_init_13 : decode b_K_init 13 = .ok (.iconst 1, 1) := by decide +kernel
theorem d_K_init_14 : decode b_K_init 14 = .ok (.putfield 15, 3) := by decide +kernel
theorem d_K_init_17 : decode b_K_init 17 = .ok (.aload_n 0, 1) := by decide +kernel
theorem d_K_init_18 : decode b_K_init 18 = .ok (.iconst 0, 1) := by decide +kernel
theorem d_K_init_19 : decode b_K_init 19 = .ok (.putfield 19, 3) := by decide +kernel
theorem d_K_init_22 : decode b_K_init 22 = .ok (.aload_n 0, 1) := by decide +kernel
theorem d_K_init_23 : decode b_K_init 23 = .ok (.bipush 40, 2) := by decide +kernel
theorem d_K_init_25 : decode b_K_init 25 = .ok (.anewarray 23, 3) := by decide +kernel
theorem d_K_init_28 : decode b_K_init 28 = .ok (.putfield 25, 3) := by decide +kernel
theorem d_K_init_31 : decode b_K_init 31 = .ok (.aload_n 0, 1) := by decide +kernel
theorem d_K_init_32 : decode b_K_init 32 = .ok (.iconst 0, 1) := by decide +kernel
theorem d_K_init_33 : decode b_K_init 33 = .ok (.putfield 29, 3) := by decide +kernel
theorem d_K_init_36 : decode b_K_init 36 = .ok (.aload_n 0, 1) := by decide +kernel
theorem d_K_init_37 : decode b_K_init 37 = .ok (.iconst 5, 1) := by decide +kernel
theorem d_K_init_38 : decode b_K_init 38 = .ok (.anewarray 32, 3) := by decide +kernel
theorem d_K_init_41 : decode b_K_init 41 = .ok (.putfield 34, 3) := by decide +kernel
theorem d_K_init_44 : decode b_K_init 44 = .ok (.aload_n 0, 1) := by decide +kernel
theorem d_K_init_45 : decode b_K_init 45 = .ok (.iconst 0, 1) := by decide +kernel
theorem d_K_init_46 : decode b_K_init 46 = .ok (.putfield 38, 3) := by decide +kernel
theorem d_K_init_49 : decode b_K_init 49 = .ok (.aload_n 0, 1) := by decide +kernel
theorem d_K_init_50 : decode b_K_init 50 = .ok (.bipush 8, 2) := by decide +kernel
theorem d_K_init_52 : decode b_K_init 52 = .ok (.anewarray 41, 3) := by decide +kernel
theorem d_K_init_55 : decode b_K_init 55 = .ok (.putfield 43, 3) := by decide +kernel
theorem d_K_init_58 : decode b_K_init 58 = .ok (.aload_n 0, 1) := by decide +kernel
theorem d_K_init_59 : decode b_K_init 59 = .ok (.bipush 8, 2) := by decide +kernel
theorem d_K_init_61 : decode b_K_init 61 = .ok (.anewarray 23, 3) := by decide +kernel
theorem d_K_init_64 : decode b_K_init 64 = .ok (.putfield 47, 3) := by decide +kernel
theorem d_K_init_67 : decode b_K_init 67 = .ok (.aload_n 0, 1) := by decide +kernel
theorem d_K_init_68 : decode b_K_init 68 = .ok (.bipush 60, 2) := by decide +kernel
theorem d_K_init_70 : decode b_K_init 70 = .ok (.anewarray 50, 3) := by decide +kernel
theorem d_K_init_73 : decode b_K_init 73 = .ok (.putfield 52, 3) := by decide +kernel
theorem d_K_init_76 : decode b_K_init 76 = .ok (.aload_n 0, 1) := by decide +kernel
theorem d_K_init_77 : decode b_K_init 77 = .ok (.iconst 0, 1) := by decide +kernel
theorem d_K_init_78 : decode b_K_init 78 = .ok (.putfield 56, 3) := by decide +kernel
theorem d_K_init_81 : decode b_K_init 81 = .ok (.aload_n 0, 1) := by decide +kernel
theorem d_K_init_82 : decode b_K_init 82 = .ok (.new 59, 3) := by decide +kernel
theorem d_K_init_85 : decode b_K_init 85 = .ok (.dup, 1) := by decide +kernel
theorem d_K_init_86 : decode b_K_init 86 = .ok (.invokespecial 61, 3) := by decide +kernel
theorem d_K_init_89 : decode b_K_init 89 = .ok (.putfield 62, 3) := by decide +kernel
theorem d_K_init_92 : decode b_K_init 92 = .ok (.iconst 0, 1) := by decide +kernel
theorem d_K_init_93 : decode b_K_init 93 = .ok (.istore_n 1, 1) := by decide +kernel
theorem d_K_init_94 : decode b_K_init 94 = .ok (.iload_n 1, 1) := by decide +kernel
theorem d_K_init_95 : decode b_K_init 95 = .ok (.iconst 4, 1) := by decide +kernel
theorem d_K_init_96 : decode b_K_init 96 = .ok (.if_icmp .ge 22, 3) := by decide +kernel
theorem d_K_init_99 : decode b_K_init 99 = .ok (.aload_n 0, 1) := by decide +kernel
theorem d_K_init_100 : decode b_K_init 100 = .ok (.getfield 11, 3) := by decide +kernel
theorem d_K_init_103 : decode b_K_init 103 = .ok (.iload_n 1, 1) := by decide +kernel
theorem d_K_init_104 : decode b_K_init 104 = .ok (.new 9, 3) := by decide +kernel
theorem d_K_init_107 : decode b_K_init 107 = .ok (.dup, 1) := by decide +kernel
theorem d_K_init_108 : decode b_K_init 108 = .ok (.invokespecial 66, 3) := by decide +kernel
theorem d_K_init_111 : decode b_K_init 111 = .ok (.aastore, 1) := by decide +kernel
theorem d_K_init_112 : decode b_K_init 112 = .ok (.iinc 1 1, 3) := by decide +kernel
theorem d_K_init_115 : decode b_K_init 115 = .ok (.goto (-21), 3) := by decide +kernel
theorem d_K_init_118 : decode b_K_init 118 = .ok (.iconst 0, 1) := by decide +kernel
theorem d_K_init_119 : decode b_K_init 119 = .ok (.istore_n 1, 1) := by decide +kernel
theorem d_K_init_120 : decode b_K_init 120 = .ok (.iload_n 1, 1) := by decide +kernel
theorem d_K_init_121 : decode b_K_init 121 = .ok (.bipush 8, 2) := by decide +kernel
theorem d_K_init_123 : decode b_K_init 123 = .ok (.if_icmp .ge 22, 3) := by decide +kernel
theorem d_K_init_126 : decode b_K_init 126 = .ok (.aload_n 0, 1) := by decide +kernel
theorem d_K_init_127 : decode b_K_init 127 = .ok (.getfield 43, 3) := by decide +kernel
theorem d_K_init_130 : decode b_K_init 130 = .ok (.iload_n 1, 1) := by decide +kernel
theorem d_K_init_131 : decode b_K_init 131 = .ok (.new 41, 3) := by decide +kernel
theorem d_K_init_134 : decode b_K_init 134 = .ok (.dup, 1) := by decide +kernel
theorem d_K_init_135 : decode b_K_init 135 = .ok (.invokespecial 67, 3) := by decide +kernel
theorem d_K_init_138 : decode b_K_init 138 = .ok (.aastore, 1) := by decide +kernel
theorem d_K_init_139 : decode b_K_init 139 = .ok (.iinc 1 1, 3) := by decide +kernel
theorem d_K_init_142 : decode b_K_init 142 = .ok (.goto (-22), 3) := by decide +kernel
theorem d_K_init_145 : decode b_K_init 145 = .ok (.return_, 1) := by decide +kernel
theorem d_K_serve_0 : decode b_K_serve 0 = .ok (.iload_n 1, 1) := by decide +kernel
theorem d_K_serve_1 : decode b_K_serve 1 = .ok (.invokestatic 68, 3) := by decide +kernel
theorem d_K_serve_4 : decode b_K_serve 4 = .ok (.ifCond .eq 10, 3) := by decide +kernel
theorem d_K_serve_7 : decode b_K_serve 7 = .ok (.iload_n 3, 1) := by decide +kernel
theorem d_K_serve_8 : decode b_K_serve 8 = .ok (.invokestatic 72, 3) := by decide +kernel
theorem d_K_serve_11 : decode b_K_serve 11 = .ok (.ifCond .ne 13, 3) := by decide +kernel
theorem d_K_serve_14 : decode b_K_serve 14 = .ok (.new 75, 3) := by decide +kernel
theorem d_K_serve_17 : decode b_K_serve 17 = .ok (.dup, 1) := by decide +kernel
theorem d_K_serve_18 : decode b_K_serve 18 = .ok (.ldc 77, 2) := by decide +kernel
theorem d_K_serve_20 : decode b_K_serve 20 = .ok (.invokespecial 79, 3) := by decide +kernel
theorem d_K_serve_23 : decode b_K_serve 23 = .ok (.athrow, 1) := by decide +kernel
theorem d_K_serve_24 : decode b_K_serve 24 = .ok (.iload 4, 2) := by decide +kernel
theorem d_K_serve_26 : decode b_K_serve 26 = .ok (.ifCond .lt 20, 3) := by decide +kernel
theorem d_K_serve_29 : decode b_K_serve 29 = .ok (.iload 4, 2) := by decide +kernel
theorem d_K_serve_31 : decode b_K_serve 31 = .ok (.iconst 1, 1) := by decide +kernel
theorem d_K_serve_32 : decode b_K_serve 32 = .ok (.if_icmp .gt 14, 3) := by decide +kernel
theorem d_K_serve_35 : decode b_K_serve 35 = .ok (.iload 5, 2) := by decide +kernel
theorem d_K_serve_37 : decode b_K_serve 37 = .ok (.ifCond .lt 9, 3) := by decide +kernel
theorem d_K_serve_40 : decode b_K_serve 40 = .ok (.iload 5, 2) := by decide +kernel
theorem d_K_serve_42 : decode b_K_serve 42 = .ok (.iconst 3, 1) := by decide +kernel
theorem d_K_serve_43 : decode b_K_serve 43 = .ok (.if_icmp .le 13, 3) := by decide +kernel
theorem d_K_serve_46 : decode b_K_serve 46 = .ok (.new 75, 3) := by decide +kernel
theorem d_K_serve_49 : decode b_K_serve 49 = .ok (.dup, 1) := by decide +kernel
theorem d_K_serve_50 : decode b_K_serve 50 = .ok (.ldc 82, 2) := by decide +kernel
theorem d_K_serve_52 : decode b_K_serve 52 = .ok (.invokespecial 79, 3) := by decide +kernel
theorem d_K_serve_55 : decode b_K_serve 55 = .ok (.athrow, 1) := by decide +kernel
theorem d_K_serve_56 : decode b_K_serve 56 = .ok (.aload_n 0, 1) := by decide +kernel
theorem d_K_serve_57 : decode b_K_serve 57 = .ok (.getfield 11, 3) := by decide +kernel
theorem d_K_serve_60 : decode b_K_serve 60 = .ok (.iload_n 1, 1) := by decide +kernel
theorem d_K_serve_61 : decode b_K_serve 61 = .ok (.aaload, 1) := by decide +kernel
theorem d_K_serve_62 : decode b_K_serve 62 = .ok (.astore 6, 2) := by decide +kernel
theorem d_K_serve_64 : decode b_K_serve 64 = .ok (.aload 6, 2) := by decide +kernel
theorem d_K_serve_66 : decode b_K_serve 66 = .ok (.iload_n 2, 1) := by decide +kernel
theorem d_K_serve_67 : decode b_K_serve 67 = .ok (.putfield 84, 3) := by decide +kernel
theorem d_K_serve_70 : decode b_K_serve 70 = .ok (.aload 6, 2) := by decide +kernel
theorem d_K_serve_72 : decode b_K_serve 72 = .ok (.iload_n 3, 1) := by decide +kernel
theorem d_K_serve_73 : decode b_K_serve 73 = .ok (.putfield 87, 3) := by decide +kernel
theorem d_K_serve_76 : decode b_K_serve 76 = .ok (.aload 6, 2) := by decide +kernel
theorem d_K_serve_78 : decode b_K_serve 78 = .ok (.iload 4, 2) := by decide +kernel
theorem d_K_serve_80 : decode b_K_serve 80 = .ok (.putfield 90, 3) := by decide +kernel
theorem d_K_serve_83 : decode b_K_serve 83 = .ok (.aload 6, 2) := by decide +kernel
theorem d_K_serve_85 : decode b_K_serve 85 = .ok (.iload 5, 2) := by decide +kernel
theorem d_K_serve_87 : decode b_K_serve 87 = .ok (.putfield 93, 3) := by decide +kernel
theorem d_K_serve_90 : decode b_K_serve 90 = .ok (.return_, 1) := by decide +kernel
theorem d_K_network_0 : decode b_K_network 0 = .ok (.aload_n 0, 1) := by decide +kernel
theorem d_K_network_1 : decode b_K_network 1 = .ok (.getfield 15, 3) := by decide +kernel
theorem d_K_network_4 : decode b_K_network 4 = .ok (.istore_n 3, 1) := by decide +kernel
theorem d_K_network_5 : decode b_K_network 5 = .ok (.aload_n 0, 1) := by decide +kernel
theorem d_K_network_6 : decode b_K_network 6 = .ok (.iload_n 1, 1) := by decide +kernel
theorem d_K_network_7 : decode b_K_network 7 = .ok (.putfield 15, 3) := by decide +kernel
theorem d_K_network_10 : decode b_K_network 10 = .ok (.aload_n 0, 1) := by decide +kernel
theorem d_K_network_11 : decode b_K_network 11 = .ok (.iload_n 2, 1) := by decide +kernel
theorem d_K_network_12 : decode b_K_network 12 = .ok (.putfield 19, 3) := by decide +kernel
theorem d_K_network_15 : decode b_K_network 15 = .ok (.iload_n 3, 1) := by decide +kernel
theorem d_K_network_16 : decode b_K_network 16 = .ok (.ireturn, 1) := by decide +kernel
theorem d_K_job_0 : decode b_K_job 0 = .ok (.iload_n 1, 1) := by decide +kernel
theorem d_K_job_1 : decode b_K_job 1 = .ok (.ifCond .lt 8, 3) := by decide +kernel
theorem d_K_job_4 : decode b_K_job 4 = .ok (.iload_n 1, 1) := by decide +kernel
theorem d_K_job_5 : decode b_K_job 5 = .ok (.iconst 2, 1) := by decide +kernel
theorem d_K_job_6 : decode b_K_job 6 = .ok (.if_icmp .le 13, 3) := by decide +kernel
theorem d_K_job_9 : decode b_K_job 9 = .ok (.new 75, 3) := by decide +kernel
theorem d_K_job_12 : decode b_K_job 12 = .ok (.dup, 1) := by decide +kernel
theorem d_K_job_13 : decode b_K_job 13 = .ok (.ldc 96, 2) := by decide +kernel
theorem d_K_job_15 : decode b_K_job 15 = .ok (.invokespecial 79, 3) := by decide +kernel
theorem d_K_job_18 : decode b_K_job 18 = .ok (.athrow, 1) := by decide +kernel
theorem d_K_job_19 : decode b_K_job 19 = .ok (.iload_n 2, 1) := by decide +kernel
theorem d_K_job_20 : decode b_K_job 20 = .ok (.invokestatic 98, 3) := by decide +kernel
theorem d_K_job_23 : decode b_K_job 23 = .ok (.iload_n 1, 1) := by decide +kernel
theorem d_K_job_24 : decode b_K_job 24 = .ok (.ifCond .ne 20, 3) := by decide +kernel
theorem d_K_job_27 : decode b_K_job 27 = .ok (.iload_n 3, 1) := by decide +kernel
theorem d_K_job_28 : decode b_K_job 28 = .ok (.invokestatic 68, 3) := by decide +kernel
theorem d_K_job_31 : decode b_K_job 31 = .ok (.ifCond .ne 13, 3) := by decide +kernel
theorem d_K_job_34 : decode b_K_job 34 = .ok (.new 75, 3) := by decide +kernel
theorem d_K_job_37 : decode b_K_job 37 = .ok (.dup, 1) := by decide +kernel
theorem d_K_job_38 : decode b_K_job 38 = .ok (.ldc 102, 2) := by decide +kernel
theorem d_K_job_40 : decode b_K_job 40 = .ok (.invokespecial 79, 3) := by decide +kernel
theorem d_K_job_43 : decode b_K_job 43 = .ok (.athrow, 1) := by decide +kernel
theorem d_K_job_44 : decode b_K_job 44 = .ok (.iload_n 1, 1) := by decide +kernel
theorem d_K_job_45 : decode b_K_job 45 = .ok (.ifCond .ne 7, 3) := by decide +kernel
theorem d_K_job_48 : decode b_K_job 48 = .ok (.iload_n 3, 1) := by decide +kernel
theorem d_K_job_49 : decode b_K_job 49 = .ok (.goto 4, 3) := by decide +kernel
theorem d_K_job_52 : decode b_K_job 52 = .ok (.iconst 0, 1) := by decide +kernel
theorem d_K_job_53 : decode b_K_job 53 = .ok (.istore 4, 2) := by decide +kernel
theorem d_K_job_55 : decode b_K_job 55 = .ok (.aload_n 0, 1) := by decide +kernel
theorem d_K_job_56 : decode b_K_job 56 = .ok (.iload_n 2, 1) := by decide +kernel
theorem d_K_job_57 : decode b_K_job 57 = .ok (.invokevirtual 104, 3) := by decide +kernel
theorem d_K_job_60 : decode b_K_job 60 = .ok (.astore 5, 2) := by decide +kernel
theorem d_K_job_62 : decode b_K_job 62 = .ok (.aload 5, 2) := by decide +kernel
theorem d_K_job_64 : decode b_K_job 64 = .ok (.ifnull 36, 3) := by decide +kernel
theorem d_K_job_67 : decode b_K_job 67 = .ok (.aload 5, 2) := by decide +kernel
theorem d_K_job_69 : decode b_K_job 69 = .ok (.getfield 108, 3) := by decide +kernel
theorem d_K_job_72 : decode b_K_job 72 = .ok (.ifCond .ne 28, 3) := by decide +kernel
theorem d_K_job_75 : decode b_K_job 75 = .ok (.aload 5, 2) := by decide +kernel
theorem d_K_job_77 : decode b_K_job 77 = .ok (.getfield 111, 3) := by decide +kernel
theorem d_K_job_80 : decode b_K_job 80 = .ok (.iload_n 1, 1) := by decide +kernel
theorem d_K_job_81 : decode b_K_job 81 = .ok (.if_icmp .ne 19, 3) := by decide +kernel
theorem d_K_job_84 : decode b_K_job 84 = .ok (.aload 5, 2) := by decide +kernel
theorem d_K_job_86 : decode b_K_job 86 = .ok (.getfield 114, 3) := by decide +kernel
theorem d_K_job_89 : decode b_K_job 89 = .ok (.iload 4, 2) := by decide +kernel
theorem d_K_job_91 : decode b_K_job 91 = .ok (.if_icmp .ne 9, 3) := by decide +kernel
theorem d_K_job_94 : decode b_K_job 94 = .ok (.aload 5, 2) := by decide +kernel
theorem d_K_job_96 : decode b_K_job 96 = .ok (.getfield 117, 3) := by decide +kernel
theorem d_K_job_99 : decode b_K_job 99 = .ok (.ireturn, 1) := by decide +kernel
theorem d_K_job_100 : decode b_K_job 100 = .ok (.aload_n 0, 1) := by decide +kernel
theorem d_K_job_101 : decode b_K_job 101 = .ok (.iload_n 2, 1) := by decide +kernel
theorem d_K_job_102 : decode b_K_job 102 = .ok (.invokevirtual 120, 3) := by decide +kernel
theorem d_K_job_105 : decode b_K_job 105 = .ok (.iconst 4, 1) := by decide +kernel
theorem d_K_job_106 : decode b_K_job 106 = .ok (.if_icmp .ge 12, 3) := by decide +kernel
theorem d_K_job_109 : decode b_K_job 109 = .ok (.aload_n 0, 1) := by decide +kernel
theorem d_K_job_110 : decode b_K_job 110 = .ok (.getfield 56, 3) := by decide +kernel
theorem d_K_job_113 : decode b_K_job 113 = .ok (.bipush 60, 2) := by decide +kernel
theorem d_K_job_115 : decode b_K_job 115 = .ok (.if_icmp .lt 13, 3) := by decide +kernel
theorem d_K_job_118 : decode b_K_job 118 = .ok (.new 124, 3) := by decide +kernel
theorem d_K_job_121 : decode b_K_job 121 = .ok (.dup, 1) := by decide +kernel
theorem d_K_job_122 : decode b_K_job 122 = .ok (.ldc 126, 2) := by decide +kernel
theorem d_K_job_124 : decode b_K_job 124 = .ok (.invokespecial 128, 3) := by decide +kernel
theorem d_K_job_127 : decode b_K_job 127 = .ok (.athrow, 1) := by decide +kernel
theorem d_K_job_128 : decode b_K_job 128 = .ok (.new 50, 3) := by decide +kernel
theorem d_K_job_131 : decode b_K_job 131 = .ok (.dup, 1) := by decide +kernel
theorem d_K_job_132 : decode b_K_job 132 = .ok (.aload_n 0, 1) := by decide +kernel
theorem d_K_job_133 : decode b_K_job 133 = .ok (.getfield 56, 3) := by decide +kernel
theorem d_K_job_136 : decode b_K_job 136 = .ok (.iload_n 1, 1) := by decide +kernel
theorem d_K_job_137 : decode b_K_job 137 = .ok (.iload_n 2, 1) := by decide +kernel
theorem d_K_job_138 : decode b_K_job 138 = .ok (.iload 4, 2) := by decide +kernel
theorem d_K_job_140 : decode b_K_job 140 = .ok (.invokespecial 129, 3) := by decide +kernel
theorem d_K_job_143 : decode b_K_job 143 = .ok (.astore 6, 2) := by decide +kernel
theorem d_K_job_145 : decode b_K_job 145 = .ok (.aload_n 0, 1) := by decide +kernel
theorem d_K_job_146 : decode b_K_job 146 = .ok (.getfield 52, 3) := by decide +kernel
theorem d_K_job_149 : decode b_K_job 149 = .ok (.aload_n 0, 1) := by decide +kernel
theorem d_K_job_150 : decode b_K_job 150 = .ok (.getfield 56, 3) := by decide +kernel
theorem d_K_job_153 : decode b_K_job 153 = .ok (.aload 6, 2) := by decide +kernel
theorem d_K_job_155 : decode b_K_job 155 = .ok (.aastore, 1) := by decide +kernel
theorem d_K_job_156 : decode b_K_job 156 = .ok (.aload_n 0, 1) := by decide +kernel
theorem d_K_job_157 : decode b_K_job 157 = .ok (.dup, 1) := by decide +kernel
theorem d_K_job_158 : decode b_K_job 158 = .ok (.getfield 56, 3) := by decide +kernel
theorem d_K_job_161 : decode b_K_job 161 = .ok (.iconst 1, 1) := by decide +kernel
theorem d_K_job_162 : decode b_K_job 162 = .ok (.iadd, 1) := by decide +kernel
theorem d_K_job_163 : decode b_K_job 163 = .ok (.putfield 56, 3) := by decide +kernel
theorem d_K_job_166 : decode b_K_job 166 = .ok (.aload 6, 2) := by decide +kernel
theorem d_K_job_168 : decode b_K_job 168 = .ok (.getfield 117, 3) := by decide +kernel
theorem d_K_job_171 : decode b_K_job 171 = .ok (.ireturn, 1) := by decide +kernel
theorem d_K_step_0 : decode b_K_step 0 = .ok (.iload_n 1, 1) := by decide +kernel
theorem d_K_step_1 : decode b_K_step 1 = .ok (.invokestatic 98, 3) := by decide +kernel
theorem d_K_step_4 : decode b_K_step 4 = .ok (.aload_n 0, 1) := by decide +kernel
theorem d_K_step_5 : decode b_K_step 5 = .ok (.iload_n 1, 1) := by decide +kernel
theorem d_K_step_6 : decode b_K_step 6 = .ok (.invokevirtual 132, 3) := by decide +kernel
theorem d_K_step_9 : decode b_K_step 9 = .ok (.astore_n 2, 1) := by decide +kernel
theorem d_K_step_10 : decode b_K_step 10 = .ok (.aload_n 2, 1) := by decide +kernel
theorem d_K_step_11 : decode b_K_step 11 = .ok (.ifnonnull 13, 3) := by decide +kernel
theorem d_K_step_14 : decode b_K_step 14 = .ok (.new 135, 3) := by decide +kernel
theorem d_K_step_17 : decode b_K_step 17 = .ok (.dup, 1) := by decide +kernel
theorem d_K_step_18 : decode b_K_step 18 = .ok (.ldc 137, 2) := by decide +kernel
theorem d_K_step_20 : decode b_K_step 20 = .ok (.invokespecial 139, 3) := by decide +kernel
theorem d_K_step_23 : decode b_K_step 23 = .ok (.athrow, 1) := by decide +kernel
theorem d_K_step_24 : decode b_K_step 24 = .ok (.aload_n 2, 1) := by decide +kernel
theorem d_K_step_25 : decode b_K_step 25 = .ok (.getfield 108, 3) := by decide +kernel
theorem d_K_step_28 : decode b_K_step 28 = .ok (.ifCond .eq 11, 3) := by decide +kernel
theorem d_K_step_31 : decode b_K_step 31 = .ok (.aload_n 0, 1) := by decide +kernel
theorem d_K_step_32 : decode b_K_step 32 = .ok (.iload_n 1, 1) := by decide +kernel
theorem d_K_step_33 : decode b_K_step 33 = .ok (.invokevirtual 140, 3) := by decide +kernel
theorem d_K_step_36 : decode b_K_step 36 = .ok (.goto 8, 3) := by decide +kernel
theorem d_K_step_39 : decode b_K_step 39 = .ok (.aload_n 0, 1) := by decide +kernel
theorem d_K_step_40 : decode b_K_step 40 = .ok (.aload_n 2, 1) := by decide +kernel
theorem d_K_step_41 : decode b_K_step 41 = .ok (.invokevirtual 143, 3) := by decide +kernel
theorem d_K_step_44 : decode b_K_step 44 = .ok (.istore_n 3, 1) := by decide +kernel
theorem d_K_step_45 : decode b_K_step 45 = .ok (.aload_n 2, 1) := by decide +kernel
theorem d_K_step_46 : decode b_K_step 46 = .ok (.iconst 1, 1) := by decide +kernel
theorem d_K_step_47 : decode b_K_step 47 = .ok (.putfield 108, 3) := by decide +kernel
theorem d_K_step_50 : decode b_K_step 50 = .ok (.iload_n 3, 1) := by decide +kernel
theorem d_K_step_51 : decode b_K_step 51 = .ok (.ifCond .eq 19, 3) := by decide +kernel
theorem d_K_step_54 : decode b_K_step 54 = .ok (.aload_n 2, 1) := by decide +kernel
theorem d_K_step_55 : decode b_K_step 55 = .ok (.iload_n 3, 1) := by decide +kernel
theorem d_K_step_56 : decode b_K_step 56 = .ok (.putfield 147, 3) := by decide +kernel
theorem d_K_step_59 : decode b_K_step 59 = .ok (.aload_n 0, 1) := by decide +kernel
theorem d_K_step_60 : decode b_K_step 60 = .ok (.getfield 62, 3) := by decide +kernel
theorem d_K_step_63 : decode b_K_step 63 = .ok (.aload_n 2, 1) := by decide +kernel
theorem d_K_step_64 : decode b_K_step 64 = .ok (.getfield 117, 3) := by decide +kernel
theorem d_K_step_67 : decode b_K_step 67 = .ok (.invokevirtual 150, 3) := by decide +kernel
theorem d_K_step_70 : decode b_K_step 70 = .ok (.aload_n 2, 1) := by decide +kernel
theorem d_K_step_71 : decode b_K_step 71 = .ok (.getfield 117, 3) := by decide +kernel
theorem d_K_step_74 : decode b_K_step 74 = .ok (.ireturn, 1) := by decide +kernel
theorem d_K_open_0 : decode b_K_open 0 = .ok (.iload_n 1, 1) := by decide +kernel
theorem d_K_open_1 : decode b_K_open 1 = .ok (.invokestatic 98, 3) := by decide +kernel
theorem d_K_open_4 : decode b_K_open 4 = .ok (.aload_n 0, 1) := by decide +kernel
theorem d_K_open_5 : decode b_K_open 5 = .ok (.invokevirtual 153, 3) := by decide +kernel
theorem d_K_open_8 : decode b_K_open 8 = .ok (.istore_n 2, 1) := by decide +kernel
theorem d_K_open_9 : decode b_K_open 9 = .ok (.iload_n 2, 1) := by decide +kernel
theorem d_K_open_10 : decode b_K_open 10 = .ok (.bipush 8, 2) := by decide +kernel
theorem d_K_open_12 : decode b_K_open 12 = .ok (.if_icmp .lt 13, 3) := by decide +kernel
theorem d_K_open_15 : decode b_K_open 15 = .ok (.new 124, 3) := by decide +kernel
theorem d_K_open_18 : decode b_K_open 18 = .ok (.dup, 1) := by decide +kernel
theorem d_K_open_19 : decode b_K_open 19 = .ok (.ldc 157, 2) := by decide +kernel
theorem d_K_open_21 : decode b_K_open 21 = .ok (.invokespecial 128, 3) := by decide +kernel
theorem d_K_open_24 : decode b_K_open 24 = .ok (.athrow, 1) := by decide +kernel
theorem d_K_open_25 : decode b_K_open 25 = .ok (.aload_n 0, 1) := by decide +kernel
theorem d_K_open_26 : decode b_K_open 26 = .ok (.iload_n 1, 1) := by decide +kernel
theorem d_K_open_27 : decode b_K_open 27 = .ok (.invokevirtual 159, 3) := by decide +kernel
theorem d_K_open_30 : decode b_K_open 30 = .ok (.astore_n 3, 1) := by decide +kernel
theorem d_K_open_31 : decode b_K_open 31 = .ok (.aload_n 0, 1) := by decide +kernel
theorem d_K_open_32 : decode b_K_open 32 = .ok (.getfield 43, 3) := by decide +kernel
theorem d_K_open_35 : decode b_K_open 35 = .ok (.iload_n 2, 1) := by decide +kernel
theorem d_K_open_36 : decode b_K_open 36 = .ok (.aaload, 1) := by decide +kernel
theorem d_K_open_37 : decode b_K_open 37 = .ok (.astore 4, 2) := by decide +kernel
theorem d_K_open_39 : decode b_K_open 39 = .ok (.aload 4, 2) := by decide +kernel
theorem d_K_open_41 : decode b_K_open 41 = .ok (.iconst 1, 1) := by decide +kernel
theorem d_K_open_42 : decode b_K_open 42 = .ok (.putfield 163, 3) := by decide +kernel
theorem d_K_open_45 : decode b_K_open 45 = .ok (.aload 4, 2) := by decide +kernel
theorem d_K_open_47 : decode b_K_open 47 = .ok (.iload_n 1, 1) := by decide +kernel
theorem d_K_open_48 : decode b_K_open 48 = .ok (.putfield 166, 3) := by decide +kernel
theorem d_K_open_51 : decode b_K_open 51 = .ok (.aload 4, 2) := by decide +kernel
theorem d_K_open_53 : decode b_K_open 53 = .ok (.aload_n 3, 1) := by decide +kernel
theorem d_K_open_54 : decode b_K_open 54 = .ok (.ifnonnull 7, 3) := by decide +kernel
theorem d_K_open_57 : decode b_K_open 57 = .ok (.aconst_null, 1) := by decide +kernel
theorem d_K_open_58 : decode b_K_open 58 = .ok (.goto 7, 3) := by decide +kernel
theorem d_K_open_61 : decode b_K_open 61 = .ok (.aload_n 3, 1) := by decide +kernel
theorem d_K_open_62 : decode b_K_open 62 = .ok (.getfield 169, 3) := by decide +kernel
theorem d_K_open_65 : decode b_K_open 65 = .ok (.putfield 173, 3) := by decide +kernel
theorem d_K_open_68 : decode b_K_open 68 = .ok (.iload_n 2, 1) := by decide +kernel
theorem d_K_open_69 : decode b_K_open 69 = .ok (.ireturn, 1) := by decide +kernel
theorem d_K_close_0 : decode b_K_close 0 = .ok (.aload_n 0, 1) := by decide +kernel
theorem d_K_close_1 : decode b_K_close 1 = .ok (.iload_n 1, 1) := by decide +kernel
theorem d_K_close_2 : decode b_K_close 2 = .ok (.invokevirtual 176, 3) := by decide +kernel
theorem d_K_close_5 : decode b_K_close 5 = .ok (.aload_n 0, 1) := by decide +kernel
theorem d_K_close_6 : decode b_K_close 6 = .ok (.getfield 43, 3) := by decide +kernel
theorem d_K_close_9 : decode b_K_close 9 = .ok (.iload_n 1, 1) := by decide +kernel
theorem d_K_close_10 : decode b_K_close 10 = .ok (.aaload, 1) := by decide +kernel
theorem d_K_close_11 : decode b_K_close 11 = .ok (.astore_n 2, 1) := by decide +kernel
theorem d_K_close_12 : decode b_K_close 12 = .ok (.aload_n 2, 1) := by decide +kernel
theorem d_K_close_13 : decode b_K_close 13 = .ok (.getfield 173, 3) := by decide +kernel
theorem d_K_close_16 : decode b_K_close 16 = .ok (.astore_n 3, 1) := by decide +kernel
theorem d_K_close_17 : decode b_K_close 17 = .ok (.aload_n 2, 1) := by decide +kernel
theorem d_K_close_18 : decode b_K_close 18 = .ok (.iconst 0, 1) := by decide +kernel
theorem d_K_close_19 : decode b_K_close 19 = .ok (.putfield 163, 3) := by decide +kernel
theorem d_K_close_22 : decode b_K_close 22 = .ok (.aload_n 2, 1) := by decide +kernel
theorem d_K_close_23 : decode b_K_close 23 = .ok (.aconst_null, 1) := by decide +kernel
theorem d_K_close_24 : decode b_K_close 24 = .ok (.putfield 173, 3) := by decide +kernel
theorem d_K_close_27 : decode b_K_close 27 = .ok (.aload_n 0, 1) := by decide +kernel
theorem d_K_close_28 : decode b_K_close 28 = .ok (.aload_n 3, 1) := by decide +kernel
theorem d_K_close_29 : decode b_K_close 29 = .ok (.invokevirtual 179, 3) := by decide +kernel
theorem d_K_close_32 : decode b_K_close 32 = .ok (.aload_n 3, 1) := by decide +kernel
theorem d_K_close_33 : decode b_K_close 33 = .ok (.invokestatic 183, 3) := by decide +kernel
theorem d_K_close_36 : decode b_K_close 36 = .ok (.ireturn, 1) := by decide +kernel
theorem d_K_claim_0 : decode b_K_claim 0 = .ok (.aload_n 0, 1) := by decide +kernel
theorem d_K_claim_1 : decode b_K_claim 1 = .ok (.iload_n 1, 1) := by decide +kernel
theorem d_K_claim_2 : decode b_K_claim 2 = .ok (.invokevirtual 187, 3) := by decide +kernel
theorem d_K_claim_5 : decode b_K_claim 5 = .ok (.astore_n 2, 1) := by decide +kernel
theorem d_K_claim_6 : decode b_K_claim 6 = .ok (.aload_n 2, 1) := by decide +kernel
theorem d_K_claim_7 : decode b_K_claim 7 = .ok (.getfield 169, 3) := by decide +kernel
theorem d_K_claim_10 : decode b_K_claim 10 = .ok (.ifnonnull 13, 3) := by decide +kernel
theorem d_K_claim_13 : decode b_K_claim 13 = .ok (.new 124, 3) := by decide +kernel
theorem d_K_claim_16 : decode b_K_claim 16 = .ok (.dup, 1) := by decide +kernel
theorem d_K_claim_17 : decode b_K_claim 17 = .ok (.ldc 190, 2) := by decide +kernel
theorem d_K_claim_19 : decode b_K_claim 19 = .ok (.invokespecial 128, 3) := by decide +kernel
theorem d_K_claim_22 : decode b_K_claim 22 = .ok (.athrow, 1) := by decide +kernel
theorem d_K_claim_23 : decode b_K_claim 23 = .ok (.iconst 0, 1) := by decide +kernel
theorem d_K_claim_24 : decode b_K_claim 24 = .ok (.istore_n 3, 1) := by decide +kernel
theorem d_K_claim_25 : decode b_K_claim 25 = .ok (.iconst 0, 1) := by decide +kernel
theorem d_K_claim_26 : decode b_K_claim 26 = .ok (.istore 4, 2) := by decide +kernel
theorem d_K_claim_28 : decode b_K_claim 28 = .ok (.iload 4, 2) := by decide +kernel
theorem d_K_claim_30 : decode b_K_claim 30 = .ok (.bipush 8, 2) := by decide +kernel
theorem d_K_claim_32 : decode b_K_claim 32 = .ok (.if_icmp .ge 75, 3) := by decide +kernel
theorem d_K_claim_35 : decode b_K_claim 35 = .ok (.aload_n 0, 1) := by decide +kernel
theorem d_K_claim_36 : decode b_K_claim 36 = .ok (.getfield 43, 3) := by decide +kernel
theorem d_K_claim_39 : decode b_K_claim 39 = .ok (.iload 4, 2) := by decide +kernel
theorem d_K_claim_41 : decode b_K_claim 41 = .ok (.aaload, 1) := by decide +kernel
theorem d_K_claim_42 : decode b_K_claim 42 = .ok (.astore 5, 2) := by decide +kernel
theorem d_K_claim_44 : decode b_K_claim 44 = .ok (.aload 5, 2) := by decide +kernel
theorem d_K_claim_46 : decode b_K_claim 46 = .ok (.getfield 163, 3) := by decide +kernel
theorem d_K_claim_49 : decode b_K_claim 49 = .ok (.ifCond .eq 52, 3) := by decide +kernel
theorem d_K_claim_52 : decode b_K_claim 52 = .ok (.aload 5, 2) := by decide +kernel
theorem d_K_claim_54 : decode b_K_claim 54 = .ok (.getfield 173, 3) := by decide +kernel
theorem d_K_claim_57 : decode b_K_claim 57 = .ok (.aload_n 2, 1) := by decide +kernel
theorem d_K_claim_58 : decode b_K_claim 58 = .ok (.getfield 169, 3) := by decide +kernel
theorem d_K_claim_61 : decode b_K_claim 61 = .ok (.if_acmp .eq 40, 3) := by decide +kernel
theorem d_K_claim_64 : decode b_K_claim 64 = .ok (.aload_n 0, 1) := by decide +kernel
theorem d_K_claim_65 : decode b_K_claim 65 = .ok (.aload 5, 2) := by decide +kernel
theorem d_K_claim_67 : decode b_K_claim 67 = .ok (.getfield 166, 3) := by decide +kernel
theorem d_K_claim_70 : decode b_K_claim 70 = .ok (.invokevirtual 159, 3) := by decide +kernel
theorem d_K_claim_73 : decode b_K_claim 73 = .ok (.aload_n 2, 1) := by decide +kernel
theorem d_K_claim_74 : decode b_K_claim 74 = .ok (.if_acmp .ne 27, 3) := by decide +kernel
theorem d_K_claim_77 : decode b_K_claim 77 = .ok (.aload_n 0, 1) := by decide +kernel
theorem d_K_claim_78 : decode b_K_claim 78 = .ok (.getfield 47, 3) := by decide +kernel
theorem d_K_claim_81 : decode b_K_claim 81 = .ok (.iload_n 3, 1) := by decide +kernel
theorem d_K_claim_82 : decode b_K_claim 82 = .ok (.aload 5, 2) := by decide +kernel
theorem d_K_claim_84 : decode b_K_claim 84 = .ok (.getfield 173, 3) := by decide +kernel
theorem d_K_claim_87 : decode b_K_claim 87 = .ok (.aastore, 1) := by decide +kernel
theorem d_K_claim_88 : decode b_K_claim 88 = .ok (.iinc 3 1, 3) := by decide +kernel
theorem d_K_claim_91 : decode b_K_claim 91 = .ok (.aload_n 0, 1) := by decide +kernel
theorem d_K_claim_92 : decode b_K_claim 92 = .ok (.iload 4, 2) := by decide +kernel
theorem d_K_claim_94 : decode b_K_claim 94 = .ok (.aload_n 2, 1) := by decide +kernel
theorem d_K_claim_95 : decode b_K_claim 95 = .ok (.getfield 169, 3) := by decide +kernel
theorem d_K_claim_98 : decode b_K_claim 98 = .ok (.invokevirtual 192, 3) := by decide +kernel
theorem d_K_claim_101 : decode b_K_claim 101 = .ok (.iinc 4 1, 3) := by decide +kernel
theorem d_K_claim_104 : decode b_K_claim 104 = .ok (.goto (-76), 3) := by decide +kernel
theorem d_K_claim_107 : decode b_K_claim 107 = .ok (.iconst 0, 1) := by decide +kernel
theorem d_K_claim_108 : decode b_K_claim 108 = .ok (.istore 4, 2) := by decide +kernel
theorem d_K_claim_110 : decode b_K_claim 110 = .ok (.iload 4, 2) := by decide +kernel
theorem d_K_claim_112 : decode b_K_claim 112 = .ok (.iload_n 3, 1) := by decide +kernel
theorem d_K_claim_113 : decode b_K_claim 113 = .ok (.if_icmp .ge 20, 3) := by decide +kernel
theorem d_K_claim_116 : decode b_K_claim 116 = .ok (.aload_n 0, 1) := by decide +kernel
theorem d_K_claim_117 : decode b_K_claim 117 = .ok (.aload_n 0, 1) := by decide +kernel
theorem d_K_claim_118 : decode b_K_claim 118 = .ok (.getfield 47, 3) := by decide +kernel
theorem d_K_claim_121 : decode b_K_claim 121 = .ok (.iload 4, 2) := by decide +kernel
theorem d_K_claim_123 : decode b_K_claim 123 = .ok (.aaload, 1) := by decide +kernel
theorem d_K_claim_124 : decode b_K_claim 124 = .ok (.invokevirtual 179, 3) := by decide +kernel
theorem d_K_claim_127 : decode b_K_claim 127 = .ok (.iinc 4 1, 3) := by decide +kernel
theorem d_K_claim_130 : decode b_K_claim 130 = .ok (.goto (-20), 3) := by decide +kernel
theorem d_K_claim_133 : decode b_K_claim 133 = .ok (.iload_n 3, 1) := by decide +kernel
theorem d_K_claim_134 : decode b_K_claim 134 = .ok (.ireturn, 1) := by decide +kernel
theorem d_K_skip_0 : decode b_K_skip 0 = .ok (.aload_n 0, 1) := by decide +kernel
theorem d_K_skip_1 : decode b_K_skip 1 = .ok (.iload_n 1, 1) := by decide +kernel
theorem d_K_skip_2 : decode b_K_skip 2 = .ok (.invokevirtual 187, 3) := by decide +kernel
theorem d_K_skip_5 : decode b_K_skip 5 = .ok (.astore_n 2, 1) := by decide +kernel
theorem d_K_skip_6 : decode b_K_skip 6 = .ok (.aload_n 2, 1) := by decide +kernel
theorem d_K_skip_7 : decode b_K_skip 7 = .ok (.getfield 196, 3) := by decide +kernel
theorem d_K_skip_10 : decode b_K_skip 10 = .ok (.ifnull 10, 3) := by decide +kernel
theorem d_K_skip_13 : decode b_K_skip 13 = .ok (.aload_n 2, 1) := by decide +kernel
theorem d_K_skip_14 : decode b_K_skip 14 = .ok (.getfield 196, 3) := by decide +kernel
theorem d_K_skip_17 : decode b_K_skip 17 = .ok (.goto 7, 3) := by decide +kernel
theorem d_K_skip_20 : decode b_K_skip 20 = .ok (.aload_n 2, 1) := by decide +kernel
theorem d_K_skip_21 : decode b_K_skip 21 = .ok (.getfield 199, 3) := by decide +kernel
theorem d_K_skip_24 : decode b_K_skip 24 = .ok (.astore_n 3, 1) := by decide +kernel
theorem d_K_skip_25 : decode b_K_skip 25 = .ok (.aload_n 3, 1) := by decide +kernel
theorem d_K_skip_26 : decode b_K_skip 26 = .ok (.ifnonnull 13, 3) := by decide +kernel
theorem d_K_skip_29 : decode b_K_skip 29 = .ok (.new 124, 3) := by decide +kernel
theorem d_K_skip_32 : decode b_K_skip 32 = .ok (.dup, 1) := by decide +kernel
theorem d_K_skip_33 : decode b_K_skip 33 = .ok (.ldc 202, 2) := by decide +kernel
theorem d_K_skip_35 : decode b_K_skip 35 = .ok (.invokespecial 128, 3) := by decide +kernel
theorem d_K_skip_38 : decode b_K_skip 38 = .ok (.athrow, 1) := by decide +kernel
theorem d_K_skip_39 : decode b_K_skip 39 = .ok (.aload_n 3, 1) := by decide +kernel
theorem d_K_skip_40 : decode b_K_skip 40 = .ok (.iconst 1, 1) := by decide +kernel
theorem d_K_skip_41 : decode b_K_skip 41 = .ok (.putfield 204, 3) := by decide +kernel
theorem d_K_skip_44 : decode b_K_skip 44 = .ok (.aload_n 0, 1) := by decide +kernel
theorem d_K_skip_45 : decode b_K_skip 45 = .ok (.aload_n 2, 1) := by decide +kernel
theorem d_K_skip_46 : decode b_K_skip 46 = .ok (.invokevirtual 207, 3) := by decide +kernel
theorem d_K_skip_49 : decode b_K_skip 49 = .ok (.aload_n 3, 1) := by decide +kernel
theorem d_K_skip_50 : decode b_K_skip 50 = .ok (.getfield 211, 3) := by decide +kernel
theorem d_K_skip_53 : decode b_K_skip 53 = .ok (.ireturn, 1) := by decide +kernel
end
section
theorem d_K_fetch_0 : decode b_K_fetch 0 = .ok (.iload_n 2, 1) := by decide +kernel
theorem d_K_fetch_1 : decode b_K_fetch 1 = .ok (.invokestatic 98, 3) := by decide +kernel
theorem d_K_fetch_4 : decode b_K_fetch 4 = .ok (.aload_n 0, 1) := by decide +kernel
theorem d_K_fetch_5 : decode b_K_fetch 5 = .ok (.iload_n 1, 1) := by decide +kernel
theorem d_K_fetch_6 : decode b_K_fetch 6 = .ok (.invokevirtual 176, 3) := by decide +kernel
theorem d_K_fetch_9 : decode b_K_fetch 9 = .ok (.aload_n 0, 1) := by decide +kernel
theorem d_K_fetch_10 : decode b_K_fetch 10 = .ok (.getfield 43, 3) := by decide +kernel
theorem d_K_fetch_13 : decode b_K_fetch 13 = .ok (.iload_n 1, 1) := by decide +kernel
theorem d_K_fetch_14 : decode b_K_fetch 14 = .ok (.aaload, 1) := by decide +kernel
theorem d_K_fetch_15 : decode b_K_fetch 15 = .ok (.getfield 173, 3) := by decide +kernel
theorem d_K_fetch_18 : decode b_K_fetch 18 = .ok (.astore_n 3, 1) := by decide +kernel
theorem d_K_fetch_19 : decode b_K_fetch 19 = .ok (.aload_n 3, 1) := by decide +kernel
theorem d_K_fetch_20 : decode b_K_fetch 20 = .ok (.ifnonnull 7, 3) := by decide +kernel
theorem d_K_fetch_23 : decode b_K_fetch 23 = .ok (.iconst 0, 1) := by decide +kernel
theorem d_K_fetch_24 : decode b_K_fetch 24 = .ok (.goto 7, 3) := by decide +kernel
theorem d_K_fetch_27 : decode b_K_fetch 27 = .ok (.aload_n 3, 1) := by decide +kernel
theorem d_K_fetch_28 : decode b_K_fetch 28 = .ok (.getfield 212, 3) := by decide +kernel
theorem d_K_fetch_31 : decode b_K_fetch 31 = .ok (.istore 4, 2) := by decide +kernel
theorem d_K_fetch_33 : decode b_K_fetch 33 = .ok (.aload_n 3, 1) := by decide +kernel
theorem d_K_fetch_34 : decode b_K_fetch 34 = .ok (.ifnull 8, 3) := by decide +kernel
theorem d_K_fetch_37 : decode b_K_fetch 37 = .ok (.iload 4, 2) := by decide +kernel
theorem d_K_fetch_39 : decode b_K_fetch 39 = .ok (.ifCond .ne 9, 3) := by decide +kernel
theorem d_K_fetch_42 : decode b_K_fetch 42 = .ok (.aload_n 0, 1) := by decide +kernel
theorem d_K_fetch_43 : decode b_K_fetch 43 = .ok (.iload_n 2, 1) := by decide +kernel
theorem d_K_fetch_44 : decode b_K_fetch 44 = .ok (.invokevirtual 213, 3) := by decide +kernel
theorem d_K_fetch_47 : decode b_K_fetch 47 = .ok (.ireturn, 1) := by decide +kernel
theorem d_K_fetch_48 : decode b_K_fetch 48 = .ok (.iload 4, 2) := by decide +kernel
theorem d_K_fetch_50 : decode b_K_fetch 50 = .ok (.iconst 3, 1) := by decide +kernel
theorem d_K_fetch_51 : decode b_K_fetch 51 = .ok (.if_icmp .ne 8, 3) := by decide +kernel
theorem d_K_fetch_54 : decode b_K_fetch 54 = .ok (.aload_n 3, 1) := by decide +kernel
theorem d_K_fetch_55 : decode b_K_fetch 55 = .ok (.getfield 216, 3) := by decide +kernel
theorem d_K_fetch_58 : decode b_K_fetch 58 = .ok (.ireturn, 1) := by decide +kernel
theorem d_K_fetch_59 : decode b_K_fetch 59 = .ok (.aload_n 3, 1) := by decide +kernel
theorem d_K_fetch_60 : decode b_K_fetch 60 = .ok (.getfield 217, 3) := by decide +kernel
theorem d_K_fetch_63 : decode b_K_fetch 63 = .ok (.astore 5, 2) := by decide +kernel
theorem d_K_fetch_65 : decode b_K_fetch 65 = .ok (.iload 4, 2) := by decide +kernel
theorem d_K_fetch_67 : decode b_K_fetch 67 = .ok (.iconst 1, 1) := by decide +kernel
theorem d_K_fetch_68 : decode b_K_fetch 68 = .ok (.if_icmp .eq 10, 3) := by decide +kernel
theorem d_K_fetch_71 : decode b_K_fetch 71 = .ok (.aload_n 0, 1) := by decide +kernel
theorem d_K_fetch_72 : decode b_K_fetch 72 = .ok (.getfield 15, 3) := by decide +kernel
theorem d_K_fetch_75 : decode b_K_fetch 75 = .ok (.ifCond .ne 7, 3) := by decide +kernel
theorem d_K_fetch_78 : decode b_K_fetch 78 = .ok (.iconst 1, 1) := by decide +kernel
theorem d_K_fetch_79 : decode b_K_fetch 79 = .ok (.goto 4, 3) := by decide +kernel
theorem d_K_fetch_82 : decode b_K_fetch 82 = .ok (.iconst 0, 1) := by decide +kernel
theorem d_K_fetch_83 : decode b_K_fetch 83 = .ok (.istore 6, 2) := by decide +kernel
theorem d_K_fetch_85 : decode b_K_fetch 85 = .ok (.iload 6, 2) := by decide +kernel
theorem d_K_fetch_87 : decode b_K_fetch 87 = .ok (.ifCond .eq 19, 3) := by decide +kernel
theorem d_K_fetch_90 : decode b_K_fetch 90 = .ok (.aload 5, 2) := by decide +kernel
theorem d_K_fetch_92 : decode b_K_fetch 92 = .ok (.iload_n 2, 1) := by decide +kernel
theorem d_K_fetch_93 : decode b_K_fetch 93 = .ok (.invokevirtual 221, 3) := by decide +kernel
theorem d_K_fetch_96 : decode b_K_fetch 96 = .ok (.ifCond .eq 10, 3) := by decide +kernel
theorem d_K_fetch_99 : decode b_K_fetch 99 = .ok (.aload 5, 2) := by decide +kernel
theorem d_K_fetch_101 : decode b_K_fetch 101 = .ok (.iload_n 2, 1) := by decide +kernel
theorem d_K_fetch_102 : decode b_K_fetch 102 = .ok (.invokevirtual 226, 3) := by decide +kernel
theorem d_K_fetch_105 : decode b_K_fetch 105 = .ok (.ireturn, 1) := by decide +kernel
theorem d_K_fetch_106 : decode b_K_fetch 106 = .ok (.aload_n 0, 1) := by decide +kernel
theorem d_K_fetch_107 : decode b_K_fetch 107 = .ok (.iload_n 2, 1) := by decide +kernel
theorem d_K_fetch_108 : decode b_K_fetch 108 = .ok (.invokevirtual 213, 3) := by decide +kernel
theorem d_K_fetch_111 : decode b_K_fetch 111 = .ok (.istore 7, 2) := by decide +kernel
theorem d_K_fetch_113 : decode b_K_fetch 113 = .ok (.aload 5, 2) := by decide +kernel
theorem d_K_fetch_115 : decode b_K_fetch 115 = .ok (.iload_n 2, 1) := by decide +kernel
theorem d_K_fetch_116 : decode b_K_fetch 116 = .ok (.iload 7, 2) := by decide +kernel
theorem d_K_fetch_118 : decode b_K_fetch 118 = .ok (.invokevirtual 229, 3) := by decide +kernel
theorem d_K_fetch_121 : decode b_K_fetch 121 = .ok (.iload 7, 2) := by decide +kernel
theorem d_K_fetch_123 : decode b_K_fetch 123 = .ok (.ireturn, 1) := by decide +kernel
theorem d_K_registration_0 : decode b_K_registration 0 = .ok (.iload_n 2, 1) := by decide +kernel
theorem d_K_registration_1 : decode b_K_registration 1 = .ok (.ifCond .lt 8, 3) := by decide +kernel
theorem d_K_registration_4 : decode b_K_registration 4 = .ok (.iload_n 2, 1) := by decide +kernel
theorem d_K_registration_5 : decode b_K_registration 5 = .ok (.iconst 4, 1) := by decide +kernel
theorem d_K_registration_6 : decode b_K_registration 6 = .ok (.if_icmp .le 13, 3) := by decide +kernel
theorem d_K_registration_9 : decode b_K_registration 9 = .ok (.new 75, 3) := by decide +kernel
theorem d_K_registration_12 : decode b_K_registration 12 = .ok (.dup, 1) := by decide +kernel
theorem d_K_registration_13 : decode b_K_registration 13 = .ok (.ldc 233, 2) := by decide +kernel
theorem d_K_registration_15 : decode b_K_registration 15 = .ok (.invokespecial 79, 3) := by decide +kernel
theorem d_K_registration_18 : decode b_K_registration 18 = .ok (.athrow, 1) := by decide +kernel
theorem d_K_registration_19 : decode b_K_registration 19 = .ok (.aload_n 0, 1) := by decide +kernel
theorem d_K_registration_20 : decode b_K_registration 20 = .ok (.iload_n 1, 1) := by decide +kernel
theorem d_K_registration_21 : decode b_K_registration 21 = .ok (.invokevirtual 187, 3) := by decide +kernel
theorem d_K_registration_24 : decode b_K_registration 24 = .ok (.astore_n 3, 1) := by decide +kernel
theorem d_K_registration_25 : decode b_K_registration 25 = .ok (.iload_n 2, 1) := by decide +kernel
theorem d_K_registration_26 : decode b_K_registration 26 = .ok (.tableswitch 59 0 3 #[30, 35, 43, 51], 30) := by decide +kernel
theorem d_K_registration_56 : decode b_K_registration 56 = .ok (.aload_n 3, 1) := by decide +kernel
theorem d_K_registration_57 : decode b_K_registration 57 = .ok (.getfield 235, 3) := by decide +kernel
theorem d_K_registration_60 : decode b_K_registration 60 = .ok (.ireturn, 1) := by decide +kernel
theorem d_K_registration_61 : decode b_K_registration 61 = .ok (.aload_n 3, 1) := by decide +kernel
theorem d_K_registration_62 : decode b_K_registration 62 = .ok (.getfield 199, 3) := by decide +kernel
theorem d_K_registration_65 : decode b_K_registration 65 = .ok (.invokestatic 183, 3) := by decide +kernel
theorem d_K_registration_68 : decode b_K_registration 68 = .ok (.ireturn, 1) := by decide +kernel
theorem d_K_registration_69 : decode b_K_registration 69 = .ok (.aload_n 3, 1) := by decide +kernel
theorem d_K_registration_70 : decode b_K_registration 70 = .ok (.getfield 196, 3) := by decide +kernel
theorem d_K_registration_73 : decode b_K_registration 73 = .ok (.invokestatic 183, 3) := by decide +kernel
theorem d_K_registration_76 : decode b_K_registration 76 = .ok (.ireturn, 1) := by decide +kernel
theorem d_K_registration_77 : decode b_K_registration 77 = .ok (.aload_n 3, 1) := by decide +kernel
theorem d_K_registration_78 : decode b_K_registration 78 = .ok (.getfield 169, 3) := by decide +kernel
theorem d_K_registration_81 : decode b_K_registration 81 = .ok (.invokestatic 183, 3) := by decide +kernel
theorem d_K_registration_84 : decode b_K_registration 84 = .ok (.ireturn, 1) := by decide +kernel
theorem d_K_registration_85 : decode b_K_registration 85 = .ok (.aload_n 3, 1) := by decide +kernel
theorem d_K_registration_86 : decode b_K_registration 86 = .ok (.getfield 236, 3) := by decide +kernel
theorem d_K_registration_89 : decode b_K_registration 89 = .ok (.ifCond .eq 7, 3) := by decide +kernel
theorem d_K_registration_92 : decode b_K_registration 92 = .ok (.iconst 1, 1) := by decide +kernel
theorem d_K_registration_93 : decode b_K_registration 93 = .ok (.goto 4, 3) := by decide +kernel
theorem d_K_registration_96 : decode b_K_registration 96 = .ok (.iconst 0, 1) := by decide +kernel
theorem d_K_registration_97 : decode b_K_registration 97 = .ok (.ireturn, 1) := by decide +kernel
theorem d_K_worker_0 : decode b_K_worker 0 = .ok (.iload_n 2, 1) := by decide +kernel
theorem d_K_worker_1 : decode b_K_worker 1 = .ok (.ifCond .lt 12, 3) := by decide +kernel
theorem d_K_worker_4 : decode b_K_worker 4 = .ok (.iload_n 2, 1) := by decide +kernel
theorem d_K_worker_5 : decode b_K_worker 5 = .ok (.iconst 4, 1) := by decide +kernel
theorem d_K_worker_6 : decode b_K_worker 6 = .ok (.if_icmp .gt 7, 3) := by decide +kernel
theorem d_K_worker_9 : decode b_K_worker 9 = .ok (.iconst 1, 1) := by decide +kernel
theorem d_K_worker_10 : decode b_K_worker 10 = .ok (.goto 4, 3) := by decide +kernel
theorem d_K_worker_13 : decode b_K_worker 13 = .ok (.iconst 0, 1) := by decide +kernel
theorem d_K_worker_14 : decode b_K_worker 14 = .ok (.istore_n 3, 1) := by decide +kernel
theorem d_K_worker_15 : decode b_K_worker 15 = .ok (.iload_n 2, 1) := by decide +kernel
theorem d_K_worker_16 : decode b_K_worker 16 = .ok (.bipush 10, 2) := by decide +kernel
theorem d_K_worker_18 : decode b_K_worker 18 = .ok (.iconst 4, 1) := by decide +kernel
theorem d_K_worker_19 : decode b_K_worker 19 = .ok (.invokestatic 239, 3) := by decide +kernel
theorem d_K_worker_22 : decode b_K_worker 22 = .ok (.ifCond .ne 13, 3) := by decide +kernel
theorem d_K_worker_25 : decode b_K_worker 25 = .ok (.iload_n 2, 1) := by decide +kernel
theorem d_K_worker_26 : decode b_K_worker 26 = .ok (.bipush 20, 2) := by decide +kernel
theorem d_K_worker_28 : decode b_K_worker 28 = .ok (.iconst 4, 1) := by decide +kernel
theorem d_K_worker_29 : decode b_K_worker 29 = .ok (.invokestatic 239, 3) := by decide +kernel
theorem d_K_worker_32 : decode b_K_worker 32 = .ok (.ifCond .eq 7, 3) := by decide +kernel
theorem d_K_worker_35 : decode b_K_worker 35 = .ok (.iconst 1, 1) := by decide +kernel
theorem d_K_worker_36 : decode b_K_worker 36 = .ok (.goto 4, 3) := by decide +kernel
theorem d_K_worker_39 : decode b_K_worker 39 = .ok (.iconst 0, 1) := by decide +kernel
theorem d_K_worker_40 : decode b_K_worker 40 = .ok (.istore 4, 2) := by decide +kernel
theorem d_K_worker_42 : decode b_K_worker 42 = .ok (.iload_n 3, 1) := by decide +kernel
theorem d_K_worker_43 : decode b_K_worker 43 = .ok (.ifCond .ne 18, 3) := by decide +kernel
theorem d_K_worker_46 : decode b_K_worker 46 = .ok (.iload 4, 2) := by decide +kernel
theorem d_K_worker_48 : decode b_K_worker 48 = .ok (.ifCond .ne 13, 3) := by decide +kernel
theorem d_K_worker_51 : decode b_K_worker 51 = .ok (.new 75, 3) := by decide +kernel
theorem d_K_worker_54 : decode b_K_worker 54 = .ok (.dup, 1) := by decide +kernel
theorem d_K_worker_55 : decode b_K_worker 55 = .ok (.ldc 233, 2) := by decide +kernel
theorem d_K_worker_57 : decode b_K_worker 57 = .ok (.invokespecial 79, 3) := by decide +kernel
theorem d_K_worker_60 : decode b_K_worker 60 = .ok (.athrow, 1) := by decide +kernel
theorem d_K_worker_61 : decode b_K_worker 61 = .ok (.iload_n 1, 1) := by decide +kernel
theorem d_K_worker_62 : decode b_K_worker 62 = .ok (.iconst 1, 1) := by decide +kernel
theorem d_K_worker_63 : decode b_K_worker 63 = .ok (.if_icmp .lt 11, 3) := by decide +kernel
theorem d_K_worker_66 : decode b_K_worker 66 = .ok (.iload_n 1, 1) := by decide +kernel
theorem d_K_worker_67 : decode b_K_worker 67 = .ok (.aload_n 0, 1) := by decide +kernel
theorem d_K_worker_68 : decode b_K_worker 68 = .ok (.getfield 29, 3) := by decide +kernel
theorem d_K_worker_71 : decode b_K_worker 71 = .ok (.if_icmp .le 13, 3) := by decide +kernel
theorem d_K_worker_74 : decode b_K_worker 74 = .ok (.new 243, 3) := by decide +kernel
theorem d_K_worker_77 : decode b_K_worker 77 = .ok (.dup, 1) := by decide +kernel
theorem d_K_worker_78 : decode b_K_worker 78 = .ok (.ldc 245, 2) := by decide +kernel
theorem d_K_worker_80 : decode b_K_worker 80 = .ok (.invokespecial 247, 3) := by decide +kernel
theorem d_K_worker_83 : decode b_K_worker 83 = .ok (.athrow, 1) := by decide +kernel
theorem d_K_worker_84 : decode b_K_worker 84 = .ok (.aload_n 0, 1) := by decide +kernel
theorem d_K_worker_85 : decode b_K_worker 85 = .ok (.getfield 25, 3) := by decide +kernel
theorem d_K_worker_88 : decode b_K_worker 88 = .ok (.iload_n 1, 1) := by decide +kernel
theorem d_K_worker_89 : decode b_K_worker 89 = .ok (.iconst 1, 1) := by decide +kernel
theorem d_K_worker_90 : decode b_K_worker 90 = .ok (.isub, 1) := by decide +kernel
theorem d_K_worker_91 : decode b_K_worker 91 = .ok (.aaload, 1) := by decide +kernel
theorem d_K_worker_92 : decode b_K_worker 92 = .ok (.astore 5, 2) := by decide +kernel
theorem d_K_worker_94 : decode b_K_worker 94 = .ok (.iload_n 2, 1) := by decide +kernel
theorem d_K_worker_95 : decode b_K_worker 95 = .ok (.tableswitch 67 0 4 #[33, 39, 45, 51, 58], 33) := by decide +kernel
theorem d_K_worker_128 : decode b_K_worker 128 = .ok (.aload 5, 2) := by decide +kernel
theorem d_K_worker_130 : decode b_K_worker 130 = .ok (.getfield 248, 3) := by decide +kernel
theorem d_K_worker_133 : decode b_K_worker 133 = .ok (.ireturn, 1) := by decide +kernel
theorem d_K_worker_134 : decode b_K_worker 134 = .ok (.aload 5, 2) := by decide +kernel
theorem d_K_worker_136 : decode b_K_worker 136 = .ok (.getfield 216, 3) := by decide +kernel
theorem d_K_worker_139 : decode b_K_worker 139 = .ok (.ireturn, 1) := by decide +kernel
theorem d_K_worker_140 : decode b_K_worker 140 = .ok (.aload 5, 2) := by decide +kernel
theorem d_K_worker_142 : decode b_K_worker 142 = .ok (.getfield 212, 3) := by decide +kernel
theorem d_K_worker_145 : decode b_K_worker 145 = .ok (.ireturn, 1) := by decide +kernel
theorem d_K_worker_146 : decode b_K_worker 146 = .ok (.aload_n 0, 1) := by decide +kernel
theorem d_K_worker_147 : decode b_K_worker 147 = .ok (.aload 5, 2) := by decide +kernel
theorem d_K_worker_149 : decode b_K_worker 149 = .ok (.invokevirtual 251, 3) := by decide +kernel
theorem d_K_worker_152 : decode b_K_worker 152 = .ok (.ireturn, 1) := by decide +kernel
theorem d_K_worker_153 : decode b_K_worker 153 = .ok (.aload 5, 2) := by decide +kernel
theorem d_K_worker_155 : decode b_K_worker 155 = .ok (.getfield 217, 3) := by decide +kernel
theorem d_K_worker_158 : decode b_K_worker 158 = .ok (.getfield 254, 3) := by decide +kernel
theorem d_K_worker_161 : decode b_K_worker 161 = .ok (.ireturn, 1) := by decide +kernel
theorem d_K_worker_162 : decode b_K_worker 162 = .ok (.iload_n 2, 1) := by decide +kernel
theorem d_K_worker_163 : decode b_K_worker 163 = .ok (.bipush 20, 2) := by decide +kernel
theorem d_K_worker_165 : decode b_K_worker 165 = .ok (.if_icmp .ge 18, 3) := by decide +kernel
theorem d_K_worker_168 : decode b_K_worker 168 = .ok (.aload 5, 2) := by decide +kernel
theorem d_K_worker_170 : decode b_K_worker 170 = .ok (.getfield 217, 3) := by decide +kernel
theorem d_K_worker_173 : decode b_K_worker 173 = .ok (.iload_n 2, 1) := by decide +kernel
theorem d_K_worker_174 : decode b_K_worker 174 = .ok (.bipush 10, 2) := by decide +kernel
theorem d_K_worker_176 : decode b_K_worker 176 = .ok (.isub, 1) := by decide +kernel
theorem d_K_worker_177 : decode b_K_worker 177 = .ok (.invokevirtual 257, 3) := by decide +kernel
theorem d_K_worker_180 : decode b_K_worker 180 = .ok (.goto 15, 3) := by decide +kernel
theorem d_K_worker_183 : decode b_K_worker 183 = .ok (.aload 5, 2) := by decide +kernel
theorem d_K_worker_185 : decode b_K_worker 185 = .ok (.getfield 217, 3) := by decide +kernel
theorem d_K_worker_188 : decode b_K_worker 188 = .ok (.iload_n 2, 1) := by decide +kernel
theorem d_K_worker_189 : decode b_K_worker 189 = .ok (.bipush 20, 2) := by decide +kernel
theorem d_K_worker_191 : decode b_K_worker 191 = .ok (.isub, 1) := by decide +kernel
theorem d_K_worker_192 : decode b_K_worker 192 = .ok (.invokevirtual 260, 3) := by decide +kernel
theorem d_K_worker_195 : decode b_K_worker 195 = .ok (.ireturn, 1) := by decide +kernel
theorem d_K_outcome_0 : decode b_K_outcome 0 = .ok (.iload_n 1, 1) := by decide +kernel
theorem d_K_outcome_1 : decode b_K_outcome 1 = .ok (.ifCond .lt 11, 3) := by decide +kernel
theorem d_K_outcome_4 : decode b_K_outcome 4 = .ok (.iload_n 1, 1) := by decide +kernel
theorem d_K_outcome_5 : decode b_K_outcome 5 = .ok (.aload_n 0, 1) := by decide +kernel
theorem d_K_outcome_6 : decode b_K_outcome 6 = .ok (.getfield 56, 3) := by decide +kernel
theorem d_K_outcome_9 : decode b_K_outcome 9 = .ok (.if_icmp .lt 14, 3) := by decide +kernel
theorem d_K_outcome_12 : decode b_K_outcome 12 = .ok (.new 243, 3) := by decide +kernel
theorem d_K_outcome_15 : decode b_K_outcome 15 = .ok (.dup, 1) := by decide +kernel
theorem d_K_outcome_16 : decode b_K_outcome 16 = .ok (.ldc_w 263, 3) := by decide +kernel
theorem d_K_outcome_19 : decode b_K_outcome 19 = .ok (.invokespecial 247, 3) := by decide +kernel
theorem d_K_outcome_22 : decode b_K_outcome 22 = .ok (.athrow, 1) := by decide +kernel
theorem d_K_outcome_23 : decode b_K_outcome 23 = .ok (.aload_n 0, 1) := by decide +kernel
theorem d_K_outcome_24 : decode b_K_outcome 24 = .ok (.getfield 52, 3) := by decide +kernel
theorem d_K_outcome_27 : decode b_K_outcome 27 = .ok (.iload_n 1, 1) := by decide +kernel
theorem d_K_outcome_28 : decode b_K_outcome 28 = .ok (.aaload, 1) := by decide +kernel
theorem d_K_outcome_29 : decode b_K_outcome 29 = .ok (.getfield 147, 3) := by decide +kernel
theorem d_K_outcome_32 : decode b_K_outcome 32 = .ok (.ireturn, 1) := by decide +kernel
theorem d_K_trace_0 : decode b_K_trace 0 = .ok (.iload_n 1, 1) := by decide +kernel
theorem d_K_trace_1 : decode b_K_trace 1 = .ok (.ifCond .lt 14, 3) := by decide +kernel
theorem d_K_trace_4 : decode b_K_trace 4 = .ok (.iload_n 1, 1) := by decide +kernel
theorem d_K_trace_5 : decode b_K_trace 5 = .ok (.aload_n 0, 1) := by decide +kernel
theorem d_K_trace_6 : decode b_K_trace 6 = .ok (.getfield 62, 3) := by decide +kernel
theorem d_K_trace_9 : decode b_K_trace 9 = .ok (.getfield 265, 3) := by decide +kernel
theorem d_K_trace_12 : decode b_K_trace 12 = .ok (.if_icmp .lt 14, 3) := by decide +kernel
theorem d_K_trace_15 : decode b_K_trace 15 = .ok (.new 243, 3) := by decide +kernel
theorem d_K_trace_18 : decode b_K_trace 18 = .ok (.dup, 1) := by decide +kernel
theorem d_K_trace_19 : decode b_K_trace 19 = .ok (.ldc_w 266, 3) := by decide +kernel
theorem d_K_trace_22 : decode b_K_trace 22 = .ok (.invokespecial 247, 3) := by decide +kernel
theorem d_K_trace_25 : decode b_K_trace 25 = .ok (.athrow, 1) := by decide +kernel
theorem d_K_trace_26 : decode b_K_trace 26 = .ok (.aload_n 0, 1) := by decide +kernel
theorem d_K_trace_27 : decode b_K_trace 27 = .ok (.getfield 62, 3) := by decide +kernel
theorem d_K_trace_30 : decode b_K_trace 30 = .ok (.getfield 268, 3) := by decide +kernel
theorem d_K_trace_33 : decode b_K_trace 33 = .ok (.iload_n 1, 1) := by decide +kernel
theorem d_K_trace_34 : decode b_K_trace 34 = .ok (.iaload, 1) := by decide +kernel
theorem d_K_trace_35 : decode b_K_trace 35 = .ok (.ireturn, 1) := by decide +kernel
theorem d_K_count_0 : decode b_K_count 0 = .ok (.iload_n 1, 1) := by decide +kernel
theorem d_K_count_1 : decode b_K_count 1 = .ok (.bipush 10, 2) := by decide +kernel
theorem d_K_count_3 : decode b_K_count 3 = .ok (.bipush 8, 2) := by decide +kernel
theorem d_K_count_5 : decode b_K_count 5 = .ok (.invokestatic 239, 3) := by decide +kernel
theorem d_K_count_8 : decode b_K_count 8 = .ok (.ifCond .eq 19, 3) := by decide +kernel
theorem d_K_count_11 : decode b_K_count 11 = .ok (.aload_n 0, 1) := by decide +kernel
theorem d_K_count_12 : decode b_K_count 12 = .ok (.getfield 43, 3) := by decide +kernel
theorem d_K_count_15 : decode b_K_count 15 = .ok (.iload_n 1, 1) := by decide +kernel
theorem d_K_count_16 : decode b_K_count 16 = .ok (.bipush 10, 2) := by decide +kernel
theorem d_K_count_18 : decode b_K_count 18 = .ok (.isub, 1) := by decide +kernel
theorem d_K_count_19 : decode b_K_count 19 = .ok (.aaload, 1) := by decide +kernel
theorem d_K_count_20 : decode b_K_count 20 = .ok (.getfield 173, 3) := by decide +kernel
theorem d_K_count_23 : decode b_K_count 23 = .ok (.invokestatic 183, 3) := by decide +kernel
theorem d_K_count_26 : decode b_K_count 26 = .ok (.ireturn, 1) := by decide +kernel
theorem d_K_count_27 : decode b_K_count 27 = .ok (.iload_n 1, 1) := by decide +kernel
theorem d_K_count_28 : decode b_K_count 28 = .ok (.bipush 20, 2) := by decide +kernel
theorem d_K_count_30 : decode b_K_count 30 = .ok (.bipush 8, 2) := by decide +kernel
theorem d_K_count_32 : decode b_K_count 32 = .ok (.invokestatic 239, 3) := by decide +kernel
theorem d_K_count_35 : decode b_K_count 35 = .ok (.ifCond .eq 29, 3) := by decide +kernel
theorem d_K_count_38 : decode b_K_count 38 = .ok (.aload_n 0, 1) := by decide +kernel
theorem d_K_count_39 : decode b_K_count 39 = .ok (.getfield 43, 3) := by decide +kernel
theorem d_K_count_42 : decode b_K_count 42 = .ok (.iload_n 1, 1) := by decide +kernel
theorem d_K_count_43 : decode b_K_count 43 = .ok (.bipush 20, 2) := by decide +kernel
theorem d_K_count_45 : decode b_K_count 45 = .ok (.isub, 1) := by decide +kernel
theorem d_K_count_46 : decode b_K_count 46 = .ok (.aaload, 1) := by decide +kernel
theorem d_K_count_47 : decode b_K_count 47 = .ok (.astore_n 2, 1) := by decide +kernel
theorem d_K_count_48 : decode b_K_count 48 = .ok (.aload_n 2, 1) := by decide +kernel
theorem d_K_count_49 : decode b_K_count 49 = .ok (.getfield 163, 3) := by decide +kernel
theorem d_K_count_52 : decode b_K_count 52 = .ok (.ifCond .eq 10, 3) := by decide +kernel
theorem d_K_count_55 : decode b_K_count 55 = .ok (.aload_n 2, 1) := by decide +kernel
theorem d_K_count_56 : decode b_K_count 56 = .ok (.getfield 166, 3) := by decide +kernel
theorem d_K_count_59 : decode b_K_count 59 = .ok (.goto 4, 3) := by decide +kernel
theorem d_K_count_62 : decode b_K_count 62 = .ok (.iconst (-1), 1) := by decide +kernel
theorem d_K_count_63 : decode b_K_count 63 = .ok (.ireturn, 1) := by decide +kernel
theorem d_K_count_64 : decode b_K_count 64 = .ok (.iload_n 1, 1) := by decide +kernel
theorem d_K_count_65 : decode b_K_count 65 = .ok (.bipush 30, 2) := by decide +kernel
theorem d_K_count_67 : decode b_K_count 67 = .ok (.iconst 5, 1) := by decide +kernel
theorem d_K_count_68 : decode b_K_count 68 = .ok (.invokestatic 239, 3) := by decide +kernel
theorem d_K_count_71 : decode b_K_count 71 = .ok (.ifCond .eq 30, 3) := by decide +kernel
theorem d_K_count_74 : decode b_K_count 74 = .ok (.iload_n 1, 1) := by decide +kernel
theorem d_K_count_75 : decode b_K_count 75 = .ok (.bipush 30, 2) := by decide +kernel
theorem d_K_count_77 : decode b_K_count 77 = .ok (.isub, 1) := by decide +kernel
theorem d_K_count_78 : decode b_K_count 78 = .ok (.istore_n 2, 1) := by decide +kernel
theorem d_K_count_79 : decode b_K_count 79 = .ok (.iload_n 2, 1) := by decide +kernel
theorem d_K_count_80 : decode b_K_count 80 = .ok (.aload_n 0, 1) := by decide +kernel
theorem d_K_count_81 : decode b_K_count 81 = .ok (.getfield 38, 3) := by decide +kernel
theorem d_K_count_84 : decode b_K_count 84 = .ok (.if_icmp .ge 15, 3) := by decide +kernel
theorem d_K_count_87 : decode b_K_count 87 = .ok (.aload_n 0, 1) := by decide +kernel
theorem d_K_count_88 : decode b_K_count 88 = .ok (.getfield 34, 3) := by decide +kernel
theorem d_K_count_91 : decode b_K_count 91 = .ok (.iload_n 2, 1) := by decide +kernel
theorem d_K_count_92 : decode b_K_count 92 = .ok (.aaload, 1) := by decide +kernel
theorem d_K_count_93 : decode b_K_count 93 = .ok (.getfield 272, 3) := by decide +kernel
theorem d_K_count_96 : decode b_K_count 96 = .ok (.goto 4, 3) := by decide +kernel
theorem d_K_count_99 : decode b_K_count 99 = .ok (.iconst (-1), 1) := by decide +kernel
theorem d_K_count_100 : decode b_K_count 100 = .ok (.ireturn, 1) := by decide +kernel
theorem d_K_count_101 : decode b_K_count 101 = .ok (.iload_n 1, 1) := by decide +kernel
theorem d_K_count_102 : decode b_K_count 102 = .ok (.tableswitch 71 0 5 #[38, 43, 48, 53, 58, 63], 38) := by decide +kernel
theorem d_K_count_140 : decode b_K_count 140 = .ok (.aload_n 0, 1) := by decide +kernel
theorem d_K_count_141 : decode b_K_count 141 = .ok (.getfield 38, 3) := by decide +kernel
theorem d_K_count_144 : decode b_K_count 144 = .ok (.ireturn, 1) := by decide +kernel
theorem d_K_count_145 : decode b_K_count 145 = .ok (.aload_n 0, 1) := by decide +kernel
theorem d_K_count_146 : decode b_K_count 146 = .ok (.getfield 29, 3) := by decide +kernel
theorem d_K_count_149 : decode b_K_count 149 = .ok (.ireturn, 1) := by decide +kernel
theorem d_K_count_150 : decode b_K_count 150 = .ok (.aload_n 0, 1) := by decide +kernel
theorem d_K_count_151 : decode b_K_count 151 = .ok (.invokevirtual 275, 3) := by decide +kernel
theorem d_K_count_154 : decode b_K_count 154 = .ok (.ireturn, 1) := by decide +kernel
theorem d_K_count_155 : decode b_K_count 155 = .ok (.aload_n 0, 1) := by decide +kernel
theorem d_K_count_156 : decode b_K_count 156 = .ok (.getfield 56, 3) := by decide +kernel
theorem d_K_count_159 : decode b_K_count 159 = .ok (.ireturn, 1) := by decide +kernel
theorem d_K_count_160 : decode b_K_count 160 = .ok (.aload_n 0, 1) := by decide +kernel
theorem d_K_count_161 : decode b_K_count 161 = .ok (.invokevirtual 278, 3) := by decide +kernel
theorem d_K_count_164 : decode b_K_count 164 = .ok (.ireturn, 1) := by decide +kernel
theorem d_K_count_165 : decode b_K_count 165 = .ok (.aload_n 0, 1) := by decide +kernel
theorem d_K_count_166 : decode b_K_count 166 = .ok (.getfield 62, 3) := by decide +kernel
theorem d_K_count_169 : decode b_K_count 169 = .ok (.getfield 265, 3) := by decide +kernel
theorem d_K_count_172 : decode b_K_count 172 = .ok (.ireturn, 1) := by decide +kernel
theorem d_K_count_173 : decode b_K_count 173 = .ok (.new 75, 3) := by decide +kernel
theorem d_K_count_176 : decode b_K_count 176 = .ok (.dup, 1) := by decide +kernel
theorem d_K_count_177 : decode b_K_count 177 = .ok (.ldc 233, 2) := by decide +kernel
theorem d_K_count_179 : decode b_K_count 179 = .ok (.invokespecial 79, 3) := by decide +kernel
theorem d_K_count_182 : decode b_K_count 182 = .ok (.athrow, 1) := by decide +kernel
theorem d_K_isWithin_0 : decode b_K_isWithin 0 = .ok (.iload_n 0, 1) := by decide +kernel
theorem d_K_isWithin_1 : decode b_K_isWithin 1 = .ok (.iload_n 1, 1) := by decide +kernel
theorem d_K_isWithin_2 : decode b_K_isWithin 2 = .ok (.if_icmp .lt 14, 3) := by decide +kernel
theorem d_K_isWithin_5 : decode b_K_isWithin 5 = .ok (.iload_n 0, 1) := by decide +kernel
theorem d_K_isWithin_6 : decode b_K_isWithin 6 = .ok (.iload_n 1, 1) := by decide +kernel
theorem d_K_isWithin_7 : decode b_K_isWithin 7 = .ok (.iload_n 2, 1) := by decide +kernel
theorem d_K_isWithin_8 : decode b_K_isWithin 8 = .ok (.iadd, 1) := by decide +kernel
theorem d_K_isWithin_9 : decode b_K_isWithin 9 = .ok (.if_icmp .ge 7, 3) := by decide +kernel
theorem d_K_isWithin_12 : decode b_K_isWithin 12 = .ok (.iconst 1, 1) := by decide +kernel
theorem d_K_isWithin_13 : decode b_K_isWithin 13 = .ok (.goto 4, 3) := by decide +kernel
theorem d_K_isWithin_16 : decode b_K_isWithin 16 = .ok (.iconst 0, 1) := by decide +kernel
theorem d_K_isWithin_17 : decode b_K_isWithin 17 = .ok (.ireturn, 1) := by decide +kernel
theorem d_K_isScript_0 : decode b_K_isScript 0 = .ok (.iload_n 0, 1) := by decide +kernel
theorem d_K_isScript_1 : decode b_K_isScript 1 = .ok (.ifCond .lt 12, 3) := by decide +kernel
theorem d_K_isScript_4 : decode b_K_isScript 4 = .ok (.iload_n 0, 1) := by decide +kernel
theorem d_K_isScript_5 : decode b_K_isScript 5 = .ok (.iconst 4, 1) := by decide +kernel
theorem d_K_isScript_6 : decode b_K_isScript 6 = .ok (.if_icmp .ge 7, 3) := by decide +kernel
theorem d_K_isScript_9 : decode b_K_isScript 9 = .ok (.iconst 1, 1) := by decide +kernel
theorem d_K_isScript_10 : decode b_K_isScript 10 = .ok (.goto 4, 3) := by decide +kernel
theorem d_K_isScript_13 : decode b_K_isScript 13 = .ok (.iconst 0, 1) := by decide +kernel
theorem d_K_isScript_14 : decode b_K_isScript 14 = .ok (.ireturn, 1) := by decide +kernel
theorem d_K_isPath_0 : decode b_K_isPath 0 = .ok (.iload_n 0, 1) := by decide +kernel
theorem d_K_isPath_1 : decode b_K_isPath 1 = .ok (.ifCond .lt 10, 3) := by decide +kernel
theorem d_K_isPath_4 : decode b_K_isPath 4 = .ok (.iload_n 0, 1) := by decide +kernel
theorem d_K_isPath_5 : decode b_K_isPath 5 = .ok (.ldc_w 281, 3) := by decide +kernel
theorem d_K_isPath_8 : decode b_K_isPath 8 = .ok (.if_icmp .le 5, 3) := by decide +kernel
theorem d_K_isPath_11 : decode b_K_isPath 11 = .ok (.iconst 0, 1) := by decide +kernel
theorem d_K_isPath_12 : decode b_K_isPath 12 = .ok (.ireturn, 1) := by decide +kernel
theorem d_K_isPath_13 : decode b_K_isPath 13 = .ok (.iload_n 0, 1) := by decide +kernel
theorem d_K_isPath_14 : decode b_K_isPath 14 = .ok (.istore_n 1, 1) := by decide +kernel
theorem d_K_isPath_15 : decode b_K_isPath 15 = .ok (.iconst 0, 1) := by decide +kernel
theorem d_K_isPath_16 : decode b_K_isPath 16 = .ok (.istore_n 2, 1) := by decide +kernel
theorem d_K_isPath_17 : decode b_K_isPath 17 = .ok (.iload_n 2, 1) := by decide +kernel
theorem d_K_isPath_18 : decode b_K_isPath 18 = .ok (.iconst 4, 1) := by decide +kernel
theorem d_K_isPath_19 : decode b_K_isPath 19 = .ok (.if_icmp .ge 27, 3) := by decide +kernel
theorem d_K_isPath_22 : decode b_K_isPath 22 = .ok (.iload_n 1, 1) := by decide +kernel
theorem d_K_isPath_23 : decode b_K_isPath 23 = .ok (.ifCond .le 23, 3) := by decide +kernel
theorem d_K_isPath_26 : decode b_K_isPath 26 = .ok (.iload_n 1, 1) := by decide +kernel
theorem d_K_isPath_27 : decode b_K_isPath 27 = .ok (.bipush 27, 2) := by decide +kernel
theorem d_K_isPath_29 : decode b_K_isPath 29 = .ok (.irem, 1) := by decide +kernel
theorem d_K_isPath_30 : decode b_K_isPath 30 = .ok (.ifCond .ne 5, 3) := by decide +kernel
theorem d_K_isPath_33 : decode b_K_isPath 33 = .ok (.iconst 0, 1) := by decide +kernel
theorem d_K_isPath_34 : decode b_K_isPath 34 = .ok (.ireturn, 1) := by decide +kernel
theorem d_K_isPath_35 : decode b_K_isPath 35 = .ok (.iload_n 1, 1) := by decide +kernel
theorem d_K_isPath_36 : decode b_K_isPath 36 = .ok (.bipush 27, 2) := by decide +kernel
theorem d_K_isPath_38 : decode b_K_isPath 38 = .ok (.idiv, 1) := by decide +kernel
theorem d_K_isPath_39 : decode b_K_isPath 39 = .ok (.istore_n 1, 1) := by decide +kernel
theorem d_K_isPath_40 : decode b_K_isPath 40 = .ok (.iinc 2 1, 3) := by decide +kernel
theorem d_K_isPath_43 : decode b_K_isPath 43 = .ok (.goto (-26), 3) := by decide +kernel
theorem d_K_isPath_46 : decode b_K_isPath 46 = .ok (.iconst 1, 1) := by decide +kernel
theorem d_K_isPath_47 : decode b_K_isPath 47 = .ok (.ireturn, 1) := by decide +kernel
theorem d_K_begins_0 : decode b_K_begins 0 = .ok (.iload_n 0, 1) := by decide +kernel
theorem d_K_begins_1 : decode b_K_begins 1 = .ok (.istore_n 2, 1) := by decide +kernel
theorem d_K_begins_2 : decode b_K_begins 2 = .ok (.iload_n 1, 1) := by decide +kernel
theorem d_K_begins_3 : decode b_K_begins 3 = .ok (.istore_n 3, 1) := by decide +kernel
theorem d_K_begins_4 : decode b_K_begins 4 = .ok (.iconst 0, 1) := by decide +kernel
theorem d_K_begins_5 : decode b_K_begins 5 = .ok (.istore 4, 2) := by decide +kernel
theorem d_K_begins_7 : decode b_K_begins 7 = .ok (.iload 4, 2) := by decide +kernel
theorem d_K_begins_9 : decode b_K_begins 9 = .ok (.iconst 4, 1) := by decide +kernel
theorem d_K_begins_10 : decode b_K_begins 10 = .ok (.if_icmp .ge 36, 3) := by decide +kernel
theorem d_K_begins_13 : decode b_K_begins 13 = .ok (.iload_n 2, 1) := by decide +kernel
theorem d_K_begins_14 : decode b_K_begins 14 = .ok (.ifCond .le 32, 3) := by decide +kernel
theorem d_K_begins_17 : decode b_K_begins 17 = .ok (.iload_n 2, 1) := by decide +kernel
theorem d_K_begins_18 : decode b_K_begins 18 = .ok (.bipush 27, 2) := by decide +kernel
theorem d_K_begins_20 : decode b_K_begins 20 = .ok (.irem, 1) := by decide +kernel
theorem d_K_begins_21 : decode b_K_begins 21 = .ok (.iload_n 3, 1) := by decide +kernel
theorem d_K_begins_22 : decode b_K_begins 22 = .ok (.bipush 27, 2) := by decide +kernel
theorem d_K_begins_24 : decode b_K_begins 24 = .ok (.irem, 1) := by decide +kernel
theorem d_K_begins_25 : decode b_K_begins 25 = .ok (.if_icmp .eq 5, 3) := by decide +kernel
theorem d_K_begins_28 : decode b_K_begins 28 = .ok (.iconst 0, 1) := by decide +kernel
theorem d_K_begins_29 : decode b_K_begins 29 = .ok (.ireturn, 1) := by decide +kernel
theorem d_K_begins_30 : decode b_K_begins 30 = .ok (.iload_n 2, 1) := by decide +kernel
theorem d_K_begins_31 : decode b_K_begins 31 = .ok (.bipush 27, 2) := by decide +kernel
theorem d_K_begins_33 : decode b_K_begins 33 = .ok (.idiv, 1) := by decide +kernel
theorem d_K_begins_34 : decode b_K_begins 34 = .ok (.istore_n 2, 1) := by decide +kernel
theorem d_K_begins_35 : decode b_K_begins 35 = .ok (.iload_n 3, 1) := by decide +kernel
theorem d_K_begins_36 : decode b_K_begins 36 = .ok (.bipush 27, 2) := by decide +kernel
theorem d_K_begins_38 : decode b_K_begins 38 = .ok (.idiv, 1) := by decide +kernel
theorem d_K_begins_39 : decode b_K_begins 39 = .ok (.istore_n 3, 1) := by decide +kernel
theorem d_K_begins_40 : decode b_K_begins 40 = .ok (.iinc 4 1, 3) := by decide +kernel
theorem d_K_begins_43 : decode b_K_begins 43 = .ok (.goto (-36), 3) := by decide +kernel
theorem d_K_begins_46 : decode b_K_begins 46 = .ok (.iconst 1, 1) := by decide +kernel
theorem d_K_begins_47 : decode b_K_begins 47 = .ok (.ireturn, 1) := by decide +kernel
theorem d_K_refuseNoPath_0 : decode b_K_refuseNoPath 0 = .ok (.iload_n 0, 1) := by decide +kernel
theorem d_K_refuseNoPath_1 : decode b_K_refuseNoPath 1 = .ok (.invokestatic 72, 3) := by decide +kernel
theorem d_K_refuseNoPath_4 : decode b_K_refuseNoPath 4 = .ok (.ifCond .ne 14, 3) := by decide +kernel
theorem d_K_refuseNoPath_7 : decode b_K_refuseNoPath 7 = .ok (.new 75, 3) := by decide +kernel
theorem d_K_refuseNoPath_10 : decode b_K_refuseNoPath 10 = .ok (.dup, 1) := by decide +kernel
theorem d_K_refuseNoPath_11 : decode b_K_refuseNoPath 11 = .ok (.ldc_w 282, 3) := by decide +kernel
theorem d_K_refuseNoPath_14 : decode b_K_refuseNoPath 14 = .ok (.invokespecial 79, 3) := by decide +kernel
theorem d_K_refuseNoPath_17 : decode b_K_refuseNoPath 17 = .ok (.athrow, 1) := by decide +kernel
theorem d_K_refuseNoPath_18 : decode b_K_refuseNoPath 18 = .ok (.return_, 1) := by decide +kernel
theorem d_K_refuseNoClient_0 : decode b_K_refuseNoClient 0 = .ok (.iload_n 1, 1) := by decide +kernel
theorem d_K_refuseNoClient_1 : decode b_K_refuseNoClient 1 = .ok (.ifCond .lt 21, 3) := by decide +kernel
theorem d_K_refuseNoClient_4 : decode b_K_refuseNoClient 4 = .ok (.iload_n 1, 1) := by decide +kernel
theorem d_K_refuseNoClient_5 : decode b_K_refuseNoClient 5 = .ok (.bipush 8, 2) := by decide +kernel
theorem d_K_refuseNoClient_7 : decode b_K_refuseNoClient 7 = .ok (.if_icmp .ge 15, 3) := by decide +kernel
theorem d_K_refuseNoClient_10 : decode b_K_refuseNoClient 10 = .ok (.aload_n 0, 1) := by decide +kernel
theorem d_K_refuseNoClient_11 : decode b_K_refuseNoClient 11 = .ok (.getfield 43, 3) := by decide +kernel
theorem d_K_refuseNoClient_14 : decode b_K_refuseNoClient 14 = .ok (.iload_n 1, 1) := by decide +kernel
theorem d_K_refuseNoClient_15 : decode b_K_refuseNoClient 15 = .ok (.aaload, 1) := by decide +kernel
theorem d_K_refuseNoClient_16 : decode b_K_refuseNoClient 16 = .ok (.getfield 163, 3) := by decide +kernel
theorem d_K_refuseNoClient_19 : decode b_K_refuseNoClient 19 = .ok (.ifCond .ne 14, 3) := by decide +kernel
theorem d_K_refuseNoClient_22 : decode b_K_refuseNoClient 22 = .ok (.new 135, 3) := by decide +kernel
theorem d_K_refuseNoClient_25 : decode b_K_refuseNoClient 25 = .ok (.dup, 1) := by decide +kernel
theorem d_K_refuseNoClient_26 : decode b_K_refuseNoClient 26 = .ok (.ldc_w 284, 3) := by decide +kernel
theorem d_K_refuseNoClient_29 : decode b_K_refuseNoClient 29 = .ok (.invokespecial 139, 3) := by decide +kernel
theorem d_K_refuseNoClient_32 : decode b_K_refuseNoClient 32 = .ok (.athrow, 1) := by decide +kernel
theorem d_K_refuseNoClient_33 : decode b_K_refuseNoClient 33 = .ok (.return_, 1) := by decide +kernel
end
section
theorem d_K_needRegistration_0 : decode b_K_needRegistration 0 = .ok (.iload_n 1, 1) := by decide +kernel
theorem d_K_needRegistration_1 : decode b_K_needRegistration 1 = .ok (.invokestatic 98, 3) := by decide +kernel
theorem d_K_needRegistration_4 : decode b_K_needRegistration 4 = .ok (.aload_n 0, 1) := by decide +kernel
theorem d_K_needRegistration_5 : decode b_K_needRegistration 5 = .ok (.iload_n 1, 1) := by decide +kernel
theorem d_K_needRegistration_6 : decode b_K_needRegistration 6 = .ok (.invokevirtual 286, 3) := by decide +kernel
theorem d_K_needRegistration_9 : decode b_K_needRegistration 9 = .ok (.astore_n 2, 1) := by decide +kernel
theorem d_K_needRegistration_10 : decode b_K_needRegistration 10 = .ok (.aload_n 2, 1) := by decide +kernel
theorem d_K_needRegistration_11 : decode b_K_needRegistration 11 = .ok (.ifnonnull 14, 3) := by decide +kernel
theorem d_K_needRegistration_14 : decode b_K_needRegistration 14 = .ok (.new 135, 3) := by decide +kernel
theorem d_K_needRegistration_17 : decode b_K_needRegistration 17 = .ok (.dup, 1) := by decide +kernel
theorem d_K_needRegistration_18 : decode b_K_needRegistration 18 = .ok (.ldc_w 289, 3) := by decide +kernel
theorem d_K_needRegistration_21 : decode b_K_needRegistration 21 = .ok (.invokespecial 139, 3) := by decide +kernel
theorem d_K_needRegistration_24 : decode b_K_needRegistration 24 = .ok (.athrow, 1) := by decide +kernel
theorem d_K_needRegistration_25 : decode b_K_needRegistration 25 = .ok (.aload_n 2, 1) := by decide +kernel
theorem d_K_needRegistration_26 : decode b_K_needRegistration 26 = .ok (.areturn, 1) := by decide +kernel
theorem d_K_networkAnswer_0 : decode b_K_networkAnswer 0 = .ok (.aload_n 0, 1) := by decide +kernel
theorem d_K_networkAnswer_1 : decode b_K_networkAnswer 1 = .ok (.getfield 15, 3) := by decide +kernel
theorem d_K_networkAnswer_4 : decode b_K_networkAnswer 4 = .ok (.ifCond .ne 14, 3) := by decide +kernel
theorem d_K_networkAnswer_7 : decode b_K_networkAnswer 7 = .ok (.new 291, 3) := by decide +kernel
theorem d_K_networkAnswer_10 : decode b_K_networkAnswer 10 = .ok (.dup, 1) := by decide +kernel
theorem d_K_networkAnswer_11 : decode b_K_networkAnswer 11 = .ok (.ldc_w 293, 3) := by decide +kernel
theorem d_K_networkAnswer_14 : decode b_K_networkAnswer 14 = .ok (.invokespecial 295, 3) := by decide +kernel
theorem d_K_networkAnswer_17 : decode b_K_networkAnswer 17 = .ok (.athrow, 1) := by decide +kernel
theorem d_K_networkAnswer_18 : decode b_K_networkAnswer 18 = .ok (.aload_n 0, 1) := by decide +kernel
theorem d_K_networkAnswer_19 : decode b_K_networkAnswer 19 = .ok (.getfield 19, 3) := by decide +kernel
theorem d_K_networkAnswer_22 : decode b_K_networkAnswer 22 = .ok (.iload_n 1, 1) := by decide +kernel
theorem d_K_networkAnswer_23 : decode b_K_networkAnswer 23 = .ok (.iadd, 1) := by decide +kernel
theorem d_K_networkAnswer_24 : decode b_K_networkAnswer 24 = .ok (.ireturn, 1) := by decide +kernel
theorem d_K_isInRow_0 : decode b_K_isInRow 0 = .ok (.aload_n 0, 1) := by decide +kernel
theorem d_K_isInRow_1 : decode b_K_isInRow 1 = .ok (.getfield 296, 3) := by decide +kernel
theorem d_K_isInRow_4 : decode b_K_isInRow 4 = .ok (.iload_n 1, 1) := by decide +kernel
theorem d_K_isInRow_5 : decode b_K_isInRow 5 = .ok (.if_icmp .ne 14, 3) := by decide +kernel
theorem d_K_isInRow_8 : decode b_K_isInRow 8 = .ok (.aload_n 0, 1) := by decide +kernel
theorem d_K_isInRow_9 : decode b_K_isInRow 9 = .ok (.getfield 147, 3) := by decide +kernel
theorem d_K_isInRow_12 : decode b_K_isInRow 12 = .ok (.ifCond .ne 7, 3) := by decide +kernel
theorem d_K_isInRow_15 : decode b_K_isInRow 15 = .ok (.iconst 1, 1) := by decide +kernel
theorem d_K_isInRow_16 : decode b_K_isInRow 16 = .ok (.goto 4, 3) := by decide +kernel
theorem d_K_isInRow_19 : decode b_K_isInRow 19 = .ok (.iconst 0, 1) := by decide +kernel
theorem d_K_isInRow_20 : decode b_K_isInRow 20 = .ok (.ireturn, 1) := by decide +kernel
theorem d_K_firstOfRow_0 : decode b_K_firstOfRow 0 = .ok (.iconst 0, 1) := by decide +kernel
theorem d_K_firstOfRow_1 : decode b_K_firstOfRow 1 = .ok (.istore_n 2, 1) := by decide +kernel
theorem d_K_firstOfRow_2 : decode b_K_firstOfRow 2 = .ok (.iload_n 2, 1) := by decide +kernel
theorem d_K_firstOfRow_3 : decode b_K_firstOfRow 3 = .ok (.aload_n 0, 1) := by decide +kernel
theorem d_K_firstOfRow_4 : decode b_K_firstOfRow 4 = .ok (.getfield 56, 3) := by decide +kernel
theorem d_K_firstOfRow_7 : decode b_K_firstOfRow 7 = .ok (.if_icmp .ge 29, 3) := by decide +kernel
theorem d_K_firstOfRow_10 : decode b_K_firstOfRow 10 = .ok (.aload_n 0, 1) := by decide +kernel
theorem d_K_firstOfRow_11 : decode b_K_firstOfRow 11 = .ok (.getfield 52, 3) := by decide +kernel
theorem d_K_firstOfRow_14 : decode b_K_firstOfRow 14 = .ok (.iload_n 2, 1) := by decide +kernel
theorem d_K_firstOfRow_15 : decode b_K_firstOfRow 15 = .ok (.aaload, 1) := by decide +kernel
theorem d_K_firstOfRow_16 : decode b_K_firstOfRow 16 = .ok (.iload_n 1, 1) := by decide +kernel
theorem d_K_firstOfRow_17 : decode b_K_firstOfRow 17 = .ok (.invokestatic 297, 3) := by decide +kernel
theorem d_K_firstOfRow_20 : decode b_K_firstOfRow 20 = .ok (.ifCond .eq 10, 3) := by decide +kernel
theorem d_K_firstOfRow_23 : decode b_K_firstOfRow 23 = .ok (.aload_n 0, 1) := by decide +kernel
theorem d_K_firstOfRow_24 : decode b_K_firstOfRow 24 = .ok (.getfield 52, 3) := by decide +kernel
theorem d_K_firstOfRow_27 : decode b_K_firstOfRow 27 = .ok (.iload_n 2, 1) := by decide +kernel
theorem d_K_firstOfRow_28 : decode b_K_firstOfRow 28 = .ok (.aaload, 1) := by decide +kernel
theorem d_K_firstOfRow_29 : decode b_K_firstOfRow 29 = .ok (.areturn, 1) := by decide +kernel
theorem d_K_firstOfRow_30 : decode b_K_firstOfRow 30 = .ok (.iinc 2 1, 3) := by decide +kernel
theorem d_K_firstOfRow_33 : decode b_K_firstOfRow 33 = .ok (.goto (-31), 3) := by decide +kernel
theorem d_K_firstOfRow_36 : decode b_K_firstOfRow 36 = .ok (.aconst_null, 1) := by decide +kernel
theorem d_K_firstOfRow_37 : decode b_K_firstOfRow 37 = .ok (.areturn, 1) := by decide +kernel
theorem d_K_lastOfRow_0 : decode b_K_lastOfRow 0 = .ok (.aload_n 0, 1) := by decide +kernel
theorem d_K_lastOfRow_1 : decode b_K_lastOfRow 1 = .ok (.getfield 56, 3) := by decide +kernel
theorem d_K_lastOfRow_4 : decode b_K_lastOfRow 4 = .ok (.iconst 1, 1) := by decide +kernel
theorem d_K_lastOfRow_5 : decode b_K_lastOfRow 5 = .ok (.isub, 1) := by decide +kernel
theorem d_K_lastOfRow_6 : decode b_K_lastOfRow 6 = .ok (.istore_n 2, 1) := by decide +kernel
theorem d_K_lastOfRow_7 : decode b_K_lastOfRow 7 = .ok (.iload_n 2, 1) := by decide +kernel
theorem d_K_lastOfRow_8 : decode b_K_lastOfRow 8 = .ok (.ifCond .lt 29, 3) := by decide +kernel
theorem d_K_lastOfRow_11 : decode b_K_lastOfRow 11 = .ok (.aload_n 0, 1) := by decide +kernel
theorem d_K_lastOfRow_12 : decode b_K_lastOfRow 12 = .ok (.getfield 52, 3) := by decide +kernel
theorem d_K_lastOfRow_15 : decode b_K_lastOfRow 15 = .ok (.iload_n 2, 1) := by decide +kernel
theorem d_K_lastOfRow_16 : decode b_K_lastOfRow 16 = .ok (.aaload, 1) := by decide +kernel
theorem d_K_lastOfRow_17 : decode b_K_lastOfRow 17 = .ok (.iload_n 1, 1) := by decide +kernel
theorem d_K_lastOfRow_18 : decode b_K_lastOfRow 18 = .ok (.invokestatic 297, 3) := by decide +kernel
theorem d_K_lastOfRow_21 : decode b_K_lastOfRow 21 = .ok (.ifCond .eq 10, 3) := by decide +kernel
theorem d_K_lastOfRow_24 : decode b_K_lastOfRow 24 = .ok (.aload_n 0, 1) := by decide +kernel
theorem d_K_lastOfRow_25 : decode b_K_lastOfRow 25 = .ok (.getfield 52, 3) := by decide +kernel
theorem d_K_lastOfRow_28 : decode b_K_lastOfRow 28 = .ok (.iload_n 2, 1) := by decide +kernel
theorem d_K_lastOfRow_29 : decode b_K_lastOfRow 29 = .ok (.aaload, 1) := by decide +kernel
theorem d_K_lastOfRow_30 : decode b_K_lastOfRow 30 = .ok (.areturn, 1) := by decide +kernel
theorem d_K_lastOfRow_31 : decode b_K_lastOfRow 31 = .ok (.iinc 2 (-1), 3) := by decide +kernel
theorem d_K_lastOfRow_34 : decode b_K_lastOfRow 34 = .ok (.goto (-27), 3) := by decide +kernel
theorem d_K_lastOfRow_37 : decode b_K_lastOfRow 37 = .ok (.aconst_null, 1) := by decide +kernel
theorem d_K_lastOfRow_38 : decode b_K_lastOfRow 38 = .ok (.areturn, 1) := by decide +kernel
theorem d_K_rowLength_0 : decode b_K_rowLength 0 = .ok (.iconst 0, 1) := by decide +kernel
theorem d_K_rowLength_1 : decode b_K_rowLength 1 = .ok (.istore_n 2, 1) := by decide +kernel
theorem d_K_rowLength_2 : decode b_K_rowLength 2 = .ok (.iconst 0, 1) := by decide +kernel
theorem d_K_rowLength_3 : decode b_K_rowLength 3 = .ok (.istore_n 3, 1) := by decide +kernel
theorem d_K_rowLength_4 : decode b_K_rowLength 4 = .ok (.iload_n 3, 1) := by decide +kernel
theorem d_K_rowLength_5 : decode b_K_rowLength 5 = .ok (.aload_n 0, 1) := by decide +kernel
theorem d_K_rowLength_6 : decode b_K_rowLength 6 = .ok (.getfield 56, 3) := by decide +kernel
theorem d_K_rowLength_9 : decode b_K_rowLength 9 = .ok (.if_icmp .ge 25, 3) := by decide +kernel
theorem d_K_rowLength_12 : decode b_K_rowLength 12 = .ok (.aload_n 0, 1) := by decide +kernel
theorem d_K_rowLength_13 : decode b_K_rowLength 13 = .ok (.getfield 52, 3) := by decide +kernel
theorem d_K_rowLength_16 : decode b_K_rowLength 16 = .ok (.iload_n 3, 1) := by decide +kernel
theorem d_K_rowLength_17 : decode b_K_rowLength 17 = .ok (.aaload, 1) := by decide +kernel
theorem d_K_rowLength_18 : decode b_K_rowLength 18 = .ok (.iload_n 1, 1) := by decide +kernel
theorem d_K_rowLength_19 : decode b_K_rowLength 19 = .ok (.invokestatic 297, 3) := by decide +kernel
theorem d_K_rowLength_22 : decode b_K_rowLength 22 = .ok (.ifCond .eq 6, 3) := by decide +kernel
theorem d_K_rowLength_25 : decode b_K_rowLength 25 = .ok (.iinc 2 1, 3) := by decide +kernel
theorem d_K_rowLength_28 : decode b_K_rowLength 28 = .ok (.iinc 3 1, 3) := by decide +kernel
theorem d_K_rowLength_31 : decode b_K_rowLength 31 = .ok (.goto (-27), 3) := by decide +kernel
theorem d_K_rowLength_34 : decode b_K_rowLength 34 = .ok (.iload_n 2, 1) := by decide +kernel
theorem d_K_rowLength_35 : decode b_K_rowLength 35 = .ok (.ireturn, 1) := by decide +kernel
theorem d_K_jobsNotEnded_0 : decode b_K_jobsNotEnded 0 = .ok (.iconst 0, 1) := by decide +kernel
theorem d_K_jobsNotEnded_1 : decode b_K_jobsNotEnded 1 = .ok (.istore_n 1, 1) := by decide +kernel
theorem d_K_jobsNotEnded_2 : decode b_K_jobsNotEnded 2 = .ok (.iconst 0, 1) := by decide +kernel
theorem d_K_jobsNotEnded_3 : decode b_K_jobsNotEnded 3 = .ok (.istore_n 2, 1) := by decide +kernel
theorem d_K_jobsNotEnded_4 : decode b_K_jobsNotEnded 4 = .ok (.iload_n 2, 1) := by decide +kernel
theorem d_K_jobsNotEnded_5 : decode b_K_jobsNotEnded 5 = .ok (.aload_n 0, 1) := by decide +kernel
theorem d_K_jobsNotEnded_6 : decode b_K_jobsNotEnded 6 = .ok (.getfield 56, 3) := by decide +kernel
theorem d_K_jobsNotEnded_9 : decode b_K_jobsNotEnded 9 = .ok (.if_icmp .ge 24, 3) := by decide +kernel
theorem d_K_jobsNotEnded_12 : decode b_K_jobsNotEnded 12 = .ok (.aload_n 0, 1) := by decide +kernel
theorem d_K_jobsNotEnded_13 : decode b_K_jobsNotEnded 13 = .ok (.getfield 52, 3) := by decide +kernel
theorem d_K_jobsNotEnded_16 : decode b_K_jobsNotEnded 16 = .ok (.iload_n 2, 1) := by decide +kernel
theorem d_K_jobsNotEnded_17 : decode b_K_jobsNotEnded 17 = .ok (.aaload, 1) := by decide +kernel
theorem d_K_jobsNotEnded_18 : decode b_K_jobsNotEnded 18 = .ok (.getfield 147, 3) := by decide +kernel
theorem d_K_jobsNotEnded_21 : decode b_K_jobsNotEnded 21 = .ok (.ifCond .ne 6, 3) := by decide +kernel
theorem d_K_jobsNotEnded_24 : decode b_K_jobsNotEnded 24 = .ok (.iinc 1 1, 3) := by decide +kernel
theorem d_K_jobsNotEnded_27 : decode b_K_jobsNotEnded 27 = .ok (.iinc 2 1, 3) := by decide +kernel
theorem d_K_jobsNotEnded_30 : decode b_K_jobsNotEnded 30 = .ok (.goto (-26), 3) := by decide +kernel
theorem d_K_jobsNotEnded_33 : decode b_K_jobsNotEnded 33 = .ok (.iload_n 1, 1) := by decide +kernel
theorem d_K_jobsNotEnded_34 : decode b_K_jobsNotEnded 34 = .ok (.ireturn, 1) := by decide +kernel
theorem d_K_beginJob_0 : decode b_K_beginJob 0 = .ok (.aload_n 1, 1) := by decide +kernel
theorem d_K_beginJob_1 : decode b_K_beginJob 1 = .ok (.getfield 111, 3) := by decide +kernel
theorem d_K_beginJob_4 : decode b_K_beginJob 4 = .ok (.lookupswitch 43 #[(0, 28), (1, 34)], 28) := by decide +kernel
theorem d_K_beginJob_32 : decode b_K_beginJob 32 = .ok (.aload_n 0, 1) := by decide +kernel
theorem d_K_beginJob_33 : decode b_K_beginJob 33 = .ok (.aload_n 1, 1) := by decide +kernel
theorem d_K_beginJob_34 : decode b_K_beginJob 34 = .ok (.invokevirtual 301, 3) := by decide +kernel
theorem d_K_beginJob_37 : decode b_K_beginJob 37 = .ok (.ireturn, 1) := by decide +kernel
theorem d_K_beginJob_38 : decode b_K_beginJob 38 = .ok (.aload_n 0, 1) := by decide +kernel
theorem d_K_beginJob_39 : decode b_K_beginJob 39 = .ok (.aload_n 1, 1) := by decide +kernel
theorem d_K_beginJob_40 : decode b_K_beginJob 40 = .ok (.getfield 296, 3) := by decide +kernel
theorem d_K_beginJob_43 : decode b_K_beginJob 43 = .ok (.invokevirtual 304, 3) := by decide +kernel
theorem d_K_beginJob_46 : decode b_K_beginJob 46 = .ok (.ireturn, 1) := by decide +kernel
theorem d_K_beginJob_47 : decode b_K_beginJob 47 = .ok (.aload_n 0, 1) := by decide +kernel
theorem d_K_beginJob_48 : decode b_K_beginJob 48 = .ok (.aload_n 1, 1) := by decide +kernel
theorem d_K_beginJob_49 : decode b_K_beginJob 49 = .ok (.getfield 296, 3) := by decide +kernel
theorem d_K_beginJob_52 : decode b_K_beginJob 52 = .ok (.invokevirtual 307, 3) := by decide +kernel
theorem d_K_beginJob_55 : decode b_K_beginJob 55 = .ok (.ireturn, 1) := by decide +kernel
theorem d_K_beginRegister_0 : decode b_K_beginRegister 0 = .ok (.aload_n 0, 1) := by decide +kernel
theorem d_K_beginRegister_1 : decode b_K_beginRegister 1 = .ok (.getfield 11, 3) := by decide +kernel
theorem d_K_beginRegister_4 : decode b_K_beginRegister 4 = .ok (.aload_n 1, 1) := by decide +kernel
theorem d_K_beginRegister_5 : decode b_K_beginRegister 5 = .ok (.getfield 114, 3) := by decide +kernel
theorem d_K_beginRegister_8 : decode b_K_beginRegister 8 = .ok (.aaload, 1) := by decide +kernel
theorem d_K_beginRegister_9 : decode b_K_beginRegister 9 = .ok (.getfield 87, 3) := by decide +kernel
theorem d_K_beginRegister_12 : decode b_K_beginRegister 12 = .ok (.aload_n 1, 1) := by decide +kernel
theorem d_K_beginRegister_13 : decode b_K_beginRegister 13 = .ok (.getfield 296, 3) := by decide +kernel
theorem d_K_beginRegister_16 : decode b_K_beginRegister 16 = .ok (.invokestatic 310, 3) := by decide +kernel
theorem d_K_beginRegister_19 : decode b_K_beginRegister 19 = .ok (.ifCond .ne 5, 3) := by decide +kernel
theorem d_K_beginRegister_22 : decode b_K_beginRegister 22 = .ok (.iconst (-1), 1) := by decide +kernel
theorem d_K_beginRegister_23 : decode b_K_beginRegister 23 = .ok (.ireturn, 1) := by decide +kernel
theorem d_K_beginRegister_24 : decode b_K_beginRegister 24 = .ok (.aload_n 0, 1) := by decide +kernel
theorem d_K_beginRegister_25 : decode b_K_beginRegister 25 = .ok (.getfield 15, 3) := by decide +kernel
theorem d_K_beginRegister_28 : decode b_K_beginRegister 28 = .ok (.ifCond .ne 6, 3) := by decide +kernel
theorem d_K_beginRegister_31 : decode b_K_beginRegister 31 = .ok (.bipush (-4), 2) := by decide +kernel
theorem d_K_beginRegister_33 : decode b_K_beginRegister 33 = .ok (.ireturn, 1) := by decide +kernel
theorem d_K_beginRegister_34 : decode b_K_beginRegister 34 = .ok (.aload_n 0, 1) := by decide +kernel
theorem d_K_beginRegister_35 : decode b_K_beginRegister 35 = .ok (.aload_n 1, 1) := by decide +kernel
theorem d_K_beginRegister_36 : decode b_K_beginRegister 36 = .ok (.getfield 296, 3) := by decide +kernel
theorem d_K_beginRegister_39 : decode b_K_beginRegister 39 = .ok (.invokevirtual 286, 3) := by decide +kernel
theorem d_K_beginRegister_42 : decode b_K_beginRegister 42 = .ok (.astore_n 2, 1) := by decide +kernel
theorem d_K_beginRegister_43 : decode b_K_beginRegister 43 = .ok (.aload_n 2, 1) := by decide +kernel
theorem d_K_beginRegister_44 : decode b_K_beginRegister 44 = .ok (.ifnonnull 15, 3) := by decide +kernel
theorem d_K_beginRegister_47 : decode b_K_beginRegister 47 = .ok (.aload_n 0, 1) := by decide +kernel
theorem d_K_beginRegister_48 : decode b_K_beginRegister 48 = .ok (.getfield 38, 3) := by decide +kernel
theorem d_K_beginRegister_51 : decode b_K_beginRegister 51 = .ok (.iconst 5, 1) := by decide +kernel
theorem d_K_beginRegister_52 : decode b_K_beginRegister 52 = .ok (.if_icmp .lt 7, 3) := by decide +kernel
theorem d_K_beginRegister_55 : decode b_K_beginRegister 55 = .ok (.iconst 1, 1) := by decide +kernel
theorem d_K_beginRegister_56 : decode b_K_beginRegister 56 = .ok (.goto 4, 3) := by decide +kernel
theorem d_K_beginRegister_59 : decode b_K_beginRegister 59 = .ok (.iconst 0, 1) := by decide +kernel
theorem d_K_beginRegister_60 : decode b_K_beginRegister 60 = .ok (.istore_n 3, 1) := by decide +kernel
theorem d_K_beginRegister_61 : decode b_K_beginRegister 61 = .ok (.iload_n 3, 1) := by decide +kernel
theorem d_K_beginRegister_62 : decode b_K_beginRegister 62 = .ok (.ifCond .ne 12, 3) := by decide +kernel
theorem d_K_beginRegister_65 : decode b_K_beginRegister 65 = .ok (.aload_n 0, 1) := by decide +kernel
theorem d_K_beginRegister_66 : decode b_K_beginRegister 66 = .ok (.getfield 29, 3) := by decide +kernel
theorem d_K_beginRegister_69 : decode b_K_beginRegister 69 = .ok (.bipush 40, 2) := by decide +kernel
theorem d_K_beginRegister_71 : decode b_K_beginRegister 71 = .ok (.if_icmp .lt 6, 3) := by decide +kernel
theorem d_K_beginRegister_74 : decode b_K_beginRegister 74 = .ok (.bipush (-5), 2) := by decide +kernel
theorem d_K_beginRegister_76 : decode b_K_beginRegister 76 = .ok (.ireturn, 1) := by decide +kernel
theorem d_K_beginRegister_77 : decode b_K_beginRegister 77 = .ok (.aload_n 2, 1) := by decide +kernel
theorem d_K_beginRegister_78 : decode b_K_beginRegister 78 = .ok (.ifnonnull 12, 3) := by decide +kernel
theorem d_K_beginRegister_81 : decode b_K_beginRegister 81 = .ok (.aload_n 0, 1) := by decide +kernel
theorem d_K_beginRegister_82 : decode b_K_beginRegister 82 = .ok (.aload_n 1, 1) := by decide +kernel
theorem d_K_beginRegister_83 : decode b_K_beginRegister 83 = .ok (.getfield 296, 3) := by decide +kernel
theorem d_K_beginRegister_86 : decode b_K_beginRegister 86 = .ok (.invokevirtual 314, 3) := by decide +kernel
theorem d_K_beginRegister_89 : decode b_K_beginRegister 89 = .ok (.astore_n 2, 1) := by decide +kernel
theorem d_K_beginRegister_90 : decode b_K_beginRegister 90 = .ok (.aload_n 2, 1) := by decide +kernel
theorem d_K_beginRegister_91 : decode b_K_beginRegister 91 = .ok (.iconst 0, 1) := by decide +kernel
theorem d_K_beginRegister_92 : decode b_K_beginRegister 92 = .ok (.putfield 236, 3) := by decide +kernel
theorem d_K_beginRegister_95 : decode b_K_beginRegister 95 = .ok (.aload_n 2, 1) := by decide +kernel
theorem d_K_beginRegister_96 : decode b_K_beginRegister 96 = .ok (.getfield 235, 3) := by decide +kernel
theorem d_K_beginRegister_99 : decode b_K_beginRegister 99 = .ok (.aload_n 1, 1) := by decide +kernel
theorem d_K_beginRegister_100 : decode b_K_beginRegister 100 = .ok (.getfield 114, 3) := by decide +kernel
theorem d_K_beginRegister_103 : decode b_K_beginRegister 103 = .ok (.if_icmp .ne 13, 3) := by decide +kernel
theorem d_K_beginRegister_106 : decode b_K_beginRegister 106 = .ok (.aload_n 0, 1) := by decide +kernel
theorem d_K_beginRegister_107 : decode b_K_beginRegister 107 = .ok (.aload_n 2, 1) := by decide +kernel
theorem d_K_beginRegister_108 : decode b_K_beginRegister 108 = .ok (.invokevirtual 317, 3) := by decide +kernel
theorem d_K_beginRegister_111 : decode b_K_beginRegister 111 = .ok (.ifCond .eq 5, 3) := by decide +kernel
theorem d_K_beginRegister_114 : decode b_K_beginRegister 114 = .ok (.iconst 2, 1) := by decide +kernel
theorem d_K_beginRegister_115 : decode b_K_beginRegister 115 = .ok (.ireturn, 1) := by decide +kernel
theorem d_K_beginRegister_116 : decode b_K_beginRegister 116 = .ok (.aload_n 2, 1) := by decide +kernel
theorem d_K_beginRegister_117 : decode b_K_beginRegister 117 = .ok (.aload_n 1, 1) := by decide +kernel
theorem d_K_beginRegister_118 : decode b_K_beginRegister 118 = .ok (.getfield 114, 3) := by decide +kernel
theorem d_K_beginRegister_121 : decode b_K_beginRegister 121 = .ok (.putfield 235, 3) := by decide +kernel
theorem d_K_beginRegister_124 : decode b_K_beginRegister 124 = .ok (.aload_n 0, 1) := by decide +kernel
theorem d_K_beginRegister_125 : decode b_K_beginRegister 125 = .ok (.aload_n 2, 1) := by decide +kernel
theorem d_K_beginRegister_126 : decode b_K_beginRegister 126 = .ok (.invokevirtual 321, 3) := by decide +kernel
theorem d_K_beginRegister_129 : decode b_K_beginRegister 129 = .ok (.iconst 0, 1) := by decide +kernel
theorem d_K_beginRegister_130 : decode b_K_beginRegister 130 = .ok (.ireturn, 1) := by decide +kernel
theorem d_K_beginUpdate_0 : decode b_K_beginUpdate 0 = .ok (.aload_n 0, 1) := by decide +kernel
theorem d_K_beginUpdate_1 : decode b_K_beginUpdate 1 = .ok (.iload_n 1, 1) := by decide +kernel
theorem d_K_beginUpdate_2 : decode b_K_beginUpdate 2 = .ok (.invokevirtual 286, 3) := by decide +kernel
theorem d_K_beginUpdate_5 : decode b_K_beginUpdate 5 = .ok (.astore_n 2, 1) := by decide +kernel
theorem d_K_beginUpdate_6 : decode b_K_beginUpdate 6 = .ok (.aload_n 2, 1) := by decide +kernel
theorem d_K_beginUpdate_7 : decode b_K_beginUpdate 7 = .ok (.ifnull 10, 3) := by decide +kernel
theorem d_K_beginUpdate_10 : decode b_K_beginUpdate 10 = .ok (.aload_n 2, 1) := by decide +kernel
theorem d_K_beginUpdate_11 : decode b_K_beginUpdate 11 = .ok (.getfield 236, 3) := by decide +kernel
theorem d_K_beginUpdate_14 : decode b_K_beginUpdate 14 = .ok (.ifCond .eq 6, 3) := by decide +kernel
theorem d_K_beginUpdate_17 : decode b_K_beginUpdate 17 = .ok (.bipush (-2), 2) := by decide +kernel
theorem d_K_beginUpdate_19 : decode b_K_beginUpdate 19 = .ok (.ireturn, 1) := by decide +kernel
theorem d_K_beginUpdate_20 : decode b_K_beginUpdate 20 = .ok (.aload_n 0, 1) := by decide +kernel
theorem d_K_beginUpdate_21 : decode b_K_beginUpdate 21 = .ok (.getfield 15, 3) := by decide +kernel
theorem d_K_beginUpdate_24 : decode b_K_beginUpdate 24 = .ok (.ifCond .ne 6, 3) := by decide +kernel
theorem d_K_beginUpdate_27 : decode b_K_beginUpdate 27 = .ok (.bipush (-4), 2) := by decide +kernel
theorem d_K_beginUpdate_29 : decode b_K_beginUpdate 29 = .ok (.ireturn, 1) := by decide +kernel
theorem d_K_beginUpdate_30 : decode b_K_beginUpdate 30 = .ok (.aload_n 0, 1) := by decide +kernel
theorem d_K_beginUpdate_31 : decode b_K_beginUpdate 31 = .ok (.getfield 29, 3) := by decide +kernel
theorem d_K_beginUpdate_34 : decode b_K_beginUpdate 34 = .ok (.bipush 40, 2) := by decide +kernel
theorem d_K_beginUpdate_36 : decode b_K_beginUpdate 36 = .ok (.if_icmp .lt 6, 3) := by decide +kernel
theorem d_K_beginUpdate_39 : decode b_K_beginUpdate 39 = .ok (.bipush (-5), 2) := by decide +kernel
theorem d_K_beginUpdate_41 : decode b_K_beginUpdate 41 = .ok (.ireturn, 1) := by decide +kernel
theorem d_K_beginUpdate_42 : decode b_K_beginUpdate 42 = .ok (.aload_n 0, 1) := by decide +kernel
theorem d_K_beginUpdate_43 : decode b_K_beginUpdate 43 = .ok (.aload_n 2, 1) := by decide +kernel
theorem d_K_beginUpdate_44 : decode b_K_beginUpdate 44 = .ok (.invokevirtual 317, 3) := by decide +kernel
theorem d_K_beginUpdate_47 : decode b_K_beginUpdate 47 = .ok (.ifCond .eq 5, 3) := by decide +kernel
theorem d_K_beginUpdate_50 : decode b_K_beginUpdate 50 = .ok (.iconst 2, 1) := by decide +kernel
theorem d_K_beginUpdate_51 : decode b_K_beginUpdate 51 = .ok (.ireturn, 1) := by decide +kernel
theorem d_K_beginUpdate_52 : decode b_K_beginUpdate 52 = .ok (.aload_n 0, 1) := by decide +kernel
theorem d_K_beginUpdate_53 : decode b_K_beginUpdate 53 = .ok (.aload_n 2, 1) := by decide +kernel
theorem d_K_beginUpdate_54 : decode b_K_beginUpdate 54 = .ok (.invokevirtual 321, 3) := by decide +kernel
theorem d_K_beginUpdate_57 : decode b_K_beginUpdate 57 = .ok (.iconst 0, 1) := by decide +kernel
theorem d_K_beginUpdate_58 : decode b_K_beginUpdate 58 = .ok (.ireturn, 1) := by decide +kernel
theorem d_K_unregister_0 : decode b_K_unregister 0 = .ok (.aload_n 0, 1) := by decide +kernel
theorem d_K_unregister_1 : decode b_K_unregister 1 = .ok (.iload_n 1, 1) := by decide +kernel
theorem d_K_unregister_2 : decode b_K_unregister 2 = .ok (.invokevirtual 286, 3) := by decide +kernel
theorem d_K_unregister_5 : decode b_K_unregister 5 = .ok (.astore_n 2, 1) := by decide +kernel
theorem d_K_unregister_6 : decode b_K_unregister 6 = .ok (.aload_n 2, 1) := by decide +kernel
theorem d_K_unregister_7 : decode b_K_unregister 7 = .ok (.ifnull 10, 3) := by decide +kernel
theorem d_K_unregister_10 : decode b_K_unregister 10 = .ok (.aload_n 2, 1) := by decide +kernel
theorem d_K_unregister_11 : decode b_K_unregister 11 = .ok (.getfield 236, 3) := by decide +kernel
theorem d_K_unregister_14 : decode b_K_unregister 14 = .ok (.ifCond .eq 6, 3) := by decide +kernel
theorem d_K_unregister_17 : decode b_K_unregister 17 = .ok (.bipush (-2), 2) := by decide +kernel
theorem d_K_unregister_19 : decode b_K_unregister 19 = .ok (.ireturn, 1) := by decide +kernel
theorem d_K_unregister_20 : decode b_K_unregister 20 = .ok (.aload_n 2, 1) := by decide +kernel
theorem d_K_unregister_21 : decode b_K_unregister 21 = .ok (.iconst 1, 1) := by decide +kernel
theorem d_K_unregister_22 : decode b_K_unregister 22 = .ok (.putfield 236, 3) := by decide +kernel
theorem d_K_unregister_25 : decode b_K_unregister 25 = .ok (.aload_n 0, 1) := by decide +kernel
theorem d_K_unregister_26 : decode b_K_unregister 26 = .ok (.aload_n 2, 1) := by decide +kernel
theorem d_K_unregister_27 : decode b_K_unregister 27 = .ok (.invokevirtual 324, 3) := by decide +kernel
theorem d_K_unregister_30 : decode b_K_unregister 30 = .ok (.pop, 1) := by decide +kernel
theorem d_K_unregister_31 : decode b_K_unregister 31 = .ok (.iconst 1, 1) := by decide +kernel
theorem d_K_unregister_32 : decode b_K_unregister 32 = .ok (.ireturn, 1) := by decide +kernel
theorem d_K_isUpToDate_0 : decode b_K_isUpToDate 0 = .ok (.aload_n 1, 1) := by decide +kernel
theorem d_K_isUpToDate_1 : decode b_K_isUpToDate 1 = .ok (.invokevirtual 327, 3) := by decide +kernel
theorem d_K_isUpToDate_4 : decode b_K_isUpToDate 4 = .ok (.astore_n 2, 1) := by decide +kernel
theorem d_K_isUpToDate_5 : decode b_K_isUpToDate 5 = .ok (.aload_n 2, 1) := by decide +kernel
theorem d_K_isUpToDate_6 : decode b_K_isUpToDate 6 = .ok (.ifnull 26, 3) := by decide +kernel
theorem d_K_isUpToDate_9 : decode b_K_isUpToDate 9 = .ok (.aload_n 2, 1) := by decide +kernel
theorem d_K_isUpToDate_10 : decode b_K_isUpToDate 10 = .ok (.getfield 216, 3) := by decide +kernel
theorem d_K_isUpToDate_13 : decode b_K_isUpToDate 13 = .ok (.aload_n 0, 1) := by decide +kernel
theorem d_K_isUpToDate_14 : decode b_K_isUpToDate 14 = .ok (.getfield 11, 3) := by decide +kernel
theorem d_K_isUpToDate_17 : decode b_K_isUpToDate 17 = .ok (.aload_n 1, 1) := by decide +kernel
theorem d_K_isUpToDate_18 : decode b_K_isUpToDate 18 = .ok (.getfield 235, 3) := by decide +kernel
theorem d_K_isUpToDate_21 : decode b_K_isUpToDate 21 = .ok (.aaload, 1) := by decide +kernel
theorem d_K_isUpToDate_22 : decode b_K_isUpToDate 22 = .ok (.getfield 84, 3) := by decide +kernel
theorem d_K_isUpToDate_25 : decode b_K_isUpToDate 25 = .ok (.if_icmp .ne 7, 3) := by decide +kernel
theorem d_K_isUpToDate_28 : decode b_K_isUpToDate 28 = .ok (.iconst 1, 1) := by decide +kernel
theorem d_K_isUpToDate_29 : decode b_K_isUpToDate 29 = .ok (.goto 4, 3) := by decide +kernel
theorem d_K_isUpToDate_32 : decode b_K_isUpToDate 32 = .ok (.iconst 0, 1) := by decide +kernel
theorem d_K_isUpToDate_33 : decode b_K_isUpToDate 33 = .ok (.ireturn, 1) := by decide +kernel
theorem d_K_beginInstall_0 : decode b_K_beginInstall 0 = .ok (.new 23, 3) := by decide +kernel
theorem d_K_beginInstall_3 : decode b_K_beginInstall 3 = .ok (.dup, 1) := by decide +kernel
theorem d_K_beginInstall_4 : decode b_K_beginInstall 4 = .ok (.aload_n 0, 1) := by decide +kernel
theorem d_K_beginInstall_5 : decode b_K_beginInstall 5 = .ok (.getfield 29, 3) := by decide +kernel
theorem d_K_beginInstall_8 : decode b_K_beginInstall 8 = .ok (.iconst 1, 1) := by decide +kernel
theorem d_K_beginInstall_9 : decode b_K_beginInstall 9 = .ok (.iadd, 1) := by decide +kernel
theorem d_K_beginInstall_10 : decode b_K_beginInstall 10 = .ok (.aload_n 0, 1) := by decide +kernel
theorem d_K_beginInstall_11 : decode b_K_beginInstall 11 = .ok (.getfield 11, 3) := by decide +kernel
theorem d_K_beginInstall_14 : decode b_K_beginInstall 14 = .ok (.aload_n 1, 1) := by decide +kernel
theorem d_K_beginInstall_15 : decode b_K_beginInstall 15 = .ok (.getfield 235, 3) := by decide +kernel
theorem d_K_beginInstall_18 : decode b_K_beginInstall 18 = .ok (.aaload, 1) := by decide +kernel
theorem d_K_beginInstall_19 : decode b_K_beginInstall 19 = .ok (.invokespecial 331, 3) := by decide +kernel
theorem d_K_beginInstall_22 : decode b_K_beginInstall 22 = .ok (.astore_n 2, 1) := by decide +kernel
theorem d_K_beginInstall_23 : decode b_K_beginInstall 23 = .ok (.aload_n 0, 1) := by decide +kernel
theorem d_K_beginInstall_24 : decode b_K_beginInstall 24 = .ok (.getfield 25, 3) := by decide +kernel
theorem d_K_beginInstall_27 : decode b_K_beginInstall 27 = .ok (.aload_n 0, 1) := by decide +kernel
theorem d_K_beginInstall_28 : decode b_K_beginInstall 28 = .ok (.getfield 29, 3) := by decide +kernel
theorem d_K_beginInstall_31 : decode b_K_beginInstall 31 = .ok (.aload_n 2, 1) := by decide +kernel
theorem d_K_beginInstall_32 : decode b_K_beginInstall 32 = .ok (.aastore, 1) := by decide +kernel
theorem d_K_beginInstall_33 : decode b_K_beginInstall 33 = .ok (.aload_n 0, 1) := by decide +kernel
theorem d_K_beginInstall_34 : decode b_K_beginInstall 34 = .ok (.dup, 1) := by decide +kernel
theorem d_K_beginInstall_35 : decode b_K_beginInstall 35 = .ok (.getfield 29, 3) := by decide +kernel
theorem d_K_beginInstall_38 : decode b_K_beginInstall 38 = .ok (.iconst 1, 1) := by decide +kernel
theorem d_K_beginInstall_39 : decode b_K_beginInstall 39 = .ok (.iadd, 1) := by decide +kernel
theorem d_K_beginInstall_40 : decode b_K_beginInstall 40 = .ok (.putfield 29, 3) := by decide +kernel
theorem d_K_beginInstall_43 : decode b_K_beginInstall 43 = .ok (.aload_n 1, 1) := by decide +kernel
theorem d_K_beginInstall_44 : decode b_K_beginInstall 44 = .ok (.aload_n 2, 1) := by decide +kernel
theorem d_K_beginInstall_45 : decode b_K_beginInstall 45 = .ok (.putfield 199, 3) := by decide +kernel
theorem d_K_beginInstall_48 : decode b_K_beginInstall 48 = .ok (.aload_n 0, 1) := by decide +kernel
theorem d_K_beginInstall_49 : decode b_K_beginInstall 49 = .ok (.aload_n 2, 1) := by decide +kernel
theorem d_K_beginInstall_50 : decode b_K_beginInstall 50 = .ok (.iconst 1, 1) := by decide +kernel
theorem d_K_beginInstall_51 : decode b_K_beginInstall 51 = .ok (.invokevirtual 334, 3) := by decide +kernel
theorem d_K_beginInstall_54 : decode b_K_beginInstall 54 = .ok (.return_, 1) := by decide +kernel
theorem d_K_finishInstall_0 : decode b_K_finishInstall 0 = .ok (.aload_n 0, 1) := by decide +kernel
theorem d_K_finishInstall_1 : decode b_K_finishInstall 1 = .ok (.iload_n 1, 1) := by decide +kernel
theorem d_K_finishInstall_2 : decode b_K_finishInstall 2 = .ok (.invokevirtual 286, 3) := by decide +kernel
theorem d_K_finishInstall_5 : decode b_K_finishInstall 5 = .ok (.astore_n 2, 1) := by decide +kernel
theorem d_K_finishInstall_6 : decode b_K_finishInstall 6 = .ok (.aload_n 2, 1) := by decide +kernel
theorem d_K_finishInstall_7 : decode b_K_finishInstall 7 = .ok (.ifnull 10, 3) := by decide +kernel
theorem d_K_finishInstall_10 : decode b_K_finishInstall 10 = .ok (.aload_n 2, 1) := by decide +kernel
theorem d_K_finishInstall_11 : decode b_K_finishInstall 11 = .ok (.getfield 199, 3) := by decide +kernel
theorem d_K_finishInstall_14 : decode b_K_finishInstall 14 = .ok (.ifnonnull 6, 3) := by decide +kernel
theorem d_K_finishInstall_17 : decode b_K_finishInstall 17 = .ok (.bipush (-2), 2) := by decide +kernel
theorem d_K_finishInstall_19 : decode b_K_finishInstall 19 = .ok (.ireturn, 1) := by decide +kernel
theorem d_K_finishInstall_20 : decode b_K_finishInstall 20 = .ok (.aload_n 2, 1) := by decide +kernel
theorem d_K_finishInstall_21 : decode b_K_finishInstall 21 = .ok (.getfield 199, 3) := by decide +kernel
theorem d_K_finishInstall_24 : decode b_K_finishInstall 24 = .ok (.astore_n 3, 1) := by decide +kernel
theorem d_K_finishInstall_25 : decode b_K_finishInstall 25 = .ok (.aload_n 2, 1) := by decide +kernel
theorem d_K_finishInstall_26 : decode b_K_finishInstall 26 = .ok (.aconst_null, 1) := by decide +kernel
theorem d_K_finishInstall_27 : decode b_K_finishInstall 27 = .ok (.putfield 199, 3) := by decide +kernel
theorem d_K_finishInstall_30 : decode b_K_finishInstall 30 = .ok (.aload_n 3, 1) := by decide +kernel
theorem d_K_finishInstall_31 : decode b_K_finishInstall 31 = .ok (.getfield 338, 3) := by decide +kernel
theorem d_K_finishInstall_34 : decode b_K_finishInstall 34 = .ok (.iconst 1, 1) := by decide +kernel
theorem d_K_finishInstall_35 : decode b_K_finishInstall 35 = .ok (.if_icmp .ne 24, 3) := by decide +kernel
theorem d_K_finishInstall_38 : decode b_K_finishInstall 38 = .ok (.aload_n 0, 1) := by decide +kernel
theorem d_K_finishInstall_39 : decode b_K_finishInstall 39 = .ok (.aload_n 3, 1) := by decide +kernel
theorem d_K_finishInstall_40 : decode b_K_finishInstall 40 = .ok (.iconst 4, 1) := by decide +kernel
theorem d_K_finishInstall_41 : decode b_K_finishInstall 41 = .ok (.invokevirtual 334, 3) := by decide +kernel
theorem d_K_finishInstall_44 : decode b_K_finishInstall 44 = .ok (.aload_n 2, 1) := by decide +kernel
theorem d_K_finishInstall_45 : decode b_K_finishInstall 45 = .ok (.invokevirtual 327, 3) := by decide +kernel
theorem d_K_finishInstall_48 : decode b_K_finishInstall 48 = .ok (.ifnonnull 8, 3) := by decide +kernel
theorem d_K_finishInstall_51 : decode b_K_finishInstall 51 = .ok (.aload_n 0, 1) := by decide +kernel
theorem d_K_finishInstall_52 : decode b_K_finishInstall 52 = .ok (.aload_n 2, 1) := by decide +kernel
theorem d_K_finishInstall_53 : decode b_K_finishInstall 53 = .ok (.invokevirtual 339, 3) := by decide +kernel
theorem d_K_finishInstall_56 : decode b_K_finishInstall 56 = .ok (.bipush (-3), 2) := by decide +kernel
theorem d_K_finishInstall_58 : decode b_K_finishInstall 58 = .ok (.ireturn, 1) := by decide +kernel
theorem d_K_finishInstall_59 : decode b_K_finishInstall 59 = .ok (.aload_n 0, 1) := by decide +kernel
theorem d_K_finishInstall_60 : decode b_K_finishInstall 60 = .ok (.aload_n 2, 1) := by decide +kernel
theorem d_K_finishInstall_61 : decode b_K_finishInstall 61 = .ok (.getfield 196, 3) := by decide +kernel
theorem d_K_finishInstall_64 : decode b_K_finishInstall 64 = .ok (.iconst 4, 1) := by decide +kernel
theorem d_K_finishInstall_65 : decode b_K_finishInstall 65 = .ok (.invokevirtual 334, 3) := by decide +kernel
theorem d_K_finishInstall_68 : decode b_K_finishInstall 68 = .ok (.aload_n 2, 1) := by decide +kernel
theorem d_K_finishInstall_69 : decode b_K_finishInstall 69 = .ok (.aload_n 3, 1) := by decide +kernel
theorem d_K_finishInstall_70 : decode b_K_finishInstall 70 = .ok (.putfield 196, 3) := by decide +kernel
theorem d_K_finishInstall_73 : decode b_K_finishInstall 73 = .ok (.aload_n 0, 1) := by decide +kernel
theorem d_K_finishInstall_74 : decode b_K_finishInstall 74 = .ok (.aload_n 3, 1) := by decide +kernel
theorem d_K_finishInstall_75 : decode b_K_finishInstall 75 = .ok (.iconst 2, 1) := by decide +kernel
theorem d_K_finishInstall_76 : decode b_K_finishInstall 76 = .ok (.invokevirtual 334, 3) := by decide +kernel
theorem d_K_finishInstall_79 : decode b_K_finishInstall 79 = .ok (.aload_n 0, 1) := by decide +kernel
theorem d_K_finishInstall_80 : decode b_K_finishInstall 80 = .ok (.aload_n 2, 1) := by decide +kernel
theorem d_K_finishInstall_81 : decode b_K_finishInstall 81 = .ok (.invokevirtual 207, 3) := by decide +kernel
theorem d_K_finishInstall_84 : decode b_K_finishInstall 84 = .ok (.iconst 1, 1) := by decide +kernel
theorem d_K_finishInstall_85 : decode b_K_finishInstall 85 = .ok (.ireturn, 1) := by decide +kernel
theorem d_K_tryActivation_0 : decode b_K_tryActivation 0 = .ok (.aload_n 1, 1) := by decide +kernel
theorem d_K_tryActivation_1 : decode b_K_tryActivation 1 = .ok (.getfield 196, 3) := by decide +kernel
theorem d_K_tryActivation_4 : decode b_K_tryActivation 4 = .ok (.astore_n 2, 1) := by decide +kernel
theorem d_K_tryActivation_5 : decode b_K_tryActivation 5 = .ok (.aload_n 1, 1) := by decide +kernel
theorem d_K_tryActivation_6 : decode b_K_tryActivation 6 = .ok (.getfield 169, 3) := by decide +kernel
theorem d_K_tryActivation_9 : decode b_K_tryActivation 9 = .ok (.astore_n 3, 1) := by decide +kernel
theorem d_K_tryActivation_10 : decode b_K_tryActivation 10 = .ok (.aload_n 2, 1) := by decide +kernel
theorem d_K_tryActivation_11 : decode b_K_tryActivation 11 = .ok (.ifnull 18, 3) := by decide +kernel
theorem d_K_tryActivation_14 : decode b_K_tryActivation 14 = .ok (.aload_n 2, 1) := by decide +kernel
theorem d_K_tryActivation_15 : decode b_K_tryActivation 15 = .ok (.getfield 204, 3) := by decide +kernel
theorem d_K_tryActivation_18 : decode b_K_tryActivation 18 = .ok (.ifCond .ne 12, 3) := by decide +kernel
theorem d_K_tryActivation_21 : decode b_K_tryActivation 21 = .ok (.aload_n 0, 1) := by decide +kernel
theorem d_K_tryActivation_22 : decode b_K_tryActivation 22 = .ok (.aload_n 3, 1) := by decide +kernel
theorem d_K_tryActivation_23 : decode b_K_tryActivation 23 = .ok (.invokevirtual 251, 3) := by decide +kernel
theorem d_K_tryActivation_26 : decode b_K_tryActivation 26 = .ok (.ifCond .eq 4, 3) := by decide +kernel
theorem d_K_tryActivation_29 : decode b_K_tryActivation 29 = .ok (.return_, 1) := by decide +kernel
theorem d_K_tryActivation_30 : decode b_K_tryActivation 30 = .ok (.aload_n 0, 1) := by decide +kernel
theorem d_K_tryActivation_31 : decode b_K_tryActivation 31 = .ok (.aload_n 3, 1) := by decide +kernel
theorem d_K_tryActivation_32 : decode b_K_tryActivation 32 = .ok (.iconst 4, 1) := by decide +kernel
theorem d_K_tryActivation_33 : decode b_K_tryActivation 33 = .ok (.invokevirtual 334, 3) := by decide +kernel
theorem d_K_tryActivation_36 : decode b_K_tryActivation 36 = .ok (.aload_n 1, 1) := by decide +kernel
theorem d_K_tryActivation_37 : decode b_K_tryActivation 37 = .ok (.aconst_null, 1) := by decide +kernel
theorem d_K_tryActivation_38 : decode b_K_tryActivation 38 = .ok (.putfield 196, 3) := by decide +kernel
theorem d_K_tryActivation_41 : decode b_K_tryActivation 41 = .ok (.aload_n 1, 1) := by decide +kernel
theorem d_K_tryActivation_42 : decode b_K_tryActivation 42 = .ok (.aload_n 2, 1) := by decide +kernel
theorem d_K_tryActivation_43 : decode b_K_tryActivation 43 = .ok (.putfield 169, 3) := by decide +kernel
theorem d_K_tryActivation_46 : decode b_K_tryActivation 46 = .ok (.aload_n 0, 1) := by decide +kernel
theorem d_K_tryActivation_47 : decode b_K_tryActivation 47 = .ok (.aload_n 2, 1) := by decide +kernel
theorem d_K_tryActivation_48 : decode b_K_tryActivation 48 = .ok (.iconst 3, 1) := by decide +kernel
theorem d_K_tryActivation_49 : decode b_K_tryActivation 49 = .ok (.invokevirtual 334, 3) := by decide +kernel
theorem d_K_tryActivation_52 : decode b_K_tryActivation 52 = .ok (.aload_n 3, 1) := by decide +kernel
theorem d_K_tryActivation_53 : decode b_K_tryActivation 53 = .ok (.ifnonnull 4, 3) := by decide +kernel
theorem d_K_tryActivation_56 : decode b_K_tryActivation 56 = .ok (.return_, 1) := by decide +kernel
theorem d_K_tryActivation_57 : decode b_K_tryActivation 57 = .ok (.iconst 0, 1) := by decide +kernel
theorem d_K_tryActivation_58 : decode b_K_tryActivation 58 = .ok (.istore 4, 2) := by decide +kernel
theorem d_K_tryActivation_60 : decode b_K_tryActivation 60 = .ok (.iload 4, 2) := by decide +kernel
theorem d_K_tryActivation_62 : decode b_K_tryActivation 62 = .ok (.bipush 8, 2) := by decide +kernel
theorem d_K_tryActivation_64 : decode b_K_tryActivation 64 = .ok (.if_icmp .ge 30, 3) := by decide +kernel
theorem d_K_tryActivation_67 : decode b_K_tryActivation 67 = .ok (.aload_n 0, 1) := by decide +kernel
theorem d_K_tryActivation_68 : decode b_K_tryActivation 68 = .ok (.getfield 43, 3) := by decide +kernel
theorem d_K_tryActivation_71 : decode b_K_tryActivation 71 = .ok (.iload 4, 2) := by decide +kernel
theorem d_K_tryActivation_73 : decode b_K_tryActivation 73 = .ok (.aaload, 1) := by decide +kernel
theorem d_K_tryActivation_74 : decode b_K_tryActivation 74 = .ok (.getfield 173, 3) := by decide +kernel
theorem d_K_tryActivation_77 : decode b_K_tryActivation 77 = .ok (.aload_n 3, 1) := by decide +kernel
theorem d_K_tryActivation_78 : decode b_K_tryActivation 78 = .ok (.if_acmp .ne 10, 3) := by decide +kernel
theorem d_K_tryActivation_81 : decode b_K_tryActivation 81 = .ok (.aload_n 0, 1) := by decide +kernel
theorem d_K_tryActivation_82 : decode b_K_tryActivation 82 = .ok (.iload 4, 2) := by decide +kernel
theorem d_K_tryActivation_84 : decode b_K_tryActivation 84 = .ok (.aload_n 2, 1) := by decide +kernel
theorem d_K_tryActivation_85 : decode b_K_tryActivation 85 = .ok (.invokevirtual 192, 3) := by decide +kernel
theorem d_K_tryActivation_88 : decode b_K_tryActivation 88 = .ok (.iinc 4 1, 3) := by decide +kernel
theorem d_K_tryActivation_91 : decode b_K_tryActivation 91 = .ok (.goto (-31), 3) := by decide +kernel
theorem d_K_tryActivation_94 : decode b_K_tryActivation 94 = .ok (.return_, 1) := by decide +kernel
end
section
theorem d_K_tryClearing_0 : decode b_K_tryClearing 0 = .ok (.aload_n 1, 1) := by decide +kernel
theorem d_K_tryClearing_1 : decode b_K_tryClearing 1 = .ok (.getfield 236, 3) := by decide +kernel
theorem d_K_tryClearing_4 : decode b_K_tryClearing 4 = .ok (.ifCond .eq 21, 3) := by decide +kernel
theorem d_K_tryClearing_7 : decode b_K_tryClearing 7 = .ok (.aload_n 1, 1) := by decide +kernel
theorem d_K_tryClearing_8 : decode b_K_tryClearing 8 = .ok (.getfield 199, 3) := by decide +kernel
theorem d_K_tryClearing_11 : decode b_K_tryClearing 11 = .ok (.ifnonnull 14, 3) := by decide +kernel
theorem d_K_tryClearing_14 : decode b_K_tryClearing 14 = .ok (.aload_n 0, 1) := by decide +kernel
theorem d_K_tryClearing_15 : decode b_K_tryClearing 15 = .ok (.aload_n 1, 1) := by decide +kernel
theorem d_K_tryClearing_16 : decode b_K_tryClearing 16 = .ok (.getfield 169, 3) := by decide +kernel
theorem d_K_tryClearing_19 : decode b_K_tryClearing 19 = .ok (.invokevirtual 251, 3) := by decide +kernel
theorem d_K_tryClearing_22 : decode b_K_tryClearing 22 = .ok (.ifCond .le 5, 3) := by decide +kernel
theorem d_K_tryClearing_25 : decode b_K_tryClearing 25 = .ok (.iconst 0, 1) := by decide +kernel
theorem d_K_tryClearing_26 : decode b_K_tryClearing 26 = .ok (.ireturn, 1) := by decide +kernel
theorem d_K_tryClearing_27 : decode b_K_tryClearing 27 = .ok (.aload_n 0, 1) := by decide +kernel
theorem d_K_tryClearing_28 : decode b_K_tryClearing 28 = .ok (.aload_n 1, 1) := by decide +kernel
theorem d_K_tryClearing_29 : decode b_K_tryClearing 29 = .ok (.getfield 196, 3) := by decide +kernel
theorem d_K_tryClearing_32 : decode b_K_tryClearing 32 = .ok (.iconst 4, 1) := by decide +kernel
theorem d_K_tryClearing_33 : decode b_K_tryClearing 33 = .ok (.invokevirtual 334, 3) := by decide +kernel
theorem d_K_tryClearing_36 : decode b_K_tryClearing 36 = .ok (.aload_n 0, 1) := by decide +kernel
theorem d_K_tryClearing_37 : decode b_K_tryClearing 37 = .ok (.aload_n 1, 1) := by decide +kernel
theorem d_K_tryClearing_38 : decode b_K_tryClearing 38 = .ok (.getfield 169, 3) := by decide +kernel
theorem d_K_tryClearing_41 : decode b_K_tryClearing 41 = .ok (.iconst 4, 1) := by decide +kernel
theorem d_K_tryClearing_42 : decode b_K_tryClearing 42 = .ok (.invokevirtual 334, 3) := by decide +kernel
theorem d_K_tryClearing_45 : decode b_K_tryClearing 45 = .ok (.aload_n 0, 1) := by decide +kernel
theorem d_K_tryClearing_46 : decode b_K_tryClearing 46 = .ok (.aload_n 1, 1) := by decide +kernel
theorem d_K_tryClearing_47 : decode b_K_tryClearing 47 = .ok (.invokevirtual 339, 3) := by decide +kernel
theorem d_K_tryClearing_50 : decode b_K_tryClearing 50 = .ok (.iconst 1, 1) := by decide +kernel
theorem d_K_tryClearing_51 : decode b_K_tryClearing 51 = .ok (.ireturn, 1) := by decide +kernel
theorem d_K_settleAfterLoss_0 : decode b_K_settleAfterLoss 0 = .ok (.aload_n 0, 1) := by decide +kernel
theorem d_K_settleAfterLoss_1 : decode b_K_settleAfterLoss 1 = .ok (.aload_n 1, 1) := by decide +kernel
theorem d_K_settleAfterLoss_2 : decode b_K_settleAfterLoss 2 = .ok (.invokevirtual 342, 3) := by decide +kernel
theorem d_K_settleAfterLoss_5 : decode b_K_settleAfterLoss 5 = .ok (.astore_n 2, 1) := by decide +kernel
theorem d_K_settleAfterLoss_6 : decode b_K_settleAfterLoss 6 = .ok (.aload_n 2, 1) := by decide +kernel
theorem d_K_settleAfterLoss_7 : decode b_K_settleAfterLoss 7 = .ok (.ifnull 16, 3) := by decide +kernel
theorem d_K_settleAfterLoss_10 : decode b_K_settleAfterLoss 10 = .ok (.aload_n 0, 1) := by decide +kernel
theorem d_K_settleAfterLoss_11 : decode b_K_settleAfterLoss 11 = .ok (.aload_n 2, 1) := by decide +kernel
theorem d_K_settleAfterLoss_12 : decode b_K_settleAfterLoss 12 = .ok (.invokevirtual 324, 3) := by decide +kernel
theorem d_K_settleAfterLoss_15 : decode b_K_settleAfterLoss 15 = .ok (.ifCond .ne 8, 3) := by decide +kernel
theorem d_K_settleAfterLoss_18 : decode b_K_settleAfterLoss 18 = .ok (.aload_n 0, 1) := by decide +kernel
theorem d_K_settleAfterLoss_19 : decode b_K_settleAfterLoss 19 = .ok (.aload_n 2, 1) := by decide +kernel
theorem d_K_settleAfterLoss_20 : decode b_K_settleAfterLoss 20 = .ok (.invokevirtual 207, 3) := by decide +kernel
theorem d_K_settleAfterLoss_23 : decode b_K_settleAfterLoss 23 = .ok (.return_, 1) := by decide +kernel
theorem d_K_numberOf_0 : decode b_K_numberOf 0 = .ok (.aload_n 0, 1) := by decide +kernel
theorem d_K_numberOf_1 : decode b_K_numberOf 1 = .ok (.ifnonnull 7, 3) := by decide +kernel
theorem d_K_numberOf_4 : decode b_K_numberOf 4 = .ok (.iconst 0, 1) := by decide +kernel
theorem d_K_numberOf_5 : decode b_K_numberOf 5 = .ok (.goto 7, 3) := by decide +kernel
theorem d_K_numberOf_8 : decode b_K_numberOf 8 = .ok (.aload_n 0, 1) := by decide +kernel
theorem d_K_numberOf_9 : decode b_K_numberOf 9 = .ok (.getfield 211, 3) := by decide +kernel
theorem d_K_numberOf_12 : decode b_K_numberOf 12 = .ok (.ireturn, 1) := by decide +kernel
theorem d_K_bring_0 : decode b_K_bring 0 = .ok (.aload_n 1, 1) := by decide +kernel
theorem d_K_bring_1 : decode b_K_bring 1 = .ok (.ifnull 20, 3) := by decide +kernel
theorem d_K_bring_4 : decode b_K_bring 4 = .ok (.aload_n 1, 1) := by decide +kernel
theorem d_K_bring_5 : decode b_K_bring 5 = .ok (.iload_n 2, 1) := by decide +kernel
theorem d_K_bring_6 : decode b_K_bring 6 = .ok (.putfield 248, 3) := by decide +kernel
theorem d_K_bring_9 : decode b_K_bring 9 = .ok (.aload_n 0, 1) := by decide +kernel
theorem d_K_bring_10 : decode b_K_bring 10 = .ok (.getfield 62, 3) := by decide +kernel
theorem d_K_bring_13 : decode b_K_bring 13 = .ok (.aload_n 1, 1) := by decide +kernel
theorem d_K_bring_14 : decode b_K_bring 14 = .ok (.getfield 211, 3) := by decide +kernel
theorem d_K_bring_17 : decode b_K_bring 17 = .ok (.iload_n 2, 1) := by decide +kernel
theorem d_K_bring_18 : decode b_K_bring 18 = .ok (.invokevirtual 346, 3) := by decide +kernel
theorem d_K_bring_21 : decode b_K_bring 21 = .ok (.return_, 1) := by decide +kernel
theorem d_K_control_0 : decode b_K_control 0 = .ok (.aload_n 0, 1) := by decide +kernel
theorem d_K_control_1 : decode b_K_control 1 = .ok (.getfield 43, 3) := by decide +kernel
theorem d_K_control_4 : decode b_K_control 4 = .ok (.iload_n 1, 1) := by decide +kernel
theorem d_K_control_5 : decode b_K_control 5 = .ok (.aaload, 1) := by decide +kernel
theorem d_K_control_6 : decode b_K_control 6 = .ok (.aload_n 2, 1) := by decide +kernel
theorem d_K_control_7 : decode b_K_control 7 = .ok (.putfield 173, 3) := by decide +kernel
theorem d_K_control_10 : decode b_K_control 10 = .ok (.aload_n 0, 1) := by decide +kernel
theorem d_K_control_11 : decode b_K_control 11 = .ok (.getfield 62, 3) := by decide +kernel
theorem d_K_control_14 : decode b_K_control 14 = .ok (.iload_n 1, 1) := by decide +kernel
theorem d_K_control_15 : decode b_K_control 15 = .ok (.aload_n 2, 1) := by decide +kernel
theorem d_K_control_16 : decode b_K_control 16 = .ok (.invokestatic 183, 3) := by decide +kernel
theorem d_K_control_19 : decode b_K_control 19 = .ok (.invokevirtual 349, 3) := by decide +kernel
theorem d_K_control_22 : decode b_K_control 22 = .ok (.return_, 1) := by decide +kernel
theorem d_K_controlledBy_0 : decode b_K_controlledBy 0 = .ok (.iconst 0, 1) := by decide +kernel
theorem d_K_controlledBy_1 : decode b_K_controlledBy 1 = .ok (.istore_n 2, 1) := by decide +kernel
theorem d_K_controlledBy_2 : decode b_K_controlledBy 2 = .ok (.iconst 0, 1) := by decide +kernel
theorem d_K_controlledBy_3 : decode b_K_controlledBy 3 = .ok (.istore_n 3, 1) := by decide +kernel
theorem d_K_controlledBy_4 : decode b_K_controlledBy 4 = .ok (.iload_n 3, 1) := by decide +kernel
theorem d_K_controlledBy_5 : decode b_K_controlledBy 5 = .ok (.bipush 8, 2) := by decide +kernel
theorem d_K_controlledBy_7 : decode b_K_controlledBy 7 = .ok (.if_icmp .ge 29, 3) := by decide +kernel
theorem d_K_controlledBy_10 : decode b_K_controlledBy 10 = .ok (.aload_n 1, 1) := by decide +kernel
theorem d_K_controlledBy_11 : decode b_K_controlledBy 11 = .ok (.ifnull 19, 3) := by decide +kernel
theorem d_K_controlledBy_14 : decode b_K_controlledBy 14 = .ok (.aload_n 0, 1) := by decide +kernel
theorem d_K_controlledBy_15 : decode b_K_controlledBy 15 = .ok (.getfield 43, 3) := by decide +kernel
theorem d_K_controlledBy_18 : decode b_K_controlledBy 18 = .ok (.iload_n 3, 1) := by decide +kernel
theorem d_K_controlledBy_19 : decode b_K_controlledBy 19 = .ok (.aaload, 1) := by decide +kernel
theorem d_K_controlledBy_20 : decode b_K_controlledBy 20 = .ok (.getfield 173, 3) := by decide +kernel
theorem d_K_controlledBy_23 : decode b_K_controlledBy 23 = .ok (.aload_n 1, 1) := by decide +kernel
theorem d_K_controlledBy_24 : decode b_K_controlledBy 24 = .ok (.if_acmp .ne 6, 3) := by decide +kernel
theorem d_K_controlledBy_27 : decode b_K_controlledBy 27 = .ok (.iinc 2 1, 3) := by decide +kernel
theorem d_K_controlledBy_30 : decode b_K_controlledBy 30 = .ok (.iinc 3 1, 3) := by decide +kernel
theorem d_K_controlledBy_33 : decode b_K_controlledBy 33 = .ok (.goto (-29), 3) := by decide +kernel
theorem d_K_controlledBy_36 : decode b_K_controlledBy 36 = .ok (.iload_n 2, 1) := by decide +kernel
theorem d_K_controlledBy_37 : decode b_K_controlledBy 37 = .ok (.ireturn, 1) := by decide +kernel
theorem d_K_clientsThere_0 : decode b_K_clientsThere 0 = .ok (.iconst 0, 1) := by decide +kernel
theorem d_K_clientsThere_1 : decode b_K_clientsThere 1 = .ok (.istore_n 1, 1) := by decide +kernel
theorem d_K_clientsThere_2 : decode b_K_clientsThere 2 = .ok (.iconst 0, 1) := by decide +kernel
theorem d_K_clientsThere_3 : decode b_K_clientsThere 3 = .ok (.istore_n 2, 1) := by decide +kernel
theorem d_K_clientsThere_4 : decode b_K_clientsThere 4 = .ok (.iload_n 2, 1) := by decide +kernel
theorem d_K_clientsThere_5 : decode b_K_clientsThere 5 = .ok (.bipush 8, 2) := by decide +kernel
theorem d_K_clientsThere_7 : decode b_K_clientsThere 7 = .ok (.if_icmp .ge 24, 3) := by decide +kernel
theorem d_K_clientsThere_10 : decode b_K_clientsThere 10 = .ok (.aload_n 0, 1) := by decide +kernel
theorem d_K_clientsThere_11 : decode b_K_clientsThere 11 = .ok (.getfield 43, 3) := by decide +kernel
theorem d_K_clientsThere_14 : decode b_K_clientsThere 14 = .ok (.iload_n 2, 1) := by decide +kernel
theorem d_K_clientsThere_15 : decode b_K_clientsThere 15 = .ok (.aaload, 1) := by decide +kernel
theorem d_K_clientsThere_16 : decode b_K_clientsThere 16 = .ok (.getfield 163, 3) := by decide +kernel
theorem d_K_clientsThere_19 : decode b_K_clientsThere 19 = .ok (.ifCond .eq 6, 3) := by decide +kernel
theorem d_K_clientsThere_22 : decode b_K_clientsThere 22 = .ok (.iinc 1 1, 3) := by decide +kernel
theorem d_K_clientsThere_25 : decode b_K_clientsThere 25 = .ok (.iinc 2 1, 3) := by decide +kernel
theorem d_K_clientsThere_28 : decode b_K_clientsThere 28 = .ok (.goto (-24), 3) := by decide +kernel
theorem d_K_clientsThere_31 : decode b_K_clientsThere 31 = .ok (.iload_n 1, 1) := by decide +kernel
theorem d_K_clientsThere_32 : decode b_K_clientsThere 32 = .ok (.ireturn, 1) := by decide +kernel
theorem d_K_leastFreeClient_0 : decode b_K_leastFreeClient 0 = .ok (.iconst 0, 1) := by decide +kernel
theorem d_K_leastFreeClient_1 : decode b_K_leastFreeClient 1 = .ok (.istore_n 1, 1) := by decide +kernel
theorem d_K_leastFreeClient_2 : decode b_K_leastFreeClient 2 = .ok (.iload_n 1, 1) := by decide +kernel
theorem d_K_leastFreeClient_3 : decode b_K_leastFreeClient 3 = .ok (.bipush 8, 2) := by decide +kernel
theorem d_K_leastFreeClient_5 : decode b_K_leastFreeClient 5 = .ok (.if_icmp .ge 21, 3) := by decide +kernel
theorem d_K_leastFreeClient_8 : decode b_K_leastFreeClient 8 = .ok (.aload_n 0, 1) := by decide +kernel
theorem d_K_leastFreeClient_9 : decode b_K_leastFreeClient 9 = .ok (.getfield 43, 3) := by decide +kernel
theorem d_K_leastFreeClient_12 : decode b_K_leastFreeClient 12 = .ok (.iload_n 1, 1) := by decide +kernel
theorem d_K_leastFreeClient_13 : decode b_K_leastFreeClient 13 = .ok (.aaload, 1) := by decide +kernel
theorem d_K_leastFreeClient_14 : decode b_K_leastFreeClient 14 = .ok (.getfield 163, 3) := by decide +kernel
theorem d_K_leastFreeClient_17 : decode b_K_leastFreeClient 17 = .ok (.ifCond .eq 9, 3) := by decide +kernel
theorem d_K_leastFreeClient_20 : decode b_K_leastFreeClient 20 = .ok (.iinc 1 1, 3) := by decide +kernel
theorem d_K_leastFreeClient_23 : decode b_K_leastFreeClient 23 = .ok (.goto (-21), 3) := by decide +kernel
theorem d_K_leastFreeClient_26 : decode b_K_leastFreeClient 26 = .ok (.iload_n 1, 1) := by decide +kernel
theorem d_K_leastFreeClient_27 : decode b_K_leastFreeClient 27 = .ok (.ireturn, 1) := by decide +kernel
theorem d_K_registrationOf_0 : decode b_K_registrationOf 0 = .ok (.iconst 0, 1) := by decide +kernel
theorem d_K_registrationOf_1 : decode b_K_registrationOf 1 = .ok (.istore_n 2, 1) := by decide +kernel
theorem d_K_registrationOf_2 : decode b_K_registrationOf 2 = .ok (.iload_n 2, 1) := by decide +kernel
theorem d_K_registrationOf_3 : decode b_K_registrationOf 3 = .ok (.aload_n 0, 1) := by decide +kernel
theorem d_K_registrationOf_4 : decode b_K_registrationOf 4 = .ok (.getfield 38, 3) := by decide +kernel
theorem d_K_registrationOf_7 : decode b_K_registrationOf 7 = .ok (.if_icmp .ge 29, 3) := by decide +kernel
theorem d_K_registrationOf_10 : decode b_K_registrationOf 10 = .ok (.aload_n 0, 1) := by decide +kernel
theorem d_K_registrationOf_11 : decode b_K_registrationOf 11 = .ok (.getfield 34, 3) := by decide +kernel
theorem d_K_registrationOf_14 : decode b_K_registrationOf 14 = .ok (.iload_n 2, 1) := by decide +kernel
theorem d_K_registrationOf_15 : decode b_K_registrationOf 15 = .ok (.aaload, 1) := by decide +kernel
theorem d_K_registrationOf_16 : decode b_K_registrationOf 16 = .ok (.getfield 272, 3) := by decide +kernel
theorem d_K_registrationOf_19 : decode b_K_registrationOf 19 = .ok (.iload_n 1, 1) := by decide +kernel
theorem d_K_registrationOf_20 : decode b_K_registrationOf 20 = .ok (.if_icmp .ne 10, 3) := by decide +kernel
theorem d_K_registrationOf_23 : decode b_K_registrationOf 23 = .ok (.aload_n 0, 1) := by decide +kernel
theorem d_K_registrationOf_24 : decode b_K_registrationOf 24 = .ok (.getfield 34, 3) := by decide +kernel
theorem d_K_registrationOf_27 : decode b_K_registrationOf 27 = .ok (.iload_n 2, 1) := by decide +kernel
theorem d_K_registrationOf_28 : decode b_K_registrationOf 28 = .ok (.aaload, 1) := by decide +kernel
theorem d_K_registrationOf_29 : decode b_K_registrationOf 29 = .ok (.areturn, 1) := by decide +kernel
theorem d_K_registrationOf_30 : decode b_K_registrationOf 30 = .ok (.iinc 2 1, 3) := by decide +kernel
theorem d_K_registrationOf_33 : decode b_K_registrationOf 33 = .ok (.goto (-31), 3) := by decide +kernel
theorem d_K_registrationOf_36 : decode b_K_registrationOf 36 = .ok (.aconst_null, 1) := by decide +kernel
theorem d_K_registrationOf_37 : decode b_K_registrationOf 37 = .ok (.areturn, 1) := by decide +kernel
theorem d_K_registrationFor_0 : decode b_K_registrationFor 0 = .ok (.aconst_null, 1) := by decide +kernel
theorem d_K_registrationFor_1 : decode b_K_registrationFor 1 = .ok (.astore_n 2, 1) := by decide +kernel
theorem d_K_registrationFor_2 : decode b_K_registrationFor 2 = .ok (.iconst 0, 1) := by decide +kernel
theorem d_K_registrationFor_3 : decode b_K_registrationFor 3 = .ok (.istore_n 3, 1) := by decide +kernel
theorem d_K_registrationFor_4 : decode b_K_registrationFor 4 = .ok (.iload_n 3, 1) := by decide +kernel
theorem d_K_registrationFor_5 : decode b_K_registrationFor 5 = .ok (.aload_n 0, 1) := by decide +kernel
theorem d_K_registrationFor_6 : decode b_K_registrationFor 6 = .ok (.getfield 38, 3) := by decide +kernel
theorem d_K_registrationFor_9 : decode b_K_registrationFor 9 = .ok (.if_icmp .ge 76, 3) := by decide +kernel
theorem d_K_registrationFor_12 : decode b_K_registrationFor 12 = .ok (.aload_n 0, 1) := by decide +kernel
theorem d_K_registrationFor_13 : decode b_K_registrationFor 13 = .ok (.getfield 34, 3) := by decide +kernel
theorem d_K_registrationFor_16 : decode b_K_registrationFor 16 = .ok (.iload_n 3, 1) := by decide +kernel
theorem d_K_registrationFor_17 : decode b_K_registrationFor 17 = .ok (.aaload, 1) := by decide +kernel
theorem d_K_registrationFor_18 : decode b_K_registrationFor 18 = .ok (.astore 4, 2) := by decide +kernel
theorem d_K_registrationFor_20 : decode b_K_registrationFor 20 = .ok (.aload 4, 2) := by decide +kernel
theorem d_K_registrationFor_22 : decode b_K_registrationFor 22 = .ok (.getfield 236, 3) := by decide +kernel
theorem d_K_registrationFor_25 : decode b_K_registrationFor 25 = .ok (.ifCond .ne 27, 3) := by decide +kernel
theorem d_K_registrationFor_28 : decode b_K_registrationFor 28 = .ok (.aload 4, 2) := by decide +kernel
theorem d_K_registrationFor_30 : decode b_K_registrationFor 30 = .ok (.getfield 169, 3) := by decide +kernel
theorem d_K_registrationFor_33 : decode b_K_registrationFor 33 = .ok (.ifnull 19, 3) := by decide +kernel
theorem d_K_registrationFor_36 : decode b_K_registrationFor 36 = .ok (.aload 4, 2) := by decide +kernel
theorem d_K_registrationFor_38 : decode b_K_registrationFor 38 = .ok (.getfield 272, 3) := by decide +kernel
theorem d_K_registrationFor_41 : decode b_K_registrationFor 41 = .ok (.iload_n 1, 1) := by decide +kernel
theorem d_K_registrationFor_42 : decode b_K_registrationFor 42 = .ok (.invokestatic 310, 3) := by decide +kernel
theorem d_K_registrationFor_45 : decode b_K_registrationFor 45 = .ok (.ifCond .eq 7, 3) := by decide +kernel
theorem d_K_registrationFor_48 : decode b_K_registrationFor 48 = .ok (.iconst 1, 1) := by decide +kernel
theorem d_K_registrationFor_49 : decode b_K_registrationFor 49 = .ok (.goto 4, 3) := by decide +kernel
theorem d_K_registrationFor_52 : decode b_K_registrationFor 52 = .ok (.iconst 0, 1) := by decide +kernel
theorem d_K_registrationFor_53 : decode b_K_registrationFor 53 = .ok (.istore 5, 2) := by decide +kernel
theorem d_K_registrationFor_55 : decode b_K_registrationFor 55 = .ok (.iload 5, 2) := by decide +kernel
theorem d_K_registrationFor_57 : decode b_K_registrationFor 57 = .ok (.ifCond .eq 22, 3) := by decide +kernel
theorem d_K_registrationFor_60 : decode b_K_registrationFor 60 = .ok (.aload_n 2, 1) := by decide +kernel
theorem d_K_registrationFor_61 : decode b_K_registrationFor 61 = .ok (.ifnull 15, 3) := by decide +kernel
theorem d_K_registrationFor_64 : decode b_K_registrationFor 64 = .ok (.aload 4, 2) := by decide +kernel
theorem d_K_registrationFor_66 : decode b_K_registrationFor 66 = .ok (.getfield 272, 3) := by decide +kernel
theorem d_K_registrationFor_69 : decode b_K_registrationFor 69 = .ok (.aload_n 2, 1) := by decide +kernel
theorem d_K_registrationFor_70 : decode b_K_registrationFor 70 = .ok (.getfield 272, 3) := by decide +kernel
theorem d_K_registrationFor_73 : decode b_K_registrationFor 73 = .ok (.if_icmp .le 6, 3) := by decide +kernel
theorem d_K_registrationFor_76 : decode b_K_registrationFor 76 = .ok (.aload 4, 2) := by decide +kernel
theorem d_K_registrationFor_78 : decode b_K_registrationFor 78 = .ok (.astore_n 2, 1) := by decide +kernel
theorem d_K_registrationFor_79 : decode b_K_registrationFor 79 = .ok (.iinc 3 1, 3) := by decide +kernel
theorem d_K_registrationFor_82 : decode b_K_registrationFor 82 = .ok (.goto (-78), 3) := by decide +kernel
theorem d_K_registrationFor_85 : decode b_K_registrationFor 85 = .ok (.aload_n 2, 1) := by decide +kernel
theorem d_K_registrationFor_86 : decode b_K_registrationFor 86 = .ok (.areturn, 1) := by decide +kernel
theorem d_K_registrationWithActive_0 : decode b_K_registrationWithActive 0 = .ok (.iconst 0, 1) := by decide +kernel
theorem d_K_registrationWithActive_1 : decode b_K_registrationWithActive 1 = .ok (.istore_n 2, 1) := by decide +kernel
theorem d_K_registrationWithActive_2 : decode b_K_registrationWithActive 2 = .ok (.iload_n 2, 1) := by decide +kernel
theorem d_K_registrationWithActive_3 : decode b_K_registrationWithActive 3 = .ok (.aload_n 0, 1) := by decide +kernel
theorem d_K_registrationWithActive_4 : decode b_K_registrationWithActive 4 = .ok (.getfield 38, 3) := by decide +kernel
theorem d_K_registrationWithActive_7 : decode b_K_registrationWithActive 7 = .ok (.if_icmp .ge 33, 3) := by decide +kernel
theorem d_K_registrationWithActive_10 : decode b_K_registrationWithActive 10 = .ok (.aload_n 1, 1) := by decide +kernel
theorem d_K_registrationWithActive_11 : decode b_K_registrationWithActive 11 = .ok (.ifnull 23, 3) := by decide +kernel
theorem d_K_registrationWithActive_14 : decode b_K_registrationWithActive 14 = .ok (.aload_n 0, 1) := by decide +kernel
theorem d_K_registrationWithActive_15 : decode b_K_registrationWithActive 15 = .ok (.getfield 34, 3) := by decide +kernel
theorem d_K_registrationWithActive_18 : decode b_K_registrationWithActive 18 = .ok (.iload_n 2, 1) := by decide +kernel
theorem d_K_registrationWithActive_19 : decode b_K_registrationWithActive 19 = .ok (.aaload, 1) := by decide +kernel
theorem d_K_registrationWithActive_20 : decode b_K_registrationWithActive 20 = .ok (.getfield 169, 3) := by decide +kernel
theorem d_K_registrationWithActive_23 : decode b_K_registrationWithActive 23 = .ok (.aload_n 1, 1) := by decide +kernel
theorem d_K_registrationWithActive_24 : decode b_K_registrationWithActive 24 = .ok (.if_acmp .ne 10, 3) := by decide +kernel
theorem d_K_registrationWithActive_27 : decode b_K_registrationWithActive 27 = .ok (.aload_n 0, 1) := by decide +kernel
theorem d_K_registrationWithActive_28 : decode b_K_registrationWithActive 28 = .ok (.getfield 34, 3) := by decide +kernel
theorem d_K_registrationWithActive_31 : decode b_K_registrationWithActive 31 = .ok (.iload_n 2, 1) := by decide +kernel
theorem d_K_registrationWithActive_32 : decode b_K_registrationWithActive 32 = .ok (.aaload, 1) := by decide +kernel
theorem d_K_registrationWithActive_33 : decode b_K_registrationWithActive 33 = .ok (.areturn, 1) := by decide +kernel
theorem d_K_registrationWithActive_34 : decode b_K_registrationWithActive 34 = .ok (.iinc 2 1, 3) := by decide +kernel
theorem d_K_registrationWithActive_37 : decode b_K_registrationWithActive 37 = .ok (.goto (-35), 3) := by decide +kernel
theorem d_K_registrationWithActive_40 : decode b_K_registrationWithActive 40 = .ok (.aconst_null, 1) := by decide +kernel
theorem d_K_registrationWithActive_41 : decode b_K_registrationWithActive 41 = .ok (.areturn, 1) := by decide +kernel
theorem d_K_addRegistration_0 : decode b_K_addRegistration 0 = .ok (.new 32, 3) := by decide +kernel
theorem d_K_addRegistration_3 : decode b_K_addRegistration 3 = .ok (.dup, 1) := by decide +kernel
theorem d_K_addRegistration_4 : decode b_K_addRegistration 4 = .ok (.iload_n 1, 1) := by decide +kernel
theorem d_K_addRegistration_5 : decode b_K_addRegistration 5 = .ok (.invokespecial 352, 3) := by decide +kernel
theorem d_K_addRegistration_8 : decode b_K_addRegistration 8 = .ok (.astore_n 2, 1) := by decide +kernel
theorem d_K_addRegistration_9 : decode b_K_addRegistration 9 = .ok (.aload_n 0, 1) := by decide +kernel
theorem d_K_addRegistration_10 : decode b_K_addRegistration 10 = .ok (.getfield 34, 3) := by decide +kernel
theorem d_K_addRegistration_13 : decode b_K_addRegistration 13 = .ok (.aload_n 0, 1) := by decide +kernel
theorem d_K_addRegistration_14 : decode b_K_addRegistration 14 = .ok (.getfield 38, 3) := by decide +kernel
theorem d_K_addRegistration_17 : decode b_K_addRegistration 17 = .ok (.aload_n 2, 1) := by decide +kernel
theorem d_K_addRegistration_18 : decode b_K_addRegistration 18 = .ok (.aastore, 1) := by decide +kernel
theorem d_K_addRegistration_19 : decode b_K_addRegistration 19 = .ok (.aload_n 0, 1) := by decide +kernel
theorem d_K_addRegistration_20 : decode b_K_addRegistration 20 = .ok (.dup, 1) := by decide +kernel
theorem d_K_addRegistration_21 : decode b_K_addRegistration 21 = .ok (.getfield 38, 3) := by decide +kernel
theorem d_K_addRegistration_24 : decode b_K_addRegistration 24 = .ok (.iconst 1, 1) := by decide +kernel
theorem d_K_addRegistration_25 : decode b_K_addRegistration 25 = .ok (.iadd, 1) := by decide +kernel
theorem d_K_addRegistration_26 : decode b_K_addRegistration 26 = .ok (.putfield 38, 3) := by decide +kernel
theorem d_K_addRegistration_29 : decode b_K_addRegistration 29 = .ok (.aload_n 2, 1) := by decide +kernel
theorem d_K_addRegistration_30 : decode b_K_addRegistration 30 = .ok (.areturn, 1) := by decide +kernel
theorem d_K_removeRegistration_0 : decode b_K_removeRegistration 0 = .ok (.iconst 0, 1) := by decide +kernel
theorem d_K_removeRegistration_1 : decode b_K_removeRegistration 1 = .ok (.istore_n 2, 1) := by decide +kernel
theorem d_K_removeRegistration_2 : decode b_K_removeRegistration 2 = .ok (.iconst 0, 1) := by decide +kernel
theorem d_K_removeRegistration_3 : decode b_K_removeRegistration 3 = .ok (.istore_n 3, 1) := by decide +kernel
theorem d_K_removeRegistration_4 : decode b_K_removeRegistration 4 = .ok (.iload_n 3, 1) := by decide +kernel
theorem d_K_removeRegistration_5 : decode b_K_removeRegistration 5 = .ok (.aload_n 0, 1) := by decide +kernel
theorem d_K_removeRegistration_6 : decode b_K_removeRegistration 6 = .ok (.getfield 38, 3) := by decide +kernel
theorem d_K_removeRegistration_9 : decode b_K_removeRegistration 9 = .ok (.if_icmp .ge 34, 3) := by decide +kernel
theorem d_K_removeRegistration_12 : decode b_K_removeRegistration 12 = .ok (.aload_n 0, 1) := by decide +kernel
theorem d_K_removeRegistration_13 : decode b_K_removeRegistration 13 = .ok (.getfield 34, 3) := by decide +kernel
theorem d_K_removeRegistration_16 : decode b_K_removeRegistration 16 = .ok (.iload_n 3, 1) := by decide +kernel
theorem d_K_removeRegistration_17 : decode b_K_removeRegistration 17 = .ok (.aaload, 1) := by decide +kernel
theorem d_K_removeRegistration_18 : decode b_K_removeRegistration 18 = .ok (.aload_n 1, 1) := by decide +kernel
theorem d_K_removeRegistration_19 : decode b_K_removeRegistration 19 = .ok (.if_acmp .eq 18, 3) := by decide +kernel
theorem d_K_removeRegistration_22 : decode b_K_removeRegistration 22 = .ok (.aload_n 0, 1) := by decide +kernel
theorem d_K_removeRegistration_23 : decode b_K_removeRegistration 23 = .ok (.getfield 34, 3) := by decide +kernel
theorem d_K_removeRegistration_26 : decode b_K_removeRegistration 26 = .ok (.iload_n 2, 1) := by decide +kernel
theorem d_K_removeRegistration_27 : decode b_K_removeRegistration 27 = .ok (.aload_n 0, 1) := by decide +kernel
theorem d_K_removeRegistration_28 : decode b_K_removeRegistration 28 = .ok (.getfield 34, 3) := by decide +kernel
theorem d_K_removeRegistration_31 : decode b_K_removeRegistration 31 = .ok (.iload_n 3, 1) := by decide +kernel
theorem d_K_removeRegistration_32 : decode b_K_removeRegistration 32 = .ok (.aaload, 1) := by decide +kernel
theorem d_K_removeRegistration_33 : decode b_K_removeRegistration 33 = .ok (.aastore, 1) := by decide +kernel
theorem d_K_removeRegistration_34 : decode b_K_removeRegistration 34 = .ok (.iinc 2 1, 3) := by decide +kernel
theorem d_K_removeRegistration_37 : decode b_K_removeRegistration 37 = .ok (.iinc 3 1, 3) := by decide +kernel
theorem d_K_removeRegistration_40 : decode b_K_removeRegistration 40 = .ok (.goto (-36), 3) := by decide +kernel
theorem d_K_removeRegistration_43 : decode b_K_removeRegistration 43 = .ok (.aload_n 0, 1) := by decide +kernel
theorem d_K_removeRegistration_44 : decode b_K_removeRegistration 44 = .ok (.iload_n 2, 1) := by decide +kernel
theorem d_K_removeRegistration_45 : decode b_K_removeRegistration 45 = .ok (.putfield 38, 3) := by decide +kernel
theorem d_K_removeRegistration_48 : decode b_K_removeRegistration 48 = .ok (.return_, 1) := by decide +kernel
end
section
/-! THROWS: contracts of methods that may throw; at a throw the memory is as it was at the entry -/
def mX (D : va_G) (dA : Nat → ClassId) (base : Nat) (M : mM) (ad : Nat → Nat → Nat) (PX : String → Prop) : String → State → State → Prop := fun E st t => PX E ∧ mRep D dA base M ad t.heap ∧ va_F (fun q => base ≤ q) st t
def mMetX (l : Launch) (y : MethodName) (cc : ByteArray) (maxL : Nat) (ret : Option FieldType) (rm : Room) (mc ms : Nat) (D : va_G) (dA : Nat → ClassId) (base : Nat) (M : mM) (ad : Nat → Nat → Nat) (as : List Value) (P : Option Value → mM → (Nat → Nat → Nat) → Prop) (PX : String → Prop) : Prop :=
  vx_Met l y [.code y cc maxL ret] rm (mPre D dA base M ad as) (mPost D dA base M ad P) (mX D dA base M ad PX) mc ms (fun q => base ≤ q)
theorem m_startX {l : Launch} {y : MethodName} {cc : ByteArray} {maxL : Nat} {ret : Option FieldType} {rm : Room} {mc ms : Nat} {D : va_G} {dA : Nat → ClassId} {base : Nat} {M : mM} {ad : Nat → Nat → Nat} {as : List Value} {P : Option Value → mM → (Nat → Nat → Nat) → Prop} {PX : String → Prop} (hy : plainName y.cls = true) (hlen : (lg_sl as).length ≤ maxL) {lvs : List (Nat × Value)} (hlv : lv_args 0 as = lvs)
    (body : ∀ (p : Program) (e : Env) (s : State) (m : MethodId) (below : List Frame) (meth : Method) (c : Code) (ls : Array Slot), mCx D dA base p s m as.toArray c cc y.cls → meth.sig.returnType = ret → meth.locks = false → meth.name = y.name → c.maxLocals = maxL → mSt D dA base M ad s.heap s.heap [] → lv_has ls maxL lvs → (∀ x ∈ c.exceptionTable.toList, False) →
      W p l e rm s m as.toArray below meth c s.heap [] 0 0 (vx_MQ below (mPost D dA base M ad P) (mX D dA base M ad PX) as.toArray s mc ms (fun q => base ≤ q)) (F0 m 0 ls [])) : mMetX l y cc maxL ret rm mc ms D dA base M ad as P PX := by
  refine vx_ofW (cc := cc) (maxL := maxL) (ret := ret) hy rfl ?_
  intro p e s m args below meth c s₁ B hml hno hv
  obtain ⟨rfl, hwd, hK, hZ, hR, hbs⟩ := hv
  have hl := lv_entry as (n := maxL) hlen
  rw [lg_entry_eq]
  rw [hlv] at hl
  exact body p e s m below meth c _ ⟨B.exec, B.bytes, findClass_of_methodNamed B.named, fun w hw => hwd w hw _, hK, hZ⟩ B.returns B.notSynchronized (name_of_methodNamed B.named B.method).1 hml ⟨hR, va_S.rf, hbs⟩ hl hno
theorem mRep_kept {D : va_G} {dA : Nat → ClassId} {base : Nat} {M : mM} {ad : Nat → Nat → Nat} {H H1 : Heap} (h : mRep D dA base M ad H) (ho : ∀ q : Nat, q < H.size → H1[q]? = H[q]?) : mRep D dA base M ad H1 := ⟨fun k i hi => ⟨(h.1 k i hi).1, (h.1 k i hi).2.kept (ho _ (h.1 k i hi).2.lt)⟩, h.2⟩
def tnm : List String := ["java/lang/RuntimeException", "java/lang/Exception"]
theorem tnm_fit : ∀ n ∈ tnm, Bundle.fit n = true := by decide +kernel
/-- what 'throw new E("text")' needs -/
def tLk (own : String) (ik is ic : Nat) (cls text : String) : Prop := Bundle.fit cls = true ∧ Cond.classLink own ik cls ∈ gw ∧ Cond.initialized cls ∈ gw ∧ (own, is, text) ∈ txs ∧ (∀ w ∈ vx_atS own ic cls tnm, w ∈ gw) ∧ (∀ w ∈ Cond.classLink own ik cls :: Cond.initialized cls :: vx_atS own ic cls tnm, vx_ot w = true)
section MTHR
variable {p : Program} {l : Launch} {e : Env} {R : Room} {s : State} {m : MethodId} {args : Array Value} {below : List Frame} {meth : Method} {c : Code} {H : Heap} {locs : List Loc} {cells slots : Nat} {Q : State → Prop}
variable {cc : ByteArray} {pc : Nat} {ls : Array Slot} {rest : List Value} {D : va_G} {dA : Nat → ClassId} {base : Nat} {M M' : mM} {ad ad' : Nat → Nat → Nat} {own : String} {H0 : Heap} {P : Option Value → mM → (Nat → Nat → Nat) → Prop} {PX : String → Prop} {mc ms : Nat}
theorem x_end {t : State} (hM : mSt D dA base M ad s.heap H locs) (hz : H.size ≤ t.heap.size) (hk : ∀ q : Nat, q < H.size → t.heap[q]? = H[q]?) : mRep D dA base M ad t.heap ∧ va_F (fun q => base ≤ q) s t :=
  ⟨mRep_kept hM.1 hk, Nat.le_trans hM.2.1.1 hz, fun q h1 h2 => (hk q (Nat.lt_of_lt_of_le h1 hM.2.1.1)).trans (hM.2.1.2.1 q h1 h2)⟩
theorem r_throw {nL ik is ic : Nat} {cls text : String} (X : mCx D dA base p s m args c cc own) (hst : l.stackTraces = false) (hml : c.maxLocals = nL) (hsz : ls.size = nL) (hM : mSt D dA base M ad s.heap H locs) (hlk : meth.locks = false) (hno : ∀ x ∈ c.exceptionTable.toList, False) (hk : tLk own ik is ic cls text)
    (d0 : decode cc pc = .ok (.new ik, 3)) (d3 : decode cc (pc + 3) = .ok (.dup, 1)) (d4 : decode cc (pc + 4) = .ok (.ldc is, 2)) (d6 : decode cc (pc + 6) = .ok (.invokespecial ic, 3)) (d9 : decode cc (pc + 9) = .ok (.athrow, 1))
    (hR : 5 < R.frames ∧ (rest.map fun v => v.category).sum + 82 ≤ R.locals ∧ cells + 1 ≤ R.cells ∧ slots + 6 ≤ R.slots) (hcs : cells + 1 ≤ mc ∧ slots + 6 ≤ ms) (hPX : PX cls) :
    W p l e R s m args below meth c H locs cells slots (vx_MQ below (mPost D dA base M ad P) (mX D dA base M ad PX) args s mc ms (fun q => base ≤ q)) (F0 m pc ls rest) := by
  obtain ⟨hx, hb, hown, hts, hK, hZ⟩ := X
  obtain ⟨k1, k2, k3, k4, k5, k6⟩ := hk
  obtain ⟨sa, hstr⟩ := hZ.2.2 _ k4
  exact vx_throwS hx hb hst hown k1 tnm_fit (hts _ k2) (hts _ k3) hstr (fun w hw => hts w (k5 w hw)) k6 hZ.1 hZ.2.1 hM.2.1 (hsz.trans hml.symm) d0 d3 d4 d6 d9 (fun x hx => (hno x hx).elim) hR.1 hR.2.1 hR.2.2.1 hR.2.2.2 hlk (fun t _ h1 h2 => ⟨hPX, x_end hM h1 h2⟩) hM.2.1.2.2 hcs.1 hcs.2
theorem r_throwW {nL ik is ic : Nat} {cls text : String} (X : mCx D dA base p s m args c cc own) (hst : l.stackTraces = false) (hml : c.maxLocals = nL) (hsz : ls.size = nL) (hM : mSt D dA base M ad s.heap H locs) (hlk : meth.locks = false) (hno : ∀ x ∈ c.exceptionTable.toList, False) (hk : tLk own ik is ic cls text)
    (d0 : decode cc pc = .ok (.new ik, 3)) (d3 : decode cc (pc + 3) = .ok (.dup, 1)) (d4 : decode cc (pc + 4) = .ok (.ldc_w is, 3)) (d7 : decode cc (pc + 7) = .ok (.invokespecial ic, 3)) (d10 : decode cc (pc + 10) = .ok (.athrow, 1))
    (hR : 5 < R.frames ∧ (rest.map fun v => v.category).sum + 82 ≤ R.locals ∧ cells + 1 ≤ R.cells ∧ slots + 6 ≤ R.slots) (hcs : cells + 1 ≤ mc ∧ slots + 6 ≤ ms) (hPX : PX cls) :
    W p l e R s m args below meth c H locs cells slots (vx_MQ below (mPost D dA base M ad P) (mX D dA base M ad PX) args s mc ms (fun q => base ≤ q)) (F0 m pc ls rest) := by
  obtain ⟨hx, hb, hown, hts, hK, hZ⟩ := X
  obtain ⟨k1, k2, k3, k4, k5, k6⟩ := hk
  obtain ⟨sa, hstr⟩ := hZ.2.2 _ k4
  exact vx_throwSW hx hb hst hown k1 tnm_fit (hts _ k2) (hts _ k3) hstr (fun w hw => hts w (k5 w hw)) k6 hZ.1 hZ.2.1 hM.2.1 (hsz.trans hml.symm) d0 d3 d4 d7 d10 (fun x hx => (hno x hx).elim) hR.1 hR.2.1 hR.2.2.1 hR.2.2.2 hlk (fun t _ h1 h2 => ⟨hPX, x_end hM h1 h2⟩) hM.2.1.2.2 hcs.1 hcs.2
/-- not caught here -/
theorem m_out {E : String} {ce : Cell} {q : Addr} (hM : mSt D dA base M ad s.heap H locs) (hlk : meth.locks = false) (hno : ∀ x ∈ c.exceptionTable.toList, False) (hPX : PX E) (hcell : H[q]? = some ce) (hv : ce.vm = .none) (hcl : s.vm.findClass E = some ce.cls) (hcs : cells ≤ mc ∧ slots ≤ ms) :
    vx_W p l e R s m args below meth c H locs cells slots (vx_MQ below (mPost D dA base M ad P) (mX D dA base M ad PX) args s mc ms (fun q => base ≤ q)) (F0 m pc ls rest) q :=
  vx_out (fun x hx => (hno x hx).elim) hlk hcell hv hcl (fun t ht _ => ⟨hPX, by rw [ht]; exact hM.1, hM.2.1.F ht⟩) hM.2.1.2.2 hcs.1 hcs.2
theorem r_callX {st0 : List Value} {a : Array Value} (hr : vx_Run p l e R s m args below meth c H locs cells slots mc ms (F0 m pc ls st0) rest (mPost D dA base M ad P a) (mX D dA base M ad PX) (fun q => base ≤ q)) (hM : mSt D dA base M ad H0 H locs)
    (kx : ∀ (E : String) (ce : Cell) (q : Addr) (H1 : Heap) (locs1 : List Loc), PX E → mSt D dA base M ad H0 H1 locs1 → H1[q]? = some ce → ce.vm = .none → s.vm.findClass E = some ce.cls → vx_W p l e R s m args below meth c H1 locs1 (cells + mc) (slots + ms) Q (F0 m pc ls rest) q)
    (kk : ∀ (rv : Option Value) (M' : mM) (ad' : Nat → Nat → Nat) (H1 : Heap) (locs1 : List Loc), P rv M' ad' → mSt D dA base M' ad' H0 H1 locs1 → mExt M ad M' ad' → W p l e R s m args below meth c H1 locs1 (cells + mc) (slots + ms) Q (F0 m (pc + 3) ls (rv.toList ++ rest))) : W p l e R s m args below meth c H locs cells slots Q (F0 m pc ls st0) := by
  intro T hT X
  rcases hr T hT X with ⟨v, st₀, t, T', L, h0, X', hL, e1, e2, ⟨rv, M', ad', hv, hp, hrep, hext, hz, hkeep⟩, st⟩ | ⟨q, st₀, t, T', L, E, ce, h0, X', hL, e1, e2, ⟨hp, hrep, hz, hkeep⟩, hce, hcv, hcl, st⟩
  · cases hv
    rw [h0] at hz hkeep
    obtain ⟨t2, a1, b1⟩ := kk v M' ad' T'.heap (locs ++ L) hp ⟨by rw [e1]; exact hrep, ⟨Nat.le_trans hM.2.1.1 (by rw [e1]; exact hz), fun q h1 h2 => by rw [e1, hkeep q (Nat.lt_of_lt_of_le h1 hM.2.1.1) h2]; exact hM.2.1.2.1 q h1 h2, fun q hq => by
        rcases List.mem_append.mp hq with h | h
        · exact hM.2.1.2.2 q h
        · exact hL q h⟩, hM.2.2⟩ hext T' rfl X'
    exact ⟨t2, st t2 a1, b1⟩
  · rw [h0] at hz hkeep
    obtain ⟨t2, a1, b1⟩ := kx E ce q T'.heap (locs ++ L) hp ⟨by rw [e1]; exact hrep, ⟨Nat.le_trans hM.2.1.1 (by rw [e1]; exact hz), fun q h1 h2 => by rw [e1, hkeep q (Nat.lt_of_lt_of_le h1 hM.2.1.1) h2]; exact hM.2.1.2.1 q h1 h2, fun q hq => by
        rcases List.mem_append.mp hq with h | h
        · exact hM.2.1.2.2 q h
        · exact hL q h⟩, hM.2.2⟩ (by rw [e1]; exact hce) hcv hcl T' rfl X'
    exact ⟨t2, st.trans a1, b1⟩
variable {y : MethodName} {bytes : ByteArray} {maxL nL n idx : Nat} {ret : Option FieldType} {rm : Room} {As : List Value}
theorem r_cVX {k i b : Nat} (X : mCx D dA base p s m args c cc own) (hml : c.maxLocals = nL) (hsz : ls.size = nL) (hM : mSt D dA base M ad s.heap H locs) (hC : mMetX l y bytes maxL ret rm mc ms D dA base M ad (.ref b :: As) P PX) (hk : cLk own idx y bytes maxL ret n) (hl : Cond.methodLink own idx y ∈ gw) (hk2 : Cond.instanceMethod y ∈ gw ∧ Cond.selects y.cls y y ∈ gw) (hkc : kcls k y.cls) (ha : ad k i = b) (hi : i < gn M k) (hn : As.length = n) (hcat : (rest.map fun v => v.category).sum ≤ 8)
    (hroom : rm.cells = mc ∧ rm.slots = ms ∧ rm.frames + 1 ≤ R.frames ∧ 8 + (maxL + 11) + rm.locals ≤ R.locals) (hcs : cells + mc ≤ R.cells ∧ slots + ms ≤ R.slots) (hdg : decode cc pc = .ok (.invokevirtual idx, 3))
    (kx : ∀ (E : String) (ce : Cell) (q : Addr) (H1 : Heap) (locs1 : List Loc), PX E → mSt D dA base M ad s.heap H1 locs1 → H1[q]? = some ce → ce.vm = .none → s.vm.findClass E = some ce.cls → vx_W p l e R s m args below meth c H1 locs1 (cells + mc) (slots + ms) Q (F0 m pc ls rest) q)
    (kk : ∀ (rv : Option Value) (M' : mM) (ad' : Nat → Nat → Nat) (H1 : Heap) (locs1 : List Loc), P rv M' ad' → mSt D dA base M' ad' s.heap H1 locs1 → mExt M ad M' ad' → W p l e R s m args below meth c H1 locs1 (cells + mc) (slots + ms) Q (F0 m (pc + 3) ls (rv.toList ++ rest))) : W p l e R s m args below meth c H locs cells slots Q (F0 m pc ls (As.reverse ++ .ref b :: rest)) := by
  have hts := X.2.2.2.1
  have hpre : PreV s H y.cls b (mPre D dA base M ad (.ref b :: As)) As := ⟨mPre_blind, r_recv X hM hkc ha hi, r_pre X hM _ (X_wd X)⟩
  exact r_callX (vx_runV ⟨X.1, X.2.1, hml, X.2.2.1, hts⟩ hC ⟨cLk_B hk hl hts hroom.1 hroom.2.1 hroom.2.2, hts _ hk2.1, hts _ hk2.2⟩ hpre rfl hn hsz rfl (lv_room hcat) hdg hcs) hM kx kk
theorem r_cSX (X : mCx D dA base p s m args c cc own) (hml : c.maxLocals = nL) (hsz : ls.size = nL) (hM : mSt D dA base M ad s.heap H locs) (hC : mMetX l y bytes maxL ret rm mc ms D dA base M ad As P PX) (hk : cLk own idx y bytes maxL ret n) (hl : Cond.methodLink own idx y ∈ gw) (hk2 : Cond.static y ∈ gw) (hn : As.length = n) (hcat : (rest.map fun v => v.category).sum ≤ 8)
    (hroom : rm.cells = mc ∧ rm.slots = ms ∧ rm.frames + 1 ≤ R.frames ∧ 8 + (maxL + 11) + rm.locals ≤ R.locals) (hcs : cells + mc ≤ R.cells ∧ slots + ms ≤ R.slots) (hdg : decode cc pc = .ok (.invokestatic idx, 3))
    (kx : ∀ (E : String) (ce : Cell) (q : Addr) (H1 : Heap) (locs1 : List Loc), PX E → mSt D dA base M ad s.heap H1 locs1 → H1[q]? = some ce → ce.vm = .none → s.vm.findClass E = some ce.cls → vx_W p l e R s m args below meth c H1 locs1 (cells + mc) (slots + ms) Q (F0 m pc ls rest) q)
    (kk : ∀ (rv : Option Value) (M' : mM) (ad' : Nat → Nat → Nat) (H1 : Heap) (locs1 : List Loc), P rv M' ad' → mSt D dA base M' ad' s.heap H1 locs1 → mExt M ad M' ad' → W p l e R s m args below meth c H1 locs1 (cells + mc) (slots + ms) Q (F0 m (pc + 3) ls (rv.toList ++ rest))) : W p l e R s m args below meth c H locs cells slots Q (F0 m pc ls (As.reverse ++ rest)) := by
  have hts := X.2.2.2.1
  have hpre : PreS s H (mPre D dA base M ad As) As := ⟨mPre_blind, r_pre X hM _ (X_wd X)⟩
  exact r_callX (vx_runS ⟨X.1, X.2.1, hml, X.2.2.1, hts⟩ hC ⟨cLk_B hk hl hts hroom.1 hroom.2.1 hroom.2.2, hts _ hk2⟩ hpre rfl hn hsz rfl (lv_room hcat) hdg hcs) hM kx kk
end MTHR
end
section
/-! 'throw new NoSuchElementException("text")': its constructor passes the text on by the pool's entry 13, where the kit's own rows know entry 7 alone: the library's law of a chain (Stand.ctorMessageOffV) for this chain -/
abbrev nsE : String := "java/util/NoSuchElementException"
abbrev nsB : ByteArray := prog_19_method_4_code
def nx_own (own : String) (ic : Nat) : List Cond :=
  Bundle.throwableAtoms ++ Bundle.throwableSAtoms ++ (Bundle.passSAtoms nsE "java/lang/RuntimeException" 13 nsB ++ Bundle.chainSAtoms "java/lang/RuntimeException" ["java/lang/Exception"]) ++
  [.methodLink own ic (Bundle.initS nsE), .instantiable nsE 6, .castable nsE nsE, .selects nsE Bundle.tFill0 Bundle.tFill0, .selects nsE Bundle.tFill Bundle.tFill,
   .lays nsE Bundle.tN "cause" "Ljava/lang/Throwable;", .lays nsE Bundle.tN "stackTrace" Bundle.steD, .lays nsE Bundle.tN "suppressedExceptions" Bundle.listD, .lays nsE Bundle.tN "detailMessage" "Ljava/lang/String;",
   .isRef (.static Bundle.tN "UNASSIGNED_STACK" Bundle.steD), .isRef (.static Bundle.tN "SUPPRESSED_SENTINEL" Bundle.listD),
   .fieldLink Bundle.tN 198 Bundle.tN "backtrace" "Ljava/lang/Object;", .lays Bundle.tN Bundle.tN "backtrace" "Ljava/lang/Object;", .lays nsE Bundle.tN "backtrace" "Ljava/lang/Object;"]
def nx_at (own : String) (ic : Nat) : List Cond := (nx_own own ic).filter vx_no
theorem nx_d0 : decode nsB 0 = .ok (.aload_n 0, 1) := by decide +kernel
theorem nx_d1 : decode nsB 1 = .ok (.aload_n 1, 1) := by decide +kernel
theorem nx_d2 : decode nsB 2 = .ok (.invokespecial 13, 3) := by decide +kernel
theorem nx_d5 : decode nsB 5 = .ok (.return_, 1) := by decide +kernel
section NSX
variable {p : Program} {l : Launch} {e : Env} {R : Room} {s : State} {m₀ : MethodId} {args : Array Value} {below : List Frame} {meth : Method} {c : Code} {W9 : State} {locs : List Loc} {cells slots : Nat}
set_option maxHeartbeats 4000000 in
theorem nx_ctor (X : Stand p l e R s m₀ args below meth c W9 locs cells slots) (hexec : p.tables.exec = Jvm.exec) (htr : e.platform.stackTraces = false) {own : String} {ic : Nat}
    (hown : s.vm.findClass own = some m₀.cls) (h : ∀ a ∈ nx_own own ic, a.before args s = true)
    (hlocs : ∀ x ∈ locs, ∀ cell, s.heap[x.base]? = some cell → cell.vm.isStatics = false)
    {a : Addr} {cX : ClassId} {kX : Class} (hfoundX : s.vm.findClass nsE = some cX) (hkX : s.vm.classes[cX]? = some kX) (hcell : W9.heap[a]? = some (freshCell cX kX)) (hnew : s.heap.size ≤ a)
    {msg : Value} (hmsg : msg.isRef = true)
    {g : JFrame} (hg : g.method = m₀) (hsize : g.locals.size = c.maxLocals) (hlocked : g.locked = none) (hentered : g.entered = []) {rest : List Value} (hstack : g.stack = msg :: .ref a :: .ref a :: rest)
    (hd6 : decode c.code g.pc = .ok (.invokespecial ic, 3)) (hd9 : decode c.code (g.pc + 3) = .ok (.athrow, 1)) (hout : ∀ x ∈ c.exceptionTable.toList, covers x (g.pc + 3) = false)
    (hRframes : 5 < R.frames) (hRlocals : 2 * g.monitorRoom + ((Value.ref a :: rest).map fun v => v.category).sum + 81 ≤ R.locals) (hlocks : meth.locks = false) :
    ∃ U : State, Steps p.tables e below (W9.setTop g) U ∧ U.status = .running ∧ Ended U below (.threw a) ∧ s.WarmedH U.vm ∧ s.sameButNew ({ U with vm := s.vm } : State) locs cells slots ∧
      ∃ ce, U.heap[a]? = some ce ∧ s.vm.findClass nsE = some ce.cls ∧ ce.vm = .none := by
  have howns : e.platform.frameOwnsMonitors = true := by rw [X.admits.platform]
  have hfin : e.platform.finalization = false := by rw [X.admits.platform]
  have hpl : e.platform.magicAccessors = ({} : Platform).magicAccessors := by rw [X.admits.platform]
  have a' : ∀ x, x ∈ nx_own own ic → x.holds args s none s [] = true := fun x hx => h x hx
  obtain ⟨T, Z0, L, -, Y⟩ := ThrowableC.of_atoms (args := args) howns hfin hpl (fun x hx => h x (by simp [nx_own, hx]))
  obtain ⟨Z, M, LZ, LM, hnZ⟩ := Init0T.ofS_atoms (args := args) hpl L Y (fun x hx => h x (by simp [nx_own, hx]))
  obtain ⟨P1, L1, hP1m, hP1s⟩ := PassC.ofS_atoms (args := args) (s := s) hpl (X := nsE) (Y := "java/lang/RuntimeException") (index := 13) (bytes := nsB) (by decide) (by decide) nx_d0 nx_d1 nx_d2 nx_d5 (fun x hx => h x (by simp only [nx_own, List.mem_append]; exact Or.inl (Or.inr (Or.inl hx))))
  obtain ⟨P2, Ps2, hlen, L2, hL2, hP2m, hlink2, hlink3⟩ := Bundle.chainS (args := args) hpl hnZ ["java/lang/Exception"] "java/lang/RuntimeException" (by decide +kernel) (by decide +kernel) (fun x hx => h x (by simp only [nx_own, List.mem_append]; exact Or.inl (Or.inr (Or.inr hx))))
  have hlink1 : P1.sup = P2.m := Option.some.inj (hP1s.symm.trans hP2m)
  have hfound : s.vm.findClass nsE = some P1.m.cls := findClass_of_methodNamed hP1m
  cases Option.some.inj (hfoundX.symm.trans hfound)
  obtain ⟨c1, kX', hc1, hk, hord, -, -, hn6⟩ := Cond.instantiable_spec (a' (.instantiable nsE 6) (by simp [nx_own]))
  cases Option.some.inj (hc1.symm.trans hfound)
  cases Option.some.inj (hkX.symm.trans hk)
  have hsel0 : selectMethod e.platform s.vm P1.m.cls T.fill0 = .method T.fill0 := by
    obtain ⟨c2, r2, m2, q1, q2, q3, q4, -⟩ := Cond.selects_spec (a' (.selects nsE Bundle.tFill0 Bundle.tFill0) (by simp [nx_own]))
    cases Option.some.inj (q1.symm.trans hfound)
    cases Option.some.inj (q2.symm.trans (State.methodFound?_of_named Y.fill0 (by decide)))
    cases Option.some.inj (q3.symm.trans Y.fill0)
    rw [Launch.admits_selectMethod X.admits]; exact q4
  have hselF : selectMethod e.platform s.vm P1.m.cls T.fill = .method T.fill := by
    obtain ⟨c2, r2, m2, q1, q2, q3, q4, -⟩ := Cond.selects_spec (a' (.selects nsE Bundle.tFill Bundle.tFill) (by simp [nx_own]))
    cases Option.some.inj (q1.symm.trans hfound)
    cases Option.some.inj (q2.symm.trans (State.methodFound?_of_named Y.fill (by decide)))
    cases Option.some.inj (q3.symm.trans Y.fill)
    rw [Launch.admits_selectMethod X.admits]; exact q4
  obtain ⟨cellS0, hcS0, hiss⟩ := Y.statics
  obtain ⟨u0, hu0⟩ := Cond.staticRefV Y.unassigned L.unassignedStatic L.statics hcS0 hiss (a' (.isRef (.static Bundle.tN "UNASSIGNED_STACK" Bundle.steD)) (by simp [nx_own]))
  obtain ⟨sen, hsen⟩ := Cond.staticRefV Y.sentinel L.sentinelStatic L.statics hcS0 hiss (a' (.isRef (.static Bundle.tN "SUPPRESSED_SENTINEL" Bundle.listD)) (by simp [nx_own]))
  obtain ⟨ci198, i198, fB, hk198, hg198, ha198, hsB, -, hnB, htB, hffB⟩ := Cond.ownField (t := .object "java/lang/Object") Y.found L.cls (by decide +kernel) (a' (.fieldLink Bundle.tN 198 Bundle.tN "backtrace" "Ljava/lang/Object;") (by simp [nx_own])) (a' (.lays Bundle.tN Bundle.tN "backtrace" "Ljava/lang/Object;") (by simp [nx_own])) e.platform hpl
  obtain ⟨cellS, hcS', heS, -, hkeep⟩ := X.same.2.2.2.2.2 T.aS cellS0 hcS0
  have hcellS : W9.heap[T.aS]? = some cellS := hcS'
  have hout' : ∀ i, (⟨T.aS, i⟩ : Loc) ∉ locs := fun i hmem => by
    have := hlocs _ hmem cellS0 hcS0
    rw [hiss] at this; cases this
  have hknownS : cellS.vm ≠ .unknown := by
    rw [heS]; intro hu
    rw [show cellS0.vm = .unknown from hu] at hiss
    cases hiss
  have hneS : T.aS ≠ a := Nat.ne_of_lt (Nat.lt_of_lt_of_le (Array.getElem?_eq_some_iff.mp hcS0).1 hnew)
  obtain ⟨iM, hffM⟩ := Y.msg
  obtain ⟨tyC, dC, hdC, hdnC⟩ := Cond.laysAt hfound hk Y.cause (a' (.lays nsE Bundle.tN "cause" "Ljava/lang/Throwable;") (by simp [nx_own]))
  obtain ⟨tyS, dS, hdS, hdnS⟩ := Cond.laysAt hfound hk Y.stack (a' (.lays nsE Bundle.tN "stackTrace" Bundle.steD) (by simp [nx_own]))
  obtain ⟨tyP, dP, hdP, hdnP⟩ := Cond.laysAt hfound hk Y.supp (a' (.lays nsE Bundle.tN "suppressedExceptions" Bundle.listD) (by simp [nx_own]))
  obtain ⟨tyM, dM, hdM, hdnM⟩ := Cond.laysAt hfound hk hffM (a' (.lays nsE Bundle.tN "detailMessage" "Ljava/lang/String;") (by simp [nx_own]))
  obtain ⟨tyB, dB, hdB, hdnB⟩ := Cond.laysAt hfound hk hffB (a' (.lays nsE Bundle.tN "backtrace" "Ljava/lang/Object;") (by simp [nx_own]))
  have bC := Cond.laysApart hdB hdC hdnB hdnC (by rw [hnB, Y.causeName]; decide)
  have bS := Cond.laysApart hdB hdS hdnB hdnS (by rw [hnB, Y.stackName]; decide)
  have bP := Cond.laysApart hdB hdP hdnB hdnP (by rw [hnB, Y.suppName]; decide)
  have hskip : SkipFacts T e.platform s (fun u => u) u0 ((preparedCellV T.toThrowableT (freshCell P1.m.cls kX) a u0 sen).withEntry W9.cur) :=
    ⟨{ ci198 := ci198, i198 := i198, fBack := fB }, ⟨hk198, hg198, ha198, hsB⟩, by
      have := fresh_default (c := P1.m.cls) tyB
      rw [htB] at this
      simpa [preparedCellV, Cell.setSlot, Cell.withEntry, Array.getElem?_setIfInBounds, bC, bS, bP, bC.symm, bS.symm, bP.symm, defaultValue] using this, fun _ _ => rfl⟩
  obtain ⟨tm, methC, cdC, kC, vm₁, hnC, -, -, -, -, -, -, -, hW₁, st1⟩ := Steps.initColdS (tb := p.tables) (e := e) (below := below) (s := s) (U := W9) X.here hexec X.warmed hpl hown (t := Bundle.initS nsE) rfl rfl (by decide)
    (a' (.methodLink own ic (Bundle.initS nsE)) (by simp [nx_own])) (h (.instanceMethod (Bundle.initS nsE)) (by simp [nx_own, Bundle.passSAtoms])) (bytes := nsB) (maxL := 2) (h (.code (Bundle.initS nsE) nsB 2 none) (by simp [nx_own, Bundle.passSAtoms]))
    (f := g) hg (a := a) (msg := msg) (rest := .ref a :: rest) hstack hd6
  cases Option.some.inj (hnC.symm.trans hP1m)
  have X₁ := X.noted hW₁
  obtain ⟨vm₂, X₂, st2⟩ := X₁.ctorMessageOffV hexec (g := { g with stack := .ref a :: rest }) hg hsize T L Z LZ M LM (P1 :: P2 :: Ps2)
    (fun P hP => by rcases List.mem_cons.mp hP with rfl | hP; exact L1; rcases List.mem_cons.mp hP with rfl | hP; exact L2; exact hL2 P hP) ⟨hlink1, hlink2, hlink3⟩ (u0 := u0) (sen := sen) (self := a) hmsg (cell := freshCell P1.m.cls kX) (cellS := cellS)
    hcell (fun _ => by simp) (by simp) rfl rfl hsel0 hselF hcellS hneS hknownS (by rw [hkeep _ (hout' _)]; exact hu0) (by rw [hkeep _ (hout' _)]; exact hsen)
    (Takes.of_laid hk hord tyC (by rw [Y.causeType]; rfl)) (Takes.of_laid hk hord tyS (by rw [Y.stackType]; exact fits_refV_array _ u0)) (Takes.of_laid hk hord tyP (by rw [Y.suppType]; exact fits_refV_object _ sen))
    (Takes.of_laid hk hord tyM (by rw [Y.msgType]; exact fits_refV_object _ ⟨msg, hmsg⟩)) Y.objLocals hskip htr [] hd6
    (by simp only [List.length_cons, hlen, List.length_nil]; omega) (by simp only [List.length_cons, hlen, List.length_nil]; exact hRlocals)
  obtain ⟨hwalk, hrun, hended, hWU, hsame⟩ := X₂.athrowLeaves hexec (g := { g with stack := .ref a :: rest, pc := g.pc + 3 }) hg hlocked hentered hout (a := a) (rest := rest) rfl hd9 hlocks
  have hlt : a < ((W9.setVm vm₁).setVm vm₂).heap.size := (Array.getElem?_eq_some_iff.mp hcell).1
  have hU := heapAt_setCell_self (s := (W9.setVm vm₁).setVm vm₂) (plainBareV T.toThrowableT (freshCell P1.m.cls kX) a u0 sen msg) hlt
  refine ⟨_, st1 _ (fun acts => ?_), hrun, hended, hWU, hsame.weaken (fun y hy hlt' => ?_) (Nat.le_refl _) (Nat.le_refl _), _, hU, hfound, rfl⟩
  · rw [doInvoke_state]
    exact st2 _ hwalk
  · rcases List.mem_append.mp hy with h1 | h1
    · exact h1
    · exfalso
      have hb : y.base = a := by
        simp only [List.mem_cons, List.not_mem_nil, or_false] at h1
        rcases h1 with rfl | rfl | rfl | rfl | rfl <;> rfl
      rw [hb] at hlt'
      exact Nat.not_lt.mpr hnew hlt'
end NSX
section NSY
variable {p : Program} {l : Launch} {e : Env} {R : Room} {s : State} {m : MethodId} {args : Array Value} {below : List Frame} {meth : Method} {c : Code} {H : Heap} {locs : List Loc} {cells slots : Nat} {Q : State → Prop}
variable {free : Addr → Prop} {ls : Array Slot} {rest : List Value} {Qc : Array Value → State → Outcome → State → Prop} {XC : String → State → State → Prop}
set_option maxHeartbeats 4000000 in
theorem nx_throwS {cc : ByteArray} {pc : Nat} (hexec : p.tables.exec = Jvm.exec) (hb : c.code = cc) (hl : l.stackTraces = false) {own text : String} {ik is ic mc ms sa : Nat} {A : Nat → Prop}
    (hown : s.vm.findClass own = some m.cls)
    (hk : (Cond.classLink own ik nsE).before args s = true) (hini : (Cond.initialized nsE).before args s = true) (hstr : vk_R own is text sa s) (hat : ∀ w ∈ nx_at own ic, w.before args s = true)
    (hgood : ∀ w ∈ Cond.classLink own ik nsE :: Cond.initialized nsE :: nx_at own ic, vx_ot w = true)
    (hU : vx_Zq Bundle.tN "UNASSIGNED_STACK" Bundle.steD A s s.heap) (hN : vx_Zq Bundle.tN "SUPPRESSED_SENTINEL" Bundle.listD A s s.heap) (hS : va_S A s.heap H locs) (hsize : ls.size = c.maxLocals)
    (d0 : decode cc pc = .ok (.new ik, 3)) (d3 : decode cc (pc + 3) = .ok (.dup, 1)) (d4 : decode cc (pc + 4) = .ok (.ldc is, 2)) (d6 : decode cc (pc + 6) = .ok (.invokespecial ic, 3)) (d9 : decode cc (pc + 9) = .ok (.athrow, 1))
    (hout : ∀ x ∈ c.exceptionTable.toList, covers x (pc + 9) = false)
    (hRframes : 5 < R.frames) (hRlocals : (rest.map fun v => v.category).sum + 82 ≤ R.locals) (hRcells : cells + 1 ≤ R.cells) (hRslots : slots + 6 ≤ R.slots) (hlocks : meth.locks = false)
    (hx : ∀ t : State, s.vm.Alike t.vm → H.size ≤ t.heap.size → (∀ q : Nat, q < H.size → t.heap[q]? = H[q]?) → XC nsE s t)
    (hf : ∀ z ∈ locs, free z.base) (hc : cells + 1 ≤ mc) (hs : slots + 6 ≤ ms) :
    W p l e R s m args below meth c H locs cells slots (vx_MQ below Qc XC args s mc ms free) (F0 m pc ls rest) := by
  intro T hT X
  have htr : e.platform.stackTraces = false := (show e.platform.stackTraces = l.stackTraces by rw [X.admits.platform]).trans hl
  have Y := vx_rebase X (R' := { frames := R.frames, locals := R.locals, cells := 1, slots := 6 }) (Nat.le_refl _) (Nat.le_refl _) hRcells hRslots
  obtain ⟨s', hA⟩ : ∃ z, z = (T.setVm s.vm).setFrames (.invoking m args :: below) := ⟨_, rfl⟩
  rw [← hA] at Y
  have hvm : s'.vm = s.vm := by rw [hA]; rfl
  have hhp : s'.heap = H := by rw [hA]; exact hT
  have hW0 : s.WarmedH s'.vm := by rw [hvm]; exact State.WarmedH.refl s
  have hat' : ∀ w ∈ nx_at own ic, w.before args s' = true := fun w hw => vx_ot_at hW0 hvm.symm (hgood w (List.mem_cons_of_mem _ (List.mem_cons_of_mem _ hw))) (hat w hw)
  have hk' : (Cond.classLink own ik nsE).before args s' = true := vx_ot_at hW0 hvm.symm (hgood _ List.mem_cons_self) hk
  have hini' : (Cond.initialized nsE).before args s' = true := vx_ot_at hW0 hvm.symm (hgood _ (List.mem_cons_of_mem _ List.mem_cons_self)) hini
  have hU' : vx_Zq Bundle.tN "UNASSIGNED_STACK" Bundle.steD A s' s'.heap := by rw [hhp]; exact vx_Zq.moved hW0.alike (hU.kept hS.2.1)
  have hN' : vx_Zq Bundle.tN "SUPPRESSED_SENTINEL" Bundle.listD A s' s'.heap := by rw [hhp]; exact vx_Zq.moved hW0.alike (hN.kept hS.2.1)
  have h : ∀ w ∈ nx_own own ic, w.before args s' = true := vx_own hat' (vx_isRefq hU'.1) (vx_isRefq hN'.1) hU'.2.word hN'.2.word
  have hown' : s'.vm.findClass own = some m.cls := by rw [hvm]; exact hown
  have hins : (Cond.instantiable nsE 6).before args s' = true := h _ (by simp [nx_own])
  obtain ⟨vm₁, cX, kX, hfX, hkX, -, -, X₁, st1⟩ := Y.newCold hexec (own := own) (C := nsE) (index := ik) (n := 6) hown' hk' hins hini'
    (g := F0 m pc ls rest) rfl (by rw [hb]; exact d0) (Nat.le_refl _) (Nat.le_refl _)
  generalize hT1 : (T.setVm vm₁).pushCell { cls := cX, slots := kX.instanceTypes.map defaultValue, vm := .none } = T1 at X₁ st1
  have hcat : (Value.ref T.heap.size).category = 1 := rfl
  have hcellA : T1.heap[T.heap.size]? = some (freshCell cX kX) := by rw [← hT1]; exact State.heap_pushCell_size _ _
  have d3' : decode c.code (pc + 3) = .ok (.dup, 1) := by rw [hb]; exact d3
  have d4' : decode c.code (pc + 4) = .ok (.ldc is, 2) := by rw [hb]; exact d4
  have hstr' : vk_R own is text sa s' := vk_R.warm hW0 hstr
  obtain ⟨U, hsteps, hrun, hend, hW, hsame, ce, hce, hO1, hO2⟩ := nx_ctor X₁ hexec htr (own := own) (ic := ic) hown' h (fun x hx => nomatch hx) hfX hkX hcellA (by rw [hhp, hT]; exact Nat.le_refl _) (msg := .ref sa) rfl
    (g := { method := m, pc := pc + 6, locals := ls, stack := .ref sa :: .ref T.heap.size :: .ref T.heap.size :: rest, locked := none }) rfl hsize rfl rfl (rest := rest) rfl
    (by rw [hb]; exact d6) (by rw [hb]; exact d9) hout hRframes (by simp only [List.map_cons, List.sum_cons, hcat]; omega) hlocks
  obtain ⟨f1, f2⟩ := vx_frame hsame
  rw [hhp] at f1 f2
  have hWs : s.WarmedH U.vm := State.WarmedH.trans hW0 hW
  have hcl : s.vm.findClass nsE = some ce.cls := by
    have h9 := hO1
    rw [hvm] at h9
    exact h9
  have hall : s.sameButNew ({ U with vm := s.vm } : State) locs mc ms := by
    subst hA
    obtain ⟨e1, e2⟩ := hsame
    rw [State.setFrames_setFrames] at e1
    have h2 : (T.setVm s.vm).sameButNew ({ U with vm := s.vm } : State) [] (0 + 1) (0 + 6) := ⟨e1, e2⟩
    have h3 := X.same.trans h2
    rw [List.append_nil] at h3
    exact h3.mono hc hs
  refine ⟨U, ?_, .threw T.heap.size, hrun, hend, Or.inr ⟨T.heap.size, rfl, nsE, ce, locs, hx U hWs.alike f1 (fun q hq => f2 q hq (fun z hz => nomatch hz)), hce, hO2, hcl, hWs, hall, hf⟩⟩
  refine st1 _ ?_
  show Steps p.tables e below (T1.setTop { method := m, pc := pc + 3, locals := ls, stack := .ref T.heap.size :: rest, locked := none }) _
  jvm_step X₁.here [X₁.here.top, hexec, d3', Value.category]
  exact X₁.ldcString hexec (own := own) (text := text) (index := is) (a := sa) hown' hstr'.1 hstr'.2
    (g := { method := m, pc := pc + 4, locals := ls, stack := .ref T.heap.size :: .ref T.heap.size :: rest, locked := none }) rfl d4' _ hsteps
set_option maxHeartbeats 4000000 in
theorem nx_throwSW {cc : ByteArray} {pc : Nat} (hexec : p.tables.exec = Jvm.exec) (hb : c.code = cc) (hl : l.stackTraces = false) {own text : String} {ik is ic mc ms sa : Nat} {A : Nat → Prop}
    (hown : s.vm.findClass own = some m.cls)
    (hk : (Cond.classLink own ik nsE).before args s = true) (hini : (Cond.initialized nsE).before args s = true) (hstr : vk_R own is text sa s) (hat : ∀ w ∈ nx_at own ic, w.before args s = true)
    (hgood : ∀ w ∈ Cond.classLink own ik nsE :: Cond.initialized nsE :: nx_at own ic, vx_ot w = true)
    (hU : vx_Zq Bundle.tN "UNASSIGNED_STACK" Bundle.steD A s s.heap) (hN : vx_Zq Bundle.tN "SUPPRESSED_SENTINEL" Bundle.listD A s s.heap) (hS : va_S A s.heap H locs) (hsize : ls.size = c.maxLocals)
    (d0 : decode cc pc = .ok (.new ik, 3)) (d3 : decode cc (pc + 3) = .ok (.dup, 1)) (d4 : decode cc (pc + 4) = .ok (.ldc_w is, 3)) (d7 : decode cc (pc + 7) = .ok (.invokespecial ic, 3)) (d10 : decode cc (pc + 10) = .ok (.athrow, 1))
    (hout : ∀ x ∈ c.exceptionTable.toList, covers x (pc + 10) = false)
    (hRframes : 5 < R.frames) (hRlocals : (rest.map fun v => v.category).sum + 82 ≤ R.locals) (hRcells : cells + 1 ≤ R.cells) (hRslots : slots + 6 ≤ R.slots) (hlocks : meth.locks = false)
    (hx : ∀ t : State, s.vm.Alike t.vm → H.size ≤ t.heap.size → (∀ q : Nat, q < H.size → t.heap[q]? = H[q]?) → XC nsE s t)
    (hf : ∀ z ∈ locs, free z.base) (hc : cells + 1 ≤ mc) (hs : slots + 6 ≤ ms) :
    W p l e R s m args below meth c H locs cells slots (vx_MQ below Qc XC args s mc ms free) (F0 m pc ls rest) := by
  intro T hT X
  have htr : e.platform.stackTraces = false := (show e.platform.stackTraces = l.stackTraces by rw [X.admits.platform]).trans hl
  have Y := vx_rebase X (R' := { frames := R.frames, locals := R.locals, cells := 1, slots := 6 }) (Nat.le_refl _) (Nat.le_refl _) hRcells hRslots
  obtain ⟨s', hA⟩ : ∃ z, z = (T.setVm s.vm).setFrames (.invoking m args :: below) := ⟨_, rfl⟩
  rw [← hA] at Y
  have hvm : s'.vm = s.vm := by rw [hA]; rfl
  have hhp : s'.heap = H := by rw [hA]; exact hT
  have hW0 : s.WarmedH s'.vm := by rw [hvm]; exact State.WarmedH.refl s
  have hat' : ∀ w ∈ nx_at own ic, w.before args s' = true := fun w hw => vx_ot_at hW0 hvm.symm (hgood w (List.mem_cons_of_mem _ (List.mem_cons_of_mem _ hw))) (hat w hw)
  have hk' : (Cond.classLink own ik nsE).before args s' = true := vx_ot_at hW0 hvm.symm (hgood _ List.mem_cons_self) hk
  have hini' : (Cond.initialized nsE).before args s' = true := vx_ot_at hW0 hvm.symm (hgood _ (List.mem_cons_of_mem _ List.mem_cons_self)) hini
  have hU' : vx_Zq Bundle.tN "UNASSIGNED_STACK" Bundle.steD A s' s'.heap := by rw [hhp]; exact vx_Zq.moved hW0.alike (hU.kept hS.2.1)
  have hN' : vx_Zq Bundle.tN "SUPPRESSED_SENTINEL" Bundle.listD A s' s'.heap := by rw [hhp]; exact vx_Zq.moved hW0.alike (hN.kept hS.2.1)
  have h : ∀ w ∈ nx_own own ic, w.before args s' = true := vx_own hat' (vx_isRefq hU'.1) (vx_isRefq hN'.1) hU'.2.word hN'.2.word
  have hown' : s'.vm.findClass own = some m.cls := by rw [hvm]; exact hown
  have hins : (Cond.instantiable nsE 6).before args s' = true := h _ (by simp [nx_own])
  obtain ⟨vm₁, cX, kX, hfX, hkX, -, -, X₁, st1⟩ := Y.newCold hexec (own := own) (C := nsE) (index := ik) (n := 6) hown' hk' hins hini'
    (g := F0 m pc ls rest) rfl (by rw [hb]; exact d0) (Nat.le_refl _) (Nat.le_refl _)
  generalize hT1 : (T.setVm vm₁).pushCell { cls := cX, slots := kX.instanceTypes.map defaultValue, vm := .none } = T1 at X₁ st1
  have hcat : (Value.ref T.heap.size).category = 1 := rfl
  have hcellA : T1.heap[T.heap.size]? = some (freshCell cX kX) := by rw [← hT1]; exact State.heap_pushCell_size _ _
  have d3' : decode c.code (pc + 3) = .ok (.dup, 1) := by rw [hb]; exact d3
  have d4' : decode c.code (pc + 4) = .ok (.ldc_w is, 3) := by rw [hb]; exact d4
  have hstr' : vk_R own is text sa s' := vk_R.warm hW0 hstr
  obtain ⟨U, hsteps, hrun, hend, hW, hsame, ce, hce, hO1, hO2⟩ := nx_ctor X₁ hexec htr (own := own) (ic := ic) hown' h (fun x hx => nomatch hx) hfX hkX hcellA (by rw [hhp, hT]; exact Nat.le_refl _) (msg := .ref sa) rfl
    (g := { method := m, pc := pc + 7, locals := ls, stack := .ref sa :: .ref T.heap.size :: .ref T.heap.size :: rest, locked := none }) rfl hsize rfl rfl (rest := rest) rfl
    (by rw [hb]; exact d7) (by rw [hb]; exact d10) hout hRframes (by simp only [List.map_cons, List.sum_cons, hcat]; omega) hlocks
  obtain ⟨f1, f2⟩ := vx_frame hsame
  rw [hhp] at f1 f2
  have hWs : s.WarmedH U.vm := State.WarmedH.trans hW0 hW
  have hcl : s.vm.findClass nsE = some ce.cls := by
    have h9 := hO1
    rw [hvm] at h9
    exact h9
  have hall : s.sameButNew ({ U with vm := s.vm } : State) locs mc ms := by
    subst hA
    obtain ⟨e1, e2⟩ := hsame
    rw [State.setFrames_setFrames] at e1
    have h2 : (T.setVm s.vm).sameButNew ({ U with vm := s.vm } : State) [] (0 + 1) (0 + 6) := ⟨e1, e2⟩
    have h3 := X.same.trans h2
    rw [List.append_nil] at h3
    exact h3.mono hc hs
  refine ⟨U, ?_, .threw T.heap.size, hrun, hend, Or.inr ⟨T.heap.size, rfl, nsE, ce, locs, hx U hWs.alike f1 (fun q hq => f2 q hq (fun z hz => nomatch hz)), hce, hO2, hcl, hWs, hall, hf⟩⟩
  refine st1 _ ?_
  show Steps p.tables e below (T1.setTop { method := m, pc := pc + 3, locals := ls, stack := .ref T.heap.size :: rest, locked := none }) _
  jvm_step X₁.here [X₁.here.top, hexec, d3', Value.category]
  exact X₁.ldcStringW hexec (own := own) (text := text) (index := is) (a := sa) hown' hstr'.1 hstr'.2
    (g := { method := m, pc := pc + 4, locals := ls, stack := .ref T.heap.size :: .ref T.heap.size :: rest, locked := none }) rfl d4' _ hsteps
end NSY
def nLx (own : String) (ik is ic : Nat) (text : String) : Prop := Cond.classLink own ik nsE ∈ gw ∧ Cond.initialized nsE ∈ gw ∧ (own, is, text) ∈ txs ∧ (∀ w ∈ nx_at own ic, w ∈ gw) ∧ ∀ w ∈ Cond.classLink own ik nsE :: Cond.initialized nsE :: nx_at own ic, vx_ot w = true
section NSZ
variable {p : Program} {l : Launch} {e : Env} {R : Room} {s : State} {m : MethodId} {args : Array Value} {below : List Frame} {meth : Method} {c : Code} {H : Heap} {locs : List Loc} {cells slots : Nat} {Q : State → Prop}
variable {cc : ByteArray} {pc : Nat} {ls : Array Slot} {rest : List Value} {D : va_G} {dA : Nat → ClassId} {base : Nat} {M : mM} {ad : Nat → Nat → Nat} {own : String} {P : Option Value → mM → (Nat → Nat → Nat) → Prop} {PX : String → Prop} {mc ms : Nat}
theorem r_throwN {nL ik is ic : Nat} {text : String} (X : mCx D dA base p s m args c cc own) (hst : l.stackTraces = false) (hml : c.maxLocals = nL) (hsz : ls.size = nL) (hM : mSt D dA base M ad s.heap H locs) (hlk : meth.locks = false) (hno : ∀ x ∈ c.exceptionTable.toList, False) (hk : nLx own ik is ic text)
    (d0 : decode cc pc = .ok (.new ik, 3)) (d3 : decode cc (pc + 3) = .ok (.dup, 1)) (d4 : decode cc (pc + 4) = .ok (.ldc is, 2)) (d6 : decode cc (pc + 6) = .ok (.invokespecial ic, 3)) (d9 : decode cc (pc + 9) = .ok (.athrow, 1))
    (hR : 5 < R.frames ∧ (rest.map fun v => v.category).sum + 82 ≤ R.locals ∧ cells + 1 ≤ R.cells ∧ slots + 6 ≤ R.slots) (hcs : cells + 1 ≤ mc ∧ slots + 6 ≤ ms) (hPX : PX nsE) :
    W p l e R s m args below meth c H locs cells slots (vx_MQ below (mPost D dA base M ad P) (mX D dA base M ad PX) args s mc ms (fun q => base ≤ q)) (F0 m pc ls rest) := by
  obtain ⟨hx, hb, hown, hts, hK, hZ⟩ := X
  obtain ⟨k2, k3, k4, k5, k6⟩ := hk
  obtain ⟨sa, hstr⟩ := hZ.2.2 _ k4
  exact nx_throwS hx hb hst hown (hts _ k2) (hts _ k3) hstr (fun w hw => hts w (k5 w hw)) k6 hZ.1 hZ.2.1 hM.2.1 (hsz.trans hml.symm) d0 d3 d4 d6 d9 (fun x hx => (hno x hx).elim) hR.1 hR.2.1 hR.2.2.1 hR.2.2.2 hlk (fun t _ h1 h2 => ⟨hPX, x_end hM h1 h2⟩) hM.2.1.2.2 hcs.1 hcs.2
theorem r_throwNW {nL ik is ic : Nat} {text : String} (X : mCx D dA base p s m args c cc own) (hst : l.stackTraces = false) (hml : c.maxLocals = nL) (hsz : ls.size = nL) (hM : mSt D dA base M ad s.heap H locs) (hlk : meth.locks = false) (hno : ∀ x ∈ c.exceptionTable.toList, False) (hk : nLx own ik is ic text)
    (d0 : decode cc pc = .ok (.new ik, 3)) (d3 : decode cc (pc + 3) = .ok (.dup, 1)) (d4 : decode cc (pc + 4) = .ok (.ldc_w is, 3)) (d7 : decode cc (pc + 7) = .ok (.invokespecial ic, 3)) (d10 : decode cc (pc + 10) = .ok (.athrow, 1))
    (hR : 5 < R.frames ∧ (rest.map fun v => v.category).sum + 82 ≤ R.locals ∧ cells + 1 ≤ R.cells ∧ slots + 6 ≤ R.slots) (hcs : cells + 1 ≤ mc ∧ slots + 6 ≤ ms) (hPX : PX nsE) :
    W p l e R s m args below meth c H locs cells slots (vx_MQ below (mPost D dA base M ad P) (mX D dA base M ad PX) args s mc ms (fun q => base ≤ q)) (F0 m pc ls rest) := by
  obtain ⟨hx, hb, hown, hts, hK, hZ⟩ := X
  obtain ⟨k2, k3, k4, k5, k6⟩ := hk
  obtain ⟨sa, hstr⟩ := hZ.2.2 _ k4
  exact nx_throwSW hx hb hst hown (hts _ k2) (hts _ k3) hstr (fun w hw => hts w (k5 w hw)) k6 hZ.1 hZ.2.1 hM.2.1 (hsz.trans hml.symm) d0 d3 d4 d7 d10 (fun x hx => (hno x hx).elim) hR.1 hR.2.1 hR.2.2.1 hR.2.2.2 hlk (fun t _ h1 h2 => ⟨hPX, x_end hM h1 h2⟩) hM.2.1.2.2 hcs.1 hcs.2
end NSZ
end
section
/-! THROWS: links, by program -/
theorem nx_in_139 : ∀ w ∈ nx_at "ScopeKeeper" 139, w ∈ gw := fun w hw => gwm ((show ∀ w ∈ nx_at "ScopeKeeper" 139, w ∈ lw_tbl by decide +kernel) w hw) ((show ∀ w ∈ nx_at "ScopeKeeper" 139, okW w = true by decide +kernel) w hw)
theorem xa_79 : ∀ w ∈ vx_atS "ScopeKeeper" 79 "java/lang/IllegalArgumentException" tnm, w ∈ gw := fun w hw => gwm ((show ∀ w ∈ vx_atS "ScopeKeeper" 79 "java/lang/IllegalArgumentException" tnm, w ∈ lw_tbl by decide +kernel) w hw) ((show ∀ w ∈ vx_atS "ScopeKeeper" 79 "java/lang/IllegalArgumentException" tnm, okW w = true by decide +kernel) w hw)
theorem xa_128 : ∀ w ∈ vx_atS "ScopeKeeper" 128 "java/lang/IllegalStateException" tnm, w ∈ gw := fun w hw => gwm ((show ∀ w ∈ vx_atS "ScopeKeeper" 128 "java/lang/IllegalStateException" tnm, w ∈ lw_tbl by decide +kernel) w hw) ((show ∀ w ∈ vx_atS "ScopeKeeper" 128 "java/lang/IllegalStateException" tnm, okW w = true by decide +kernel) w hw)
theorem xa_247 : ∀ w ∈ vx_atS "ScopeKeeper" 247 "java/lang/IndexOutOfBoundsException" tnm, w ∈ gw := fun w hw => gwm ((show ∀ w ∈ vx_atS "ScopeKeeper" 247 "java/lang/IndexOutOfBoundsException" tnm, w ∈ lw_tbl by decide +kernel) w hw) ((show ∀ w ∈ vx_atS "ScopeKeeper" 247 "java/lang/IndexOutOfBoundsException" tnm, okW w = true by decide +kernel) w hw)
theorem xa_295 : ∀ w ∈ vx_atS "ScopeKeeper" 295 "java/lang/UnsupportedOperationException" tnm, w ∈ gw := fun w hw => gwm ((show ∀ w ∈ vx_atS "ScopeKeeper" 295 "java/lang/UnsupportedOperationException" tnm, w ∈ lw_tbl by decide +kernel) w hw) ((show ∀ w ∈ vx_atS "ScopeKeeper" 295 "java/lang/UnsupportedOperationException" tnm, okW w = true by decide +kernel) w hw)
theorem t_K_75_77_79 : tLk "ScopeKeeper" 75 77 79 "java/lang/IllegalArgumentException" "no such script, or broad is no path" := ⟨by decide +kernel, gwm (lt1 151 rfl) rfl, gwm (lt1 9 rfl) rfl, (by decide), xa_79, (by decide +kernel)⟩
theorem t_K_75_82_79 : tLk "ScopeKeeper" 75 82 79 "java/lang/IllegalArgumentException" "no such flaw or mode" := ⟨by decide +kernel, gwm (lt1 151 rfl) rfl, gwm (lt1 9 rfl) rfl, (by decide), xa_79, (by decide +kernel)⟩
theorem t_K_75_96_79 : tLk "ScopeKeeper" 75 96 79 "java/lang/IllegalArgumentException" "no such kind" := ⟨by decide +kernel, gwm (lt1 151 rfl) rfl, gwm (lt1 9 rfl) rfl, (by decide), xa_79, (by decide +kernel)⟩
theorem t_K_75_102_79 : tLk "ScopeKeeper" 75 102 79 "java/lang/IllegalArgumentException" "no such script" := ⟨by decide +kernel, gwm (lt1 151 rfl) rfl, gwm (lt1 9 rfl) rfl, (by decide), xa_79, (by decide +kernel)⟩
theorem t_K_75_233_79 : tLk "ScopeKeeper" 75 233 79 "java/lang/IllegalArgumentException" "no such what" := ⟨by decide +kernel, gwm (lt1 151 rfl) rfl, gwm (lt1 9 rfl) rfl, (by decide), xa_79, (by decide +kernel)⟩
theorem t_K_75_282_79 : tLk "ScopeKeeper" 75 282 79 "java/lang/IllegalArgumentException" "no path" := ⟨by decide +kernel, gwm (lt1 151 rfl) rfl, gwm (lt1 9 rfl) rfl, (by decide), xa_79, (by decide +kernel)⟩
theorem t_K_124_126_128 : tLk "ScopeKeeper" 124 126 128 "java/lang/IllegalStateException" "no room for another job" := ⟨by decide +kernel, gwm (lt2 7 rfl) rfl, gwm (lt1 10 rfl) rfl, (by decide), xa_128, (by decide +kernel)⟩
theorem t_K_124_157_128 : tLk "ScopeKeeper" 124 157 128 "java/lang/IllegalStateException" "no room for another client" := ⟨by decide +kernel, gwm (lt2 7 rfl) rfl, gwm (lt1 10 rfl) rfl, (by decide), xa_128, (by decide +kernel)⟩
theorem t_K_124_190_128 : tLk "ScopeKeeper" 124 190 128 "java/lang/IllegalStateException" "no active worker" := ⟨by decide +kernel, gwm (lt2 7 rfl) rfl, gwm (lt1 10 rfl) rfl, (by decide), xa_128, (by decide +kernel)⟩
theorem t_K_124_202_128 : tLk "ScopeKeeper" 124 202 128 "java/lang/IllegalStateException" "no worker waits or installs" := ⟨by decide +kernel, gwm (lt2 7 rfl) rfl, gwm (lt1 10 rfl) rfl, (by decide), xa_128, (by decide +kernel)⟩
theorem t_K_135_137_139 : nLx "ScopeKeeper" 135 137 139 "no job in the row" := ⟨gwm (lt2 65 rfl) rfl, gwm (lt1 12 rfl) rfl, (by decide), nx_in_139, (by decide +kernel)⟩
theorem t_K_135_284_139 : nLx "ScopeKeeper" 135 284 139 "no such client" := ⟨gwm (lt2 65 rfl) rfl, gwm (lt1 12 rfl) rfl, (by decide), nx_in_139, (by decide +kernel)⟩
theorem t_K_135_289_139 : nLx "ScopeKeeper" 135 289 139 "no such registration" := ⟨gwm (lt2 65 rfl) rfl, gwm (lt1 12 rfl) rfl, (by decide), nx_in_139, (by decide +kernel)⟩
theorem t_K_243_245_247 : tLk "ScopeKeeper" 243 245 247 "java/lang/IndexOutOfBoundsException" "no such worker" := ⟨by decide +kernel, gwm (lt3 137 rfl) rfl, gwm (lt1 17 rfl) rfl, (by decide), xa_247, (by decide +kernel)⟩
theorem t_K_243_263_247 : tLk "ScopeKeeper" 243 263 247 "java/lang/IndexOutOfBoundsException" "no such job" := ⟨by decide +kernel, gwm (lt3 137 rfl) rfl, gwm (lt1 17 rfl) rfl, (by decide), xa_247, (by decide +kernel)⟩
theorem t_K_243_266_247 : tLk "ScopeKeeper" 243 266 247 "java/lang/IndexOutOfBoundsException" "the trace has no such number" := ⟨by decide +kernel, gwm (lt3 137 rfl) rfl, gwm (lt1 17 rfl) rfl, (by decide), xa_247, (by decide +kernel)⟩
theorem t_K_291_293_295 : tLk "ScopeKeeper" 291 293 295 "java/lang/UnsupportedOperationException" "the network is down" := ⟨by decide +kernel, gwm (lt3 77 rfl) rfl, gwm (lt1 16 rfl) rfl, (by decide), xa_295, (by decide +kernel)⟩
theorem cx_K_98 : Cond.methodLink "ScopeKeeper" 98 y_K_refuseNoPath ∈ gw := gwm (lt1 231 rfl) rfl
theorem cx_K_176 : Cond.methodLink "ScopeKeeper" 176 y_K_refuseNoClient ∈ gw := gwm (lt3 31 rfl) rfl
theorem cx_K_187 : Cond.methodLink "ScopeKeeper" 187 y_K_needRegistration ∈ gw := gwm (lt3 51 rfl) rfl
theorem cx_K_213 : Cond.methodLink "ScopeKeeper" 213 y_K_networkAnswer ∈ gw := gwm (lt3 73 rfl) rfl
end
section
/-! loops, and the class's memory in good order -/
theorem w_up {G : JFrame → Prop} (N : Nat) (F : Array Slot → JFrame) (Inv : Nat → Array Slot → Prop) (hz : ∀ ls, Inv N ls → G (F ls)) (hs : ∀ i, i < N → (∀ ls, Inv (i + 1) ls → G (F ls)) → ∀ ls, Inv i ls → G (F ls)) : ∀ i ls, i ≤ N → Inv i ls → G (F ls) := by
  have key : ∀ n i ls, i + n = N → Inv i ls → G (F ls) := by
    intro n
    induction n with
    | zero =>
      intro i ls h hI
      have : i = N := by omega
      subst this
      exact hz ls hI
    | succ n ih =>
      intro i ls h hI
      exact hs i (by omega) (fun ls h2 => ih (i + 1) ls (by omega) h2) ls hI
  intro i ls h hI
  exact key (N - i) i ls (by omega) hI
/-- .. where the heap changes too -/
theorem w_upH {G : Heap → List Loc → JFrame → Prop} (N : Nat) (F : Array Slot → JFrame) (Inv : Nat → Heap → List Loc → Array Slot → Prop) (hz : ∀ H L ls, Inv N H L ls → G H L (F ls)) (hs : ∀ i, i < N → (∀ H L ls, Inv (i + 1) H L ls → G H L (F ls)) → ∀ H L ls, Inv i H L ls → G H L (F ls)) : ∀ i H L ls, i ≤ N → Inv i H L ls → G H L (F ls) := by
  have key : ∀ n i H L ls, i + n = N → Inv i H L ls → G H L (F ls) := by
    intro n
    induction n with
    | zero =>
      intro i H L ls h hI
      have : i = N := by omega
      subst this
      exact hz H L ls hI
    | succ n ih =>
      intro i H L ls h hI
      exact hs i (by omega) (fun H L ls h2 => ih (i + 1) H L ls (by omega) h2) H L ls hI
  intro i H L ls h hI
  exact key (N - i) i H L ls (by omega) hI
theorem w_down {G : JFrame → Prop} (F : Array Slot → JFrame) (Inv : Nat → Array Slot → Prop) (hz : ∀ ls, Inv 0 ls → G (F ls)) (hs : ∀ i, (∀ ls, Inv i ls → G (F ls)) → ∀ ls, Inv (i + 1) ls → G (F ls)) : ∀ i ls, Inv i ls → G (F ls) := by
  intro i
  induction i with
  | zero => exact hz
  | succ n ih => exact hs n ih
/-- the first place from i on, among n, of which p -/
def ff (p : Nat → Bool) : Nat → Nat → Option Nat
  | 0, _ => none
  | n + 1, i => if p i = true then some i else ff p n (i + 1)
/-- the last place below n of which p -/
def fl (p : Nat → Bool) : Nat → Option Nat
  | 0 => none
  | n + 1 => if p n = true then some n else fl p n
/-- how many places below n of which p -/
def cn (p : Nat → Bool) : Nat → Nat
  | 0 => 0
  | n + 1 => cn p n + (if p n = true then 1 else 0)
theorem cn_le (p : Nat → Bool) (n : Nat) : cn p n ≤ n := by
  induction n with
  | zero => exact Nat.le_refl _
  | succ n ih =>
    show cn p n + _ ≤ n + 1
    by_cases h : p n = true
    · rw [if_pos h]; omega
    · rw [if_neg h]; omega
theorem ff_t {p : Nat → Bool} {n i : Nat} (h : p i = true) : ff p (n + 1) i = some i := if_pos h
theorem ff_f {p : Nat → Bool} {n i : Nat} (h : ¬ p i = true) : ff p (n + 1) i = ff p n (i + 1) := if_neg h
/-- ints of a memory that count: workers, registrations, jobs -/
def nRg (M : mM) : Nat := (gi M 0 0 6).toNatClampNeg
/-- the i-th registration's number -/
def rgx (M : mM) (i : Nat) : Nat := (gr M 10 0 i).getD 0
def wK (M : mM) : Prop :=
  (0 < gn M 0 ∧ gr M 0 0 0 = some 0 ∧ gr M 0 0 3 = some 0 ∧ gr M 0 0 5 = some 0 ∧ gr M 0 0 7 = some 0 ∧ gr M 0 0 8 = some 0 ∧ gr M 0 0 9 = some 0 ∧ gr M 0 0 11 = some 0 ∧ gr M 3 0 0 = some 0) ∧
  (∀ i, i < 4 → gr M 8 0 i = some i) ∧ (∀ i, i < 8 → gr M 11 0 i = some i) ∧
  (gi M 0 0 4 = nI (gn M 7) ∧ gn M 7 ≤ 40 ∧ ∀ i, i < gn M 7 → gr M 9 0 i = some i ∧ gi M 7 i 0 = nI (i + 1) ∧ gr M 7 i 4 = some i ∧ gr M 6 i 0 = some i ∧ gr M 6 i 1 = some i) ∧
  (gi M 0 0 6 = nI (nRg M) ∧ nRg M ≤ 5 ∧ ∀ i, i < nRg M → gr M 10 0 i = some (rgx M i)) ∧
  (gi M 0 0 10 = nI (gn M 4) ∧ gn M 4 ≤ 60 ∧ ∀ i, i < gn M 4 → gr M 13 0 i = some i ∧ gi M 4 i 0 = nI i)
theorem w_k {M : mM} (h : wK M) : 0 < gn M 0 := h.1.1
theorem w_0_0 {M : mM} (h : wK M) : gr M 0 0 0 = some 0 := h.1.2.1
theorem w_0_3 {M : mM} (h : wK M) : gr M 0 0 3 = some 0 := h.1.2.2.1
theorem w_0_5 {M : mM} (h : wK M) : gr M 0 0 5 = some 0 := h.1.2.2.2.1
theorem w_0_7 {M : mM} (h : wK M) : gr M 0 0 7 = some 0 := h.1.2.2.2.2.1
theorem w_0_8 {M : mM} (h : wK M) : gr M 0 0 8 = some 0 := h.1.2.2.2.2.2.1
theorem w_0_9 {M : mM} (h : wK M) : gr M 0 0 9 = some 0 := h.1.2.2.2.2.2.2.1
theorem w_0_11 {M : mM} (h : wK M) : gr M 0 0 11 = some 0 := h.1.2.2.2.2.2.2.2.1
theorem w_3_0 {M : mM} (h : wK M) : gr M 3 0 0 = some 0 := h.1.2.2.2.2.2.2.2.2
theorem w_sc {M : mM} (h : wK M) {i : Nat} (hi : i < 4) : gr M 8 0 i = some i := h.2.1 i hi
theorem w_cl {M : mM} (h : wK M) {i : Nat} (hi : i < 8) : gr M 11 0 i = some i := h.2.2.1 i hi
theorem w_nw {M : mM} (h : wK M) : gi M 0 0 4 = nI (gn M 7) := h.2.2.2.1.1
theorem w_nwl {M : mM} (h : wK M) : gn M 7 ≤ 40 := h.2.2.2.1.2.1
theorem w_wk {M : mM} (h : wK M) {i : Nat} (hi : i < gn M 7) : gr M 9 0 i = some i := (h.2.2.2.1.2.2 i hi).1
theorem w_num {M : mM} (h : wK M) {i : Nat} (hi : i < gn M 7) : gi M 7 i 0 = nI (i + 1) := (h.2.2.2.1.2.2 i hi).2.1
theorem w_7_4 {M : mM} (h : wK M) {i : Nat} (hi : i < gn M 7) : gr M 7 i 4 = some i := (h.2.2.2.1.2.2 i hi).2.2.1
theorem w_6_0 {M : mM} (h : wK M) {i : Nat} (hi : i < gn M 7) : gr M 6 i 0 = some i := (h.2.2.2.1.2.2 i hi).2.2.2.1
theorem w_6_1 {M : mM} (h : wK M) {i : Nat} (hi : i < gn M 7) : gr M 6 i 1 = some i := (h.2.2.2.1.2.2 i hi).2.2.2.2
theorem w_nr {M : mM} (h : wK M) : gi M 0 0 6 = nI (nRg M) := h.2.2.2.2.1.1
theorem w_nrl {M : mM} (h : wK M) : nRg M ≤ 5 := h.2.2.2.2.1.2.1
theorem w_rg {M : mM} (h : wK M) {i : Nat} (hi : i < nRg M) : gr M 10 0 i = some (rgx M i) := h.2.2.2.2.1.2.2 i hi
theorem w_nj {M : mM} (h : wK M) : gi M 0 0 10 = nI (gn M 4) := h.2.2.2.2.2.1
theorem w_njl {M : mM} (h : wK M) : gn M 4 ≤ 60 := h.2.2.2.2.2.2.1
theorem w_jb {M : mM} (h : wK M) {i : Nat} (hi : i < gn M 4) : gr M 13 0 i = some i := (h.2.2.2.2.2.2.2 i hi).1
theorem w_jn {M : mM} (h : wK M) {i : Nat} (hi : i < gn M 4) : gi M 4 i 0 = nI i := (h.2.2.2.2.2.2.2 i hi).2
theorem w_upW {p : Program} {l : Launch} {e : Env} {R : Room} {s : State} {m : MethodId} {args : Array Value} {below : List Frame} {meth : Method} {c : Code} {cells slots : Nat} {Q : State → Prop} (N : Nat) (F : Array Slot → JFrame) (Inv : Nat → Heap → List Loc → Array Slot → Prop)
    (hz : ∀ H L ls, Inv N H L ls → W p l e R s m args below meth c H L cells slots Q (F ls)) (hs : ∀ i, i < N → (∀ H L ls, Inv (i + 1) H L ls → W p l e R s m args below meth c H L cells slots Q (F ls)) → ∀ H L ls, Inv i H L ls → W p l e R s m args below meth c H L cells slots Q (F ls)) :
    ∀ i H L ls, i ≤ N → Inv i H L ls → W p l e R s m args below meth c H L cells slots Q (F ls) := w_upH (G := fun H L g => W p l e R s m args below meth c H L cells slots Q g) N F Inv hz hs
theorem w_downW {p : Program} {l : Launch} {e : Env} {R : Room} {s : State} {m : MethodId} {args : Array Value} {below : List Frame} {meth : Method} {c : Code} {cells slots : Nat} {Q : State → Prop} (F : Array Slot → JFrame) (Inv : Nat → Heap → List Loc → Array Slot → Prop)
    (hz : ∀ H L ls, Inv 0 H L ls → W p l e R s m args below meth c H L cells slots Q (F ls)) (hs : ∀ i, (∀ H L ls, Inv i H L ls → W p l e R s m args below meth c H L cells slots Q (F ls)) → ∀ H L ls, Inv (i + 1) H L ls → W p l e R s m args below meth c H L cells slots Q (F ls)) :
    ∀ i H L ls, Inv i H L ls → W p l e R s m args below meth c H L cells slots Q (F ls) := by
  intro i
  induction i with
  | zero => exact hz
  | succ n ih => exact hs n ih
theorem sn_up {M : mM} {k a i : Nat} (h : i < gn M a) : i < gn (sn M k) a := by
  rw [gn_sn]
  by_cases ha : a = k
  · subst ha; rw [if_pos rfl]; omega
  · rw [if_neg ha]; exact h
theorem sn_live (M : mM) (k : Nat) : gn M k < gn (sn M k) k := by
  rw [gn_sn, if_pos rfl]; omega
theorem mExt_new {M : mM} {ad ad' : Nat → Nat → Nat} {k : Nat} (h : ∀ a b, b < gn M a → ad' a b = ad a b) : mExt M ad (sn M k) ad' := ⟨h, fun a => by
  rw [gn_sn]
  by_cases ha : a = k
  · subst ha; rw [if_pos rfl]; omega
  · rw [if_neg ha]; exact Nat.le_refl _⟩
end
section
theorem b1 {c : Prop} [Decidable c] (h : c) : some (Value.int 1) = some (Value.int (if c then 1 else 0)) := by rw [if_pos h]
theorem b0 {c : Prop} [Decidable c] (h : ¬ c) : some (Value.int 0) = some (Value.int (if c then 1 else 0)) := by rw [if_neg h]
theorem rfv_nar (ad : Nat → Nat → Nat) (k : Nat) (r : Option Nat) (C : String) : narrow (.object C) (rfv ad k r) = rfv ad k r := by cases r <;> rfl
theorem rfv_fit (ad : Nat → Nat → Nat) (k : Nat) (r : Option Nat) (C : String) : fits (.object C) (rfv ad k r) = true := by cases r <;> rfl
abbrev mSame (M : mM) (ad : Nat → Nat → Nat) (r : Option Value) : Option Value → mM → (Nat → Nat → Nat) → Prop := fun rv M' ad' => rv = r ∧ M' = M ∧ ad' = ad
def ptL : Nat → Int32 → Bool
  | 0, _ => true
  | n + 1, r => if 0 < r then (if r - r / 27 * 27 = 0 then false else ptL n (r / 27)) else true
def isP (x : Int32) : Bool := if x < 0 ∨ 531440 < x then false else ptL 4 x
def bgL : Nat → Int32 → Int32 → Bool
  | 0, _, _ => true
  | n + 1, r, q => if 0 < r then (if r - r / 27 * 27 = q - q / 27 * 27 then bgL n (r / 27) (q / 27) else false) else true
def bgs (x y : Int32) : Bool := bgL 4 x y
set_option maxHeartbeats 4000000 in
set_option maxRecDepth 100000 in
theorem k_K_isWithin (l : Launch) (D : va_G) (dA : Nat → ClassId) (base : Nat) (M : mM) (ad : Nat → Nat → Nat) (a b n : Int32) : mMet l y_K_isWithin b_K_isWithin 3 (some FieldType.boolean) ({ frames := 0, cells := 0, slots := 0, locals := 0 } : Room) 0 0 D dA base M ad [.int a, .int b, .int n] (mSame M ad (some (.int (if b ≤ a ∧ a < b + n then 1 else 0)))) := by
  refine m_start (lvs := [(0, .int a), (1, .int b), (2, .int n)]) (by decide) (Nat.le_of_ble_eq_true rfl) rfl ?_
  intro p e s m below meth c ls X hr hlk hin hml hM hl
  refine lv_iload_n X.1 X.2.1 d_K_isWithin_0 rfl (lv_at hl 0 rfl) ?_
  refine lv_iload_n X.1 X.2.1 d_K_isWithin_1 rfl (lv_at hl 1 rfl) ?_
  refine lv_icmp_lt (tgt := 16) X.1 X.2.1 d_K_isWithin_2 (by decide) (fun hz1 => ?_) (fun hz1 => ?_)
  · skip
    refine lv_iconst (v := 0) X.1 X.2.1 d_K_isWithin_16 (by decide) ?_
    exact m_zret X hr hlk hM (by first | rfl | decide) d_K_isWithin_17 ⟨Nat.le_of_ble_eq_true rfl, Nat.le_of_ble_eq_true rfl⟩ (mExt_rf _ _) ⟨b0 (by simp only [Int32.lt_iff_toInt_lt, Int32.le_iff_toInt_le, ← Int32.toInt_inj] at hz1 ⊢; omega), rfl, rfl⟩
  · skip
    refine lv_iload_n X.1 X.2.1 d_K_isWithin_5 rfl (lv_at hl 0 rfl) ?_
    refine lv_iload_n X.1 X.2.1 d_K_isWithin_6 rfl (lv_at hl 1 rfl) ?_
    refine lv_iload_n X.1 X.2.1 d_K_isWithin_7 rfl (lv_at hl 2 rfl) ?_
    refine lv_iadd X.1 X.2.1 d_K_isWithin_8 ?_
    refine lv_icmp_ge (tgt := 16) X.1 X.2.1 d_K_isWithin_9 (by decide) (fun hz2 => ?_) (fun hz2 => ?_)
    · skip
      refine lv_iconst (v := 0) X.1 X.2.1 d_K_isWithin_16 (by decide) ?_
      exact m_zret X hr hlk hM (by first | rfl | decide) d_K_isWithin_17 ⟨Nat.le_of_ble_eq_true rfl, Nat.le_of_ble_eq_true rfl⟩ (mExt_rf _ _) ⟨b0 (by simp only [Int32.lt_iff_toInt_lt, Int32.le_iff_toInt_le, ← Int32.toInt_inj] at hz1 hz2 ⊢; omega), rfl, rfl⟩
    · skip
      refine lv_iconst (v := 1) X.1 X.2.1 d_K_isWithin_12 (by decide) ?_
      refine lv_goto (tgt := 17) X.1 X.2.1 d_K_isWithin_13 (by decide) ?_
      exact m_zret X hr hlk hM (by first | rfl | decide) d_K_isWithin_17 ⟨Nat.le_of_ble_eq_true rfl, Nat.le_of_ble_eq_true rfl⟩ (mExt_rf _ _) ⟨b1 (by simp only [Int32.lt_iff_toInt_lt, Int32.le_iff_toInt_le, ← Int32.toInt_inj] at hz1 hz2 ⊢; omega), rfl, rfl⟩
set_option maxHeartbeats 4000000 in
set_option maxRecDepth 100000 in
theorem k_K_isScript (l : Launch) (D : va_G) (dA : Nat → ClassId) (base : Nat) (M : mM) (ad : Nat → Nat → Nat) (a : Int32) : mMet l y_K_isScript b_K_isScript 1 (some FieldType.boolean) ({ frames := 0, cells := 0, slots := 0, locals := 0 } : Room) 0 0 D dA base M ad [.int a] (mSame M ad (some (.int (if 0 ≤ a ∧ a < 4 then 1 else 0)))) := by
  refine m_start (lvs := [(0, .int a)]) (by decide) (Nat.le_of_ble_eq_true rfl) rfl ?_
  intro p e s m below meth c ls X hr hlk hin hml hM hl
  refine lv_iload_n X.1 X.2.1 d_K_isScript_0 rfl (lv_at hl 0 rfl) ?_
  refine lv_if_lt (tgt := 13) X.1 X.2.1 d_K_isScript_1 (by decide) (fun hz1 => ?_) (fun hz1 => ?_)
  · skip
    refine lv_iconst (v := 0) X.1 X.2.1 d_K_isScript_13 (by decide) ?_
    exact m_zret X hr hlk hM (by first | rfl | decide) d_K_isScript_14 ⟨Nat.le_of_ble_eq_true rfl, Nat.le_of_ble_eq_true rfl⟩ (mExt_rf _ _) ⟨b0 (by simp only [Int32.lt_iff_toInt_lt, Int32.le_iff_toInt_le, ← Int32.toInt_inj] at hz1 ⊢; omega), rfl, rfl⟩
  · skip
    refine lv_iload_n X.1 X.2.1 d_K_isScript_4 rfl (lv_at hl 0 rfl) ?_
    refine lv_iconst (v := 4) X.1 X.2.1 d_K_isScript_5 (by decide) ?_
    refine lv_icmp_ge (tgt := 13) X.1 X.2.1 d_K_isScript_6 (by decide) (fun hz2 => ?_) (fun hz2 => ?_)
    · skip
      refine lv_iconst (v := 0) X.1 X.2.1 d_K_isScript_13 (by decide) ?_
      exact m_zret X hr hlk hM (by first | rfl | decide) d_K_isScript_14 ⟨Nat.le_of_ble_eq_true rfl, Nat.le_of_ble_eq_true rfl⟩ (mExt_rf _ _) ⟨b0 (by simp only [Int32.lt_iff_toInt_lt, Int32.le_iff_toInt_le, ← Int32.toInt_inj] at hz1 hz2 ⊢; omega), rfl, rfl⟩
    · skip
      refine lv_iconst (v := 1) X.1 X.2.1 d_K_isScript_9 (by decide) ?_
      refine lv_goto (tgt := 14) X.1 X.2.1 d_K_isScript_10 (by decide) ?_
      exact m_zret X hr hlk hM (by first | rfl | decide) d_K_isScript_14 ⟨Nat.le_of_ble_eq_true rfl, Nat.le_of_ble_eq_true rfl⟩ (mExt_rf _ _) ⟨b1 (by simp only [Int32.lt_iff_toInt_lt, Int32.le_iff_toInt_le, ← Int32.toInt_inj] at hz1 hz2 ⊢; omega), rfl, rfl⟩
set_option maxHeartbeats 4000000 in
set_option maxRecDepth 100000 in
theorem k_K_isPath (l : Launch) (D : va_G) (dA : Nat → ClassId) (base : Nat) (M : mM) (ad : Nat → Nat → Nat) (x : Int32) : mMet l y_K_isPath b_K_isPath 3 (some FieldType.boolean) ({ frames := 0, cells := 0, slots := 0, locals := 0 } : Room) 0 0 D dA base M ad [.int x] (mSame M ad (some (.int (if isP x = true then 1 else 0)))) := by
  refine m_start (lvs := [(0, .int x)]) (by decide) (Nat.le_of_ble_eq_true rfl) rfl ?_
  intro p e s m below meth c ls X hr hlk hin hml hM hl
  refine lv_iload_n X.1 X.2.1 d_K_isPath_0 rfl (lv_at hl 0 rfl) ?_
  refine lv_if_lt (tgt := 11) X.1 X.2.1 d_K_isPath_1 (by decide) (fun hz1 => ?_) (fun hz1 => ?_)
  · skip
    refine lv_iconst (v := 0) X.1 X.2.1 d_K_isPath_11 (by decide) ?_
    exact m_zret X hr hlk hM (by first | rfl | decide) d_K_isPath_12 ⟨Nat.le_of_ble_eq_true rfl, Nat.le_of_ble_eq_true rfl⟩ (mExt_rf _ _) ⟨b0 (by unfold isP; rw [if_pos (by first | exact Or.inl hz1 | exact Or.inr (Int32.not_le.mp hz1))]; decide), rfl, rfl⟩
  · skip
    refine lv_iload_n X.1 X.2.1 d_K_isPath_4 rfl (lv_at hl 0 rfl) ?_
    refine lv_ldcw X.1 X.2.1 X.2.2.1 (X.2.2.2.1 _ (gwm (lt1 150 rfl) rfl)) d_K_isPath_5 ?_
    refine lv_icmp_le (tgt := 13) X.1 X.2.1 d_K_isPath_8 (by decide) (fun hz2 => ?_) (fun hz2 => ?_)
    · skip
      refine lv_iload_n X.1 X.2.1 d_K_isPath_13 rfl (lv_at hl 0 rfl) ?_
      refine lv_istore_n (lv' := [(1, .int x), (0, .int x)]) X.1 X.2.1 d_K_isPath_14 rfl hl (by decide) rfl (fun ls hl => ?_)
      refine lv_iconst (v := 0) X.1 X.2.1 d_K_isPath_15 (by decide) ?_
      refine lv_istore_n (lv' := [(2, .int 0), (1, .int x), (0, .int x)]) X.1 X.2.1 d_K_isPath_16 rfl hl (by decide) rfl (fun ls hl => ?_)
      have hP0 : isP x = ptL 4 x := if_neg (by rintro (z | z); exact hz1 z; exact absurd z (Int32.not_lt.mpr hz2))
      rw [hP0]
      refine w_up 4 (fun ls => F0 m 17 ls []) (fun i ls => ∃ r, lv_has ls 3 [(2, .int (nI i)), (1, .int r), (0, .int x)] ∧ ptL (4 - i) r = ptL 4 x) ?_ ?_ 0 ls (by omega) ⟨x, lv_sub hl [0, 1, 2] rfl, rfl⟩
      · rintro ls ⟨r, hl, hI⟩
        refine lv_iload_n X.1 X.2.1 d_K_isPath_17 rfl (lv_at hl 0 rfl) ?_
        refine lv_iconst (v := 4) X.1 X.2.1 d_K_isPath_18 (by decide) ?_
        refine lv_icmp_ge (tgt := 46) X.1 X.2.1 d_K_isPath_19 (by decide) (fun hz1 => ?_) (fun hz1 => absurd (by decide) hz1)
        refine lv_iconst (v := 1) X.1 X.2.1 d_K_isPath_46 (by decide) ?_
        exact m_zret X hr hlk hM (by first | rfl | decide) d_K_isPath_47 ⟨Nat.le_of_ble_eq_true rfl, Nat.le_of_ble_eq_true rfl⟩ (mExt_rf _ _) ⟨b1 (hI.symm.trans rfl), rfl, rfl⟩
      · rintro i hi ih ls ⟨r, hl, hI⟩
        rw [show 4 - i = (4 - (i + 1)) + 1 by omega] at hI
        have hge := nI_ge hi (by decide)
        refine lv_iload_n X.1 X.2.1 d_K_isPath_17 rfl (lv_at hl 0 rfl) ?_
        refine lv_iconst (v := 4) X.1 X.2.1 d_K_isPath_18 (by decide) ?_
        refine lv_icmp_ge (tgt := 46) X.1 X.2.1 d_K_isPath_19 (by decide) (fun hz1 => absurd hz1 hge) (fun hz1 => ?_)
        refine lv_iload_n X.1 X.2.1 d_K_isPath_22 rfl (lv_at hl 1 rfl) ?_
        refine lv_if_le (tgt := 46) X.1 X.2.1 d_K_isPath_23 (by decide) (fun hr0 => ?_) (fun hr0 => ?_)
        · skip
          refine lv_iconst (v := 1) X.1 X.2.1 d_K_isPath_46 (by decide) ?_
          exact m_zret X hr hlk hM (by first | rfl | decide) d_K_isPath_47 ⟨Nat.le_of_ble_eq_true rfl, Nat.le_of_ble_eq_true rfl⟩ (mExt_rf _ _) ⟨b1 (by rw [← hI]; show ite _ _ _ = true; rw [if_neg (Int32.not_lt.mpr hr0)]), rfl, rfl⟩
        · skip
          refine lv_iload_n X.1 X.2.1 d_K_isPath_26 rfl (lv_at hl 1 rfl) ?_
          refine lv_bipush (v := 27) X.1 X.2.1 d_K_isPath_27 (by decide) ?_
          refine lv_irem X.1 X.2.1 d_K_isPath_29 (by decide) ?_
          refine lv_if_ne (tgt := 35) X.1 X.2.1 d_K_isPath_30 (by decide) (fun hq0 => ?_) (fun hq0 => ?_)
          · skip
            refine lv_iload_n X.1 X.2.1 d_K_isPath_35 rfl (lv_at hl 1 rfl) ?_
            refine lv_bipush (v := 27) X.1 X.2.1 d_K_isPath_36 (by decide) ?_
            refine lv_idiv X.1 X.2.1 d_K_isPath_38 (by decide) ?_
            refine lv_istore_n (lv' := [(1, .int (r / 27)), (2, .int (nI i)), (0, .int x)]) X.1 X.2.1 d_K_isPath_39 rfl hl (by decide) rfl (fun ls hl => ?_)
            obtain ⟨xi, e_xi⟩ : ∃ z : Int32, z = (nI i) + 1 := ⟨_, rfl⟩
            refine lv_iinc (v := xi) (lv' := [(2, .int xi), (1, .int (r / 27)), (0, .int x)]) X.1 X.2.1 d_K_isPath_40 hl (k := 1) rfl (by rw [e_xi]; rfl) (by decide) rfl (fun ls hl => ?_)
            refine lv_goto (tgt := 17) X.1 X.2.1 d_K_isPath_43 (by decide) ?_
            have e9 := e_xi.trans (nI_1 i)
            subst e9
            exact ih ls ⟨_, lv_sub hl [0, 1, 2] rfl, by rw [← hI]; show _ = ite _ _ _; rw [if_pos (Int32.not_le.mp hr0), if_neg hq0]⟩
          · skip
            refine lv_iconst (v := 0) X.1 X.2.1 d_K_isPath_33 (by decide) ?_
            exact m_zret X hr hlk hM (by first | rfl | decide) d_K_isPath_34 ⟨Nat.le_of_ble_eq_true rfl, Nat.le_of_ble_eq_true rfl⟩ (mExt_rf _ _) ⟨b0 (by rw [← hI]; show ¬ (ite _ _ _ = true); rw [if_pos (Int32.not_le.mp hr0), if_pos hq0]; decide), rfl, rfl⟩
    · skip
      refine lv_iconst (v := 0) X.1 X.2.1 d_K_isPath_11 (by decide) ?_
      exact m_zret X hr hlk hM (by first | rfl | decide) d_K_isPath_12 ⟨Nat.le_of_ble_eq_true rfl, Nat.le_of_ble_eq_true rfl⟩ (mExt_rf _ _) ⟨b0 (by unfold isP; rw [if_pos (by first | exact Or.inl hz1 | exact Or.inr (Int32.not_le.mp hz2))]; decide), rfl, rfl⟩
end
section
theorem nI8 : nI 8 = 8 := by decide
def inRow (M : mM) (sc : Int32) (j : Nat) : Bool := decide (gi M 4 j 2 = sc ∧ gi M 4 j 5 = 0)
def num (M : mM) (r : Option Nat) : Int32 := match r with
  | none => 0
  | some i => gi M 7 i 0
def nwst (M : mM) (g : Nat) : Option Nat := match gr M 5 g 2 with
  | some i => some i
  | none => match gr M 5 g 3 with
    | some i => some i
    | none => gr M 5 g 4
def rgOf (M : mM) (sc : Int32) : Option Nat := (ff (fun i => decide (gi M 5 (rgx M i) 0 = sc)) (nRg M) 0).map (rgx M)
def rgAct (M : mM) (r : Option Nat) : Option Nat := (ff (fun i => decide (r ≠ none ∧ gr M 5 (rgx M i) 4 = r)) (nRg M) 0).map (rgx M)
def fstR (M : mM) (sc : Int32) : Option Nat := ff (inRow M sc) (gn M 4) 0
def lstR (M : mM) (sc : Int32) : Option Nat := fl (inRow M sc) (gn M 4)
def lenR (M : mM) (sc : Int32) : Nat := cn (inRow M sc) (gn M 4)
def opn (M : mM) : Nat := cn (fun j => decide (gi M 4 j 5 = 0)) (gn M 4)
def thr (M : mM) : Nat := cn (fun i => decide (gi M 2 i 0 ≠ 0)) 8
def ctl (M : mM) (r : Option Nat) : Nat := cn (fun i => decide (r ≠ none ∧ gr M 2 i 2 = r)) 8
def lfc (M : mM) : Nat := (ff (fun i => decide (gi M 2 i 0 = 0)) 8 0).getD 8
theorem cn_s {p : Nat → Bool} {n : Nat} {x : Int32} (h : p n = true) (hx : x = nI (cn p n) + 1) : x = nI (cn p (n + 1)) := by
  rw [hx, nI_1]; show _ = nI (cn p n + ite _ _ _); rw [if_pos h]
theorem cn_n {p : Nat → Bool} {n : Nat} (h : ¬ p n = true) : nI (cn p n) = nI (cn p (n + 1)) := by
  show _ = nI (cn p n + ite _ _ _); rw [if_neg h, Nat.add_zero]
set_option maxHeartbeats 4000000 in
set_option maxRecDepth 100000 in
theorem k_K_begins (l : Launch) (D : va_G) (dA : Nat → ClassId) (base : Nat) (M : mM) (ad : Nat → Nat → Nat) (x y : Int32) : mMet l y_K_begins b_K_begins 5 (some FieldType.boolean) ({ frames := 0, cells := 0, slots := 0, locals := 0 } : Room) 0 0 D dA base M ad [.int x, .int y] (mSame M ad (some (.int (if bgs x y = true then 1 else 0)))) := by
  refine m_start (lvs := [(0, .int x), (1, .int y)]) (by decide) (Nat.le_of_ble_eq_true rfl) rfl ?_
  intro p e s m below meth c ls X hr hlk hin hml hM hl
  refine lv_iload_n X.1 X.2.1 d_K_begins_0 rfl (lv_at hl 0 rfl) ?_
  refine lv_istore_n (lv' := [(2, .int x), (0, .int x), (1, .int y)]) X.1 X.2.1 d_K_begins_1 rfl hl (by decide) rfl (fun ls hl => ?_)
  refine lv_iload_n X.1 X.2.1 d_K_begins_2 rfl (lv_at hl 2 rfl) ?_
  refine lv_istore_n (lv' := [(3, .int y), (2, .int x), (0, .int x), (1, .int y)]) X.1 X.2.1 d_K_begins_3 rfl hl (by decide) rfl (fun ls hl => ?_)
  refine lv_iconst (v := 0) X.1 X.2.1 d_K_begins_4 (by decide) ?_
  refine lv_istore (lv' := [(4, .int 0), (3, .int y), (2, .int x), (0, .int x), (1, .int y)]) X.1 X.2.1 d_K_begins_5 hl (by decide) rfl (fun ls hl => ?_)
  refine w_up 4 (fun ls => F0 m 7 ls []) (fun i ls => ∃ r q, lv_has ls 5 [(4, .int (nI i)), (3, .int q), (2, .int r), (0, .int x), (1, .int y)] ∧ bgL (4 - i) r q = bgL 4 x y) ?_ ?_ 0 ls (by omega) ⟨x, y, lv_sub hl [0, 1, 2, 3, 4] rfl, rfl⟩
  · rintro ls ⟨r, q, hl, hI⟩
    refine lv_iload X.1 X.2.1 d_K_begins_7 (lv_at hl 0 rfl) ?_
    refine lv_iconst (v := 4) X.1 X.2.1 d_K_begins_9 (by decide) ?_
    refine lv_icmp_ge (tgt := 46) X.1 X.2.1 d_K_begins_10 (by decide) (fun hz1 => ?_) (fun hz1 => absurd (by decide) hz1)
    refine lv_iconst (v := 1) X.1 X.2.1 d_K_begins_46 (by decide) ?_
    exact m_zret X hr hlk hM (by first | rfl | decide) d_K_begins_47 ⟨Nat.le_of_ble_eq_true rfl, Nat.le_of_ble_eq_true rfl⟩ (mExt_rf _ _) ⟨b1 (hI.symm.trans rfl), rfl, rfl⟩
  · rintro i hi ih ls ⟨r, q, hl, hI⟩
    rw [show 4 - i = (4 - (i + 1)) + 1 by omega] at hI
    have hge := nI_ge hi (by decide)
    refine lv_iload X.1 X.2.1 d_K_begins_7 (lv_at hl 0 rfl) ?_
    refine lv_iconst (v := 4) X.1 X.2.1 d_K_begins_9 (by decide) ?_
    refine lv_icmp_ge (tgt := 46) X.1 X.2.1 d_K_begins_10 (by decide) (fun hz1 => absurd hz1 hge) (fun hz1 => ?_)
    refine lv_iload_n X.1 X.2.1 d_K_begins_13 rfl (lv_at hl 2 rfl) ?_
    refine lv_if_le (tgt := 46) X.1 X.2.1 d_K_begins_14 (by decide) (fun hr0 => ?_) (fun hr0 => ?_)
    · skip
      refine lv_iconst (v := 1) X.1 X.2.1 d_K_begins_46 (by decide) ?_
      exact m_zret X hr hlk hM (by first | rfl | decide) d_K_begins_47 ⟨Nat.le_of_ble_eq_true rfl, Nat.le_of_ble_eq_true rfl⟩ (mExt_rf _ _) ⟨b1 (by unfold bgs; rw [← hI]; show ite _ _ _ = true; rw [if_neg (Int32.not_lt.mpr hr0)]), rfl, rfl⟩
    · skip
      refine lv_iload_n X.1 X.2.1 d_K_begins_17 rfl (lv_at hl 2 rfl) ?_
      refine lv_bipush (v := 27) X.1 X.2.1 d_K_begins_18 (by decide) ?_
      refine lv_irem X.1 X.2.1 d_K_begins_20 (by decide) ?_
      refine lv_iload_n X.1 X.2.1 d_K_begins_21 rfl (lv_at hl 1 rfl) ?_
      refine lv_bipush (v := 27) X.1 X.2.1 d_K_begins_22 (by decide) ?_
      refine lv_irem X.1 X.2.1 d_K_begins_24 (by decide) ?_
      refine lv_icmp_eq (tgt := 30) X.1 X.2.1 d_K_begins_25 (by decide) (fun hq0 => ?_) (fun hq0 => ?_)
      · skip
        refine lv_iload_n X.1 X.2.1 d_K_begins_30 rfl (lv_at hl 2 rfl) ?_
        refine lv_bipush (v := 27) X.1 X.2.1 d_K_begins_31 (by decide) ?_
        refine lv_idiv X.1 X.2.1 d_K_begins_33 (by decide) ?_
        refine lv_istore_n (lv' := [(2, .int (r / 27)), (4, .int (nI i)), (3, .int q), (0, .int x), (1, .int y)]) X.1 X.2.1 d_K_begins_34 rfl hl (by decide) rfl (fun ls hl => ?_)
        refine lv_iload_n X.1 X.2.1 d_K_begins_35 rfl (lv_at hl 2 rfl) ?_
        refine lv_bipush (v := 27) X.1 X.2.1 d_K_begins_36 (by decide) ?_
        refine lv_idiv X.1 X.2.1 d_K_begins_38 (by decide) ?_
        refine lv_istore_n (lv' := [(3, .int (q / 27)), (2, .int (r / 27)), (4, .int (nI i)), (0, .int x), (1, .int y)]) X.1 X.2.1 d_K_begins_39 rfl hl (by decide) rfl (fun ls hl => ?_)
        obtain ⟨xi, e_xi⟩ : ∃ z : Int32, z = (nI i) + 1 := ⟨_, rfl⟩
        refine lv_iinc (v := xi) (lv' := [(4, .int xi), (3, .int (q / 27)), (2, .int (r / 27)), (0, .int x), (1, .int y)]) X.1 X.2.1 d_K_begins_40 hl (k := 2) rfl (by rw [e_xi]; rfl) (by decide) rfl (fun ls hl => ?_)
        refine lv_goto (tgt := 7) X.1 X.2.1 d_K_begins_43 (by decide) ?_
        have e9 := e_xi.trans (nI_1 i)
        subst e9
        exact ih ls ⟨_, _, lv_sub hl [0, 1, 2, 3, 4] rfl, by rw [← hI]; show _ = ite _ _ _; rw [if_pos (Int32.not_le.mp hr0), if_pos hq0]⟩
      · skip
        refine lv_iconst (v := 0) X.1 X.2.1 d_K_begins_28 (by decide) ?_
        exact m_zret X hr hlk hM (by first | rfl | decide) d_K_begins_29 ⟨Nat.le_of_ble_eq_true rfl, Nat.le_of_ble_eq_true rfl⟩ (mExt_rf _ _) ⟨b0 (by unfold bgs; rw [← hI]; show ¬ (ite _ _ _ = true); rw [if_pos (Int32.not_le.mp hr0), if_neg hq0]; decide), rfl, rfl⟩
set_option maxHeartbeats 4000000 in
set_option maxRecDepth 100000 in
theorem k_K_isInRow (l : Launch) (D : va_G) (dA : Nat → ClassId) (base : Nat) (M : mM) (ad : Nat → Nat → Nat) (j : Nat) (sc : Int32) (hj : j < gn M 4) : mMet l y_K_isInRow b_K_isInRow 2 (some FieldType.boolean) ({ frames := 0, cells := 0, slots := 0, locals := 0 } : Room) 0 0 D dA base M ad [.ref (ad 4 j), .int sc] (mSame M ad (some (.int (if inRow M sc j = true then 1 else 0)))) := by
  refine m_start (lvs := [(0, .ref (ad 4 j)), (1, .int sc)]) (by decide) (Nat.le_of_ble_eq_true rfl) rfl ?_
  intro p e s m below meth c ls X hr hlk hin hml hM hl
  refine lv_aload_n X.1 X.2.1 d_K_isInRow_0 rfl (lv_at hl 0 rfl) ?_
  refine r_geti X hM rfl hj f_K_296 rfl d_K_isInRow_1 ?_
  refine lv_iload_n X.1 X.2.1 d_K_isInRow_4 rfl (lv_at hl 1 rfl) ?_
  refine lv_icmp_ne (tgt := 19) X.1 X.2.1 d_K_isInRow_5 (by decide) (fun hz1 => ?_) (fun hz1 => ?_)
  · skip
    refine lv_iconst (v := 0) X.1 X.2.1 d_K_isInRow_19 (by decide) ?_
    exact m_zret X hr hlk hM (by first | rfl | decide) d_K_isInRow_20 ⟨Nat.le_of_ble_eq_true rfl, Nat.le_of_ble_eq_true rfl⟩ (mExt_rf _ _) ⟨b0 (by unfold inRow; intro z; have z := of_decide_eq_true z; exact hz1 z.1), rfl, rfl⟩
  · skip
    refine lv_aload_n X.1 X.2.1 d_K_isInRow_8 rfl (lv_at hl 0 rfl) ?_
    refine r_geti X hM rfl hj f_K_147 rfl d_K_isInRow_9 ?_
    refine lv_if_ne (tgt := 19) X.1 X.2.1 d_K_isInRow_12 (by decide) (fun hz2 => ?_) (fun hz2 => ?_)
    · skip
      refine lv_iconst (v := 0) X.1 X.2.1 d_K_isInRow_19 (by decide) ?_
      exact m_zret X hr hlk hM (by first | rfl | decide) d_K_isInRow_20 ⟨Nat.le_of_ble_eq_true rfl, Nat.le_of_ble_eq_true rfl⟩ (mExt_rf _ _) ⟨b0 (by unfold inRow; intro z; have z := of_decide_eq_true z; exact hz2 z.2), rfl, rfl⟩
    · skip
      refine lv_iconst (v := 1) X.1 X.2.1 d_K_isInRow_15 (by decide) ?_
      refine lv_goto (tgt := 20) X.1 X.2.1 d_K_isInRow_16 (by decide) ?_
      exact m_zret X hr hlk hM (by first | rfl | decide) d_K_isInRow_20 ⟨Nat.le_of_ble_eq_true rfl, Nat.le_of_ble_eq_true rfl⟩ (mExt_rf _ _) ⟨b1 (by unfold inRow; exact decide_eq_true ⟨hz1, hz2⟩), rfl, rfl⟩
set_option maxHeartbeats 4000000 in
set_option maxRecDepth 100000 in
theorem k_K_numberOf (l : Launch) (D : va_G) (dA : Nat → ClassId) (base : Nat) (M : mM) (ad : Nat → Nat → Nat) (r : Option Nat) (hr0 : ∀ q, r = some q → q < gn M 7) : mMet l y_K_numberOf b_K_numberOf 1 (some FieldType.int) ({ frames := 0, cells := 0, slots := 0, locals := 0 } : Room) 0 0 D dA base M ad [rfv ad 7 r] (mSame M ad (some (.int (num M r)))) := by
  refine m_start (lvs := [(0, rfv ad 7 (r))]) (by decide) (by cases r <;> exact Nat.le_of_ble_eq_true rfl) (by cases r <;> rfl) ?_
  intro p e s m below meth c ls X hr hlk hin hml hM hl
  refine r_aload_n X.1 X.2.1 d_K_numberOf_0 rfl (lv_at hl 0 rfl) ?_
  refine r_ifnonnull (tgt := 8) X.1 X.2.1 d_K_numberOf_1 (by decide) (fun i hq => ?_) (fun hq => ?_)
  · skip
    rw [hq] at hl
    have hl : lv_has ls 1 [(0, .ref (ad 7 i))] := hl
    refine lv_aload_n X.1 X.2.1 d_K_numberOf_8 rfl (lv_at hl 0 rfl) ?_
    refine r_geti X hM rfl (hr0 i hq) f_K_211 rfl d_K_numberOf_9 ?_
    exact m_iret X hr hlk hM d_K_numberOf_12 ⟨Nat.le_of_ble_eq_true rfl, Nat.le_of_ble_eq_true rfl⟩ (mExt_rf _ _) ⟨by rw [hq]; rfl, rfl, rfl⟩
  · skip
    rw [hq] at hl
    have hl : lv_has ls 1 [(0, .null)] := hl
    refine lv_iconst (v := 0) X.1 X.2.1 d_K_numberOf_4 (by decide) ?_
    refine lv_goto (tgt := 12) X.1 X.2.1 d_K_numberOf_5 (by decide) ?_
    exact m_iret X hr hlk hM d_K_numberOf_12 ⟨Nat.le_of_ble_eq_true rfl, Nat.le_of_ble_eq_true rfl⟩ (mExt_rf _ _) ⟨by rw [hq]; rfl, rfl, rfl⟩
set_option maxHeartbeats 4000000 in
set_option maxRecDepth 100000 in
theorem k_Rg_newest (l : Launch) (D : va_G) (dA : Nat → ClassId) (base : Nat) (M : mM) (ad : Nat → Nat → Nat) (g : Nat) (hg : g < gn M 5) : mMet l y_Rg_newest b_Rg_newest 1 (some (FieldType.object "ScopeKeeper$Worker")) ({ frames := 0, cells := 0, slots := 0, locals := 0 } : Room) 0 0 D dA base M ad [.ref (ad 5 g)] (mSame M ad (some (rfv ad 7 (nwst M g)))) := by
  refine m_start (lvs := [(0, .ref (ad 5 g))]) (by decide) (Nat.le_of_ble_eq_true rfl) rfl ?_
  intro p e s m below meth c ls X hr hlk hin hml hM hl
  refine lv_aload_n X.1 X.2.1 d_Rg_newest_0 rfl (lv_at hl 0 rfl) ?_
  refine r_getr X hM rfl hg f_Rg_13 rfl d_Rg_newest_1 (fun hv1 => ?_)
  refine r_ifnull (tgt := 12) X.1 X.2.1 d_Rg_newest_4 (by decide) (fun ha => ?_) (fun ia ha => ?_)
  · skip
    refine lv_aload_n X.1 X.2.1 d_Rg_newest_12 rfl (lv_at hl 0 rfl) ?_
    refine r_getr X hM rfl hg f_Rg_17 rfl d_Rg_newest_13 (fun hv2 => ?_)
    refine r_ifnull (tgt := 26) X.1 X.2.1 d_Rg_newest_16 (by decide) (fun hb => ?_) (fun ib hb => ?_)
    · skip
      refine lv_aload_n X.1 X.2.1 d_Rg_newest_26 rfl (lv_at hl 0 rfl) ?_
      refine r_getr X hM rfl hg f_Rg_20 rfl d_Rg_newest_27 (fun hv3 => ?_)
      exact m_aret X hr hlk hM (by first | rfl | exact rfv_isRef _ _ _) d_Rg_newest_30 ⟨Nat.le_of_ble_eq_true rfl, Nat.le_of_ble_eq_true rfl⟩ (mExt_rf _ _) ⟨by unfold nwst; simp only [ha, hb]; try rfl, rfl, rfl⟩
    · skip
      refine lv_aload_n X.1 X.2.1 d_Rg_newest_19 rfl (lv_at hl 0 rfl) ?_
      refine r_gets (q := ib) X hM rfl hg f_Rg_17 rfl hb d_Rg_newest_20 (fun hv4 => ?_)
      refine lv_goto (tgt := 30) X.1 X.2.1 d_Rg_newest_23 (by decide) ?_
      exact m_aret X hr hlk hM (by first | rfl | exact rfv_isRef _ _ _) d_Rg_newest_30 ⟨Nat.le_of_ble_eq_true rfl, Nat.le_of_ble_eq_true rfl⟩ (mExt_rf _ _) ⟨by unfold nwst; simp only [ha, hb]; try rfl, rfl, rfl⟩
  · skip
    refine lv_aload_n X.1 X.2.1 d_Rg_newest_7 rfl (lv_at hl 0 rfl) ?_
    refine r_gets (q := ia) X hM rfl hg f_Rg_13 rfl ha d_Rg_newest_8 (fun hv5 => ?_)
    exact m_aret X hr hlk hM (by first | rfl | exact rfv_isRef _ _ _) d_Rg_newest_11 ⟨Nat.le_of_ble_eq_true rfl, Nat.le_of_ble_eq_true rfl⟩ (mExt_rf _ _) ⟨by unfold nwst; rw [ha]; rfl, rfl, rfl⟩
set_option maxHeartbeats 4000000 in
set_option maxRecDepth 100000 in
theorem k_K_registrationOf (l : Launch) (D : va_G) (dA : Nat → ClassId) (base : Nat) (M : mM) (ad : Nat → Nat → Nat) (hw : wK M) (sc : Int32) : mMet l y_K_registrationOf b_K_registrationOf 3 (some (FieldType.object "ScopeKeeper$Registration")) ({ frames := 0, cells := 0, slots := 0, locals := 0 } : Room) 0 0 D dA base M ad [.ref (ad 0 0), .int sc] (mSame M ad (some (rfv ad 5 (rgOf M sc)))) := by
  refine m_start (lvs := [(0, .ref (ad 0 0)), (1, .int sc)]) (by decide) (Nat.le_of_ble_eq_true rfl) rfl ?_
  intro p e s m below meth c ls X hr hlk hin hml hM hl
  refine lv_iconst (v := 0) X.1 X.2.1 d_K_registrationOf_0 (by decide) ?_
  refine lv_istore_n (lv' := [(2, .int 0), (0, .ref (ad 0 0)), (1, .int sc)]) X.1 X.2.1 d_K_registrationOf_1 rfl hl (by decide) rfl (fun ls hl => ?_)
  have hN := w_nrl hw
  refine w_upW (nRg M) (fun ls => F0 m 2 ls []) (fun i H L ls => mSt D dA base M ad s.heap H L ∧ lv_has ls 3 [(2, .int (nI i)), (0, .ref (ad 0 0)), (1, .int sc)] ∧ ff (fun i => decide (gi M 5 (rgx M i) 0 = sc)) (nRg M - i) i = ff (fun i => decide (gi M 5 (rgx M i) 0 = sc)) (nRg M) 0) ?_ ?_ 0 _ _ ls (by omega) ⟨hM, lv_sub hl [0, 1, 2] rfl, by rw [Nat.sub_zero]⟩
  · rintro H locs ls ⟨hM, hl, hI⟩
    rw [Nat.sub_self] at hI
    refine lv_iload_n X.1 X.2.1 d_K_registrationOf_2 rfl (lv_at hl 0 rfl) ?_
    refine lv_aload_n X.1 X.2.1 d_K_registrationOf_3 rfl (lv_at hl 1 rfl) ?_
    refine r_geti X hM rfl (w_k hw) f_K_38 rfl d_K_registrationOf_4 ?_
    refine lv_icmp_ge (tgt := 36) X.1 X.2.1 d_K_registrationOf_7 (by decide) (fun hz1 => ?_) (fun hz1 => absurd (by rw [w_nr hw]; exact Int32.le_refl _) hz1)
    refine lv_null X.1 X.2.1 d_K_registrationOf_36 ?_
    exact m_aret X hr hlk hM (by first | rfl | exact rfv_isRef _ _ _) d_K_registrationOf_37 ⟨Nat.le_of_ble_eq_true rfl, Nat.le_of_ble_eq_true rfl⟩ (mExt_rf _ _) ⟨by unfold rgOf; rw [← hI]; rfl, rfl, rfl⟩
  · rintro i hi ih H locs ls ⟨hM, hl, hI⟩
    rw [show nRg M - i = (nRg M - (i + 1)) + 1 by omega] at hI
    have hge : ¬ gi M 0 0 6 ≤ nI i := by rw [w_nr hw]; exact nI_ge hi (by omega)
    refine lv_iload_n X.1 X.2.1 d_K_registrationOf_2 rfl (lv_at hl 0 rfl) ?_
    refine lv_aload_n X.1 X.2.1 d_K_registrationOf_3 rfl (lv_at hl 1 rfl) ?_
    refine r_geti X hM rfl (w_k hw) f_K_38 rfl d_K_registrationOf_4 ?_
    refine lv_icmp_ge (tgt := 36) X.1 X.2.1 d_K_registrationOf_7 (by decide) (fun hz1 => absurd hz1 hge) (fun hz1 => ?_)
    refine lv_aload_n X.1 X.2.1 d_K_registrationOf_10 rfl (lv_at hl 1 rfl) ?_
    refine r_gets (q := 0) X hM rfl (w_k hw) f_K_34 rfl (w_0_5 hw) d_K_registrationOf_11 (fun hv2 => ?_)
    refine lv_iload_n X.1 X.2.1 d_K_registrationOf_14 rfl (lv_at hl 0 rfl) ?_
    refine r_aalds (q := (rgx M i)) X hM rfl hv2 a_regs (fun _ => rfl) (j := i) rfl (by omega) (w_rg hw hi) d_K_registrationOf_15 (fun hv3 => ?_)
    refine r_geti X hM rfl hv3 f_K_272 rfl d_K_registrationOf_16 ?_
    refine lv_iload_n X.1 X.2.1 d_K_registrationOf_19 rfl (lv_at hl 2 rfl) ?_
    refine lv_icmp_ne (tgt := 30) X.1 X.2.1 d_K_registrationOf_20 (by decide) (fun hq0 => ?_) (fun hq0 => ?_)
    · skip
      obtain ⟨xi, e_xi⟩ : ∃ z : Int32, z = (nI i) + 1 := ⟨_, rfl⟩
      refine lv_iinc (v := xi) (lv' := [(2, .int xi), (0, .ref (ad 0 0)), (1, .int sc)]) X.1 X.2.1 d_K_registrationOf_30 hl (k := 0) rfl (by rw [e_xi]; rfl) (by decide) rfl (fun ls hl => ?_)
      refine lv_goto (tgt := 2) X.1 X.2.1 d_K_registrationOf_33 (by decide) ?_
      have e9 := e_xi.trans (nI_1 i)
      subst e9
      exact ih _ _ ls ⟨hM, lv_sub hl [0, 1, 2] rfl, by rw [← hI]; exact (ff_f (by simpa using hq0)).symm⟩
    · skip
      refine lv_aload_n X.1 X.2.1 d_K_registrationOf_23 rfl (lv_at hl 1 rfl) ?_
      refine r_gets (q := 0) X hM rfl (w_k hw) f_K_34 rfl (w_0_5 hw) d_K_registrationOf_24 (fun hv4 => ?_)
      refine lv_iload_n X.1 X.2.1 d_K_registrationOf_27 rfl (lv_at hl 0 rfl) ?_
      refine r_aalds (q := (rgx M i)) X hM rfl hv4 a_regs (fun _ => rfl) (j := i) rfl (by omega) (w_rg hw hi) d_K_registrationOf_28 (fun hv5 => ?_)
      exact m_aret X hr hlk hM (by first | rfl | exact rfv_isRef _ _ _) d_K_registrationOf_29 ⟨Nat.le_of_ble_eq_true rfl, Nat.le_of_ble_eq_true rfl⟩ (mExt_rf _ _) ⟨by unfold rgOf; rw [← hI, ff_t (by simpa using hq0)]; rfl, rfl, rfl⟩
end
section
theorem be0 {c : Prop} [Decidable c] (h : (if c then (1 : Int32) else 0) = 0) : ¬ c := fun z => by rw [if_pos z] at h; exact absurd h (by decide)
theorem bn0 {c : Prop} [Decidable c] (h : ¬ (if c then (1 : Int32) else 0) = 0) : c := Classical.byContradiction fun z => h (if_neg z)
theorem fl_t {p : Nat → Bool} {n : Nat} (h : p n = true) : fl p (n + 1) = some n := if_pos h
theorem fl_f {p : Nat → Bool} {n : Nat} (h : ¬ p n = true) : fl p (n + 1) = fl p n := if_neg h
set_option maxHeartbeats 4000000 in
set_option maxRecDepth 100000 in
theorem k_K_firstOfRow (l : Launch) (D : va_G) (dA : Nat → ClassId) (base : Nat) (M : mM) (ad : Nat → Nat → Nat) (hw : wK M) (sc : Int32) : mMet l y_K_firstOfRow b_K_firstOfRow 3 (some (FieldType.object "ScopeKeeper$Job")) ({ frames := 1, cells := 0, slots := 0, locals := 40 } : Room) 0 0 D dA base M ad [.ref (ad 0 0), .int sc] (mSame M ad (some (rfv ad 4 (fstR M sc)))) := by
  refine m_start (lvs := [(0, .ref (ad 0 0)), (1, .int sc)]) (by decide) (Nat.le_of_ble_eq_true rfl) rfl ?_
  intro p e s m below meth c ls X hr hlk hin hml hM hl
  refine lv_iconst (v := 0) X.1 X.2.1 d_K_firstOfRow_0 (by decide) ?_
  refine lv_istore_n (lv' := [(2, .int 0), (0, .ref (ad 0 0)), (1, .int sc)]) X.1 X.2.1 d_K_firstOfRow_1 rfl hl (by decide) rfl (fun ls hl => ?_)
  have hN := w_njl hw
  refine w_upW (gn M 4) (fun ls => F0 m 2 ls []) (fun i H L ls => mSt D dA base M ad s.heap H L ∧ lv_has ls 3 [(2, .int (nI i)), (0, .ref (ad 0 0)), (1, .int sc)] ∧ ff (inRow M sc) (gn M 4 - i) i = ff (inRow M sc) (gn M 4) 0) ?_ ?_ 0 _ _ ls (by omega) ⟨hM, lv_sub hl [0, 1, 2] rfl, by rw [Nat.sub_zero]⟩
  · rintro H locs ls ⟨hM, hl, hI⟩
    rw [Nat.sub_self] at hI
    refine lv_iload_n X.1 X.2.1 d_K_firstOfRow_2 rfl (lv_at hl 0 rfl) ?_
    refine lv_aload_n X.1 X.2.1 d_K_firstOfRow_3 rfl (lv_at hl 1 rfl) ?_
    refine r_geti X hM rfl (w_k hw) f_K_56 rfl d_K_firstOfRow_4 ?_
    refine lv_icmp_ge (tgt := 36) X.1 X.2.1 d_K_firstOfRow_7 (by decide) (fun hz51 => ?_) (fun hz51 => absurd (by rw [w_nj hw]; exact Int32.le_refl _) hz51)
    refine lv_null X.1 X.2.1 d_K_firstOfRow_36 ?_
    exact m_aret X hr hlk hM (by first | rfl | exact rfv_isRef _ _ _) d_K_firstOfRow_37 ⟨Nat.le_of_ble_eq_true rfl, Nat.le_of_ble_eq_true rfl⟩ (mExt_rf _ _) ⟨by unfold fstR; rw [← hI]; rfl, rfl, rfl⟩
  · rintro i hi ih H locs ls ⟨hM, hl, hI⟩
    rw [show gn M 4 - i = (gn M 4 - (i + 1)) + 1 by omega] at hI
    have hge : ¬ gi M 0 0 10 ≤ nI i := by rw [w_nj hw]; exact nI_ge hi (by omega)
    refine lv_iload_n X.1 X.2.1 d_K_firstOfRow_2 rfl (lv_at hl 0 rfl) ?_
    refine lv_aload_n X.1 X.2.1 d_K_firstOfRow_3 rfl (lv_at hl 1 rfl) ?_
    refine r_geti X hM rfl (w_k hw) f_K_56 rfl d_K_firstOfRow_4 ?_
    refine lv_icmp_ge (tgt := 36) X.1 X.2.1 d_K_firstOfRow_7 (by decide) (fun hz51 => absurd hz51 hge) (fun hz51 => ?_)
    refine lv_aload_n X.1 X.2.1 d_K_firstOfRow_10 rfl (lv_at hl 1 rfl) ?_
    refine r_gets (q := 0) X hM rfl (w_k hw) f_K_52 rfl (w_0_9 hw) d_K_firstOfRow_11 (fun hv52 => ?_)
    refine lv_iload_n X.1 X.2.1 d_K_firstOfRow_14 rfl (lv_at hl 0 rfl) ?_
    refine r_aalds (q := i) X hM rfl hv52 a_jobs (fun _ => rfl) (j := i) rfl (by omega) (w_jb hw hi) d_K_firstOfRow_15 (fun hv53 => ?_)
    refine lv_iload_n X.1 X.2.1 d_K_firstOfRow_16 rfl (lv_at hl 2 rfl) ?_
    refine r_cS (As := [.ref (ad 4 i), .int sc]) (rest := []) X hml hl.1 hM (k_K_isInRow l D dA base M ad i sc hv53) c_K_297 v_K_isInRow rfl (Nat.le_of_ble_eq_true rfl) ⟨rfl, rfl, Nat.le_of_ble_eq_true rfl, Nat.le_of_ble_eq_true rfl⟩ ⟨Nat.le_of_ble_eq_true rfl, Nat.le_of_ble_eq_true rfl⟩ d_K_firstOfRow_17 ?_
    intro rv M1 ad1 H locs hP hM hE
    obtain ⟨e1, e2, e3⟩ := hP
    subst rv; subst M1; subst ad1
    show W _ _ _ _ _ _ _ _ _ _ _ _ _ _ _ (F0 m 20 ls [.int (if inRow M sc i = true then 1 else 0)])
    refine lv_if_eq (tgt := 30) X.1 X.2.1 d_K_firstOfRow_20 (by decide) (fun hq0 => ?_) (fun hq0 => ?_)
    · skip
      obtain ⟨xi, e_xi⟩ : ∃ z : Int32, z = (nI i) + 1 := ⟨_, rfl⟩
      refine lv_iinc (v := xi) (lv' := [(2, .int xi), (0, .ref (ad 0 0)), (1, .int sc)]) X.1 X.2.1 d_K_firstOfRow_30 hl (k := 0) rfl (by rw [e_xi]; rfl) (by decide) rfl (fun ls hl => ?_)
      refine lv_goto (tgt := 2) X.1 X.2.1 d_K_firstOfRow_33 (by decide) ?_
      have e9 := e_xi.trans (nI_1 i)
      subst e9
      exact ih _ _ ls ⟨hM, lv_sub hl [0, 1, 2] rfl, by rw [← hI]; exact (ff_f (be0 hq0)).symm⟩
    · skip
      refine lv_aload_n X.1 X.2.1 d_K_firstOfRow_23 rfl (lv_at hl 1 rfl) ?_
      refine r_gets (q := 0) X hM rfl (w_k hw) f_K_52 rfl (w_0_9 hw) d_K_firstOfRow_24 (fun hv55 => ?_)
      refine lv_iload_n X.1 X.2.1 d_K_firstOfRow_27 rfl (lv_at hl 0 rfl) ?_
      refine r_aalds (q := i) X hM rfl hv55 a_jobs (fun _ => rfl) (j := i) rfl (by omega) (w_jb hw hi) d_K_firstOfRow_28 (fun hv56 => ?_)
      exact m_aret X hr hlk hM (by first | rfl | exact rfv_isRef _ _ _) d_K_firstOfRow_29 ⟨Nat.le_of_ble_eq_true rfl, Nat.le_of_ble_eq_true rfl⟩ (mExt_rf _ _) ⟨by unfold fstR; rw [← hI, ff_t (bn0 hq0)]; rfl, rfl, rfl⟩
set_option maxHeartbeats 4000000 in
set_option maxRecDepth 100000 in
theorem k_K_lastOfRow (l : Launch) (D : va_G) (dA : Nat → ClassId) (base : Nat) (M : mM) (ad : Nat → Nat → Nat) (hw : wK M) (sc : Int32) : mMet l y_K_lastOfRow b_K_lastOfRow 3 (some (FieldType.object "ScopeKeeper$Job")) ({ frames := 1, cells := 0, slots := 0, locals := 40 } : Room) 0 0 D dA base M ad [.ref (ad 0 0), .int sc] (mSame M ad (some (rfv ad 4 (lstR M sc)))) := by
  refine m_start (lvs := [(0, .ref (ad 0 0)), (1, .int sc)]) (by decide) (Nat.le_of_ble_eq_true rfl) rfl ?_
  intro p e s m below meth c ls X hr hlk hin hml hM hl
  refine lv_aload_n X.1 X.2.1 d_K_lastOfRow_0 rfl (lv_at hl 0 rfl) ?_
  refine r_geti X hM rfl (w_k hw) f_K_56 rfl d_K_lastOfRow_1 ?_
  refine lv_iconst (v := 1) X.1 X.2.1 d_K_lastOfRow_4 (by decide) ?_
  refine lv_isub X.1 X.2.1 d_K_lastOfRow_5 ?_
  refine lv_istore_n (lv' := [(2, .int ((gi M 0 0 10) - (1))), (0, .ref (ad 0 0)), (1, .int sc)]) X.1 X.2.1 d_K_lastOfRow_6 rfl hl (by decide) rfl (fun ls hl => ?_)
  have hN := w_njl hw
  refine w_downW (fun ls => F0 m 7 ls []) (fun n H L ls => mSt D dA base M ad s.heap H L ∧ lv_has ls 3 [(2, .int (nI n - 1)), (0, .ref (ad 0 0)), (1, .int sc)] ∧ n ≤ gn M 4 ∧ fl (inRow M sc) n = fl (inRow M sc) (gn M 4)) ?_ ?_ (gn M 4) _ _ ls ⟨hM, by have hl := lv_sub hl [0, 1, 2] rfl; rw [w_nj hw] at hl; exact hl, Nat.le_refl _, rfl⟩
  · rintro H locs ls ⟨hM, hl, hn, hI⟩
    refine lv_iload_n X.1 X.2.1 d_K_lastOfRow_7 rfl (lv_at hl 0 rfl) ?_
    refine lv_if_lt (tgt := 37) X.1 X.2.1 d_K_lastOfRow_8 (by decide) (fun hz51 => ?_) (fun hz51 => absurd (by decide) hz51)
    refine lv_null X.1 X.2.1 d_K_lastOfRow_37 ?_
    exact m_aret X hr hlk hM (by first | rfl | exact rfv_isRef _ _ _) d_K_lastOfRow_38 ⟨Nat.le_of_ble_eq_true rfl, Nat.le_of_ble_eq_true rfl⟩ (mExt_rf _ _) ⟨by unfold lstR; rw [← hI]; rfl, rfl, rfl⟩
  · rintro i ih H locs ls ⟨hM, hl, hn, hI⟩
    rw [nI_pred] at hl
    have hi : i < gn M 4 := by omega
    refine lv_iload_n X.1 X.2.1 d_K_lastOfRow_7 rfl (lv_at hl 0 rfl) ?_
    refine lv_if_lt (tgt := 37) X.1 X.2.1 d_K_lastOfRow_8 (by decide) (fun hz51 => absurd hz51 (nI_pos (by omega))) (fun hz51 => ?_)
    refine lv_aload_n X.1 X.2.1 d_K_lastOfRow_11 rfl (lv_at hl 1 rfl) ?_
    refine r_gets (q := 0) X hM rfl (w_k hw) f_K_52 rfl (w_0_9 hw) d_K_lastOfRow_12 (fun hv52 => ?_)
    refine lv_iload_n X.1 X.2.1 d_K_lastOfRow_15 rfl (lv_at hl 0 rfl) ?_
    refine r_aalds (q := i) X hM rfl hv52 a_jobs (fun _ => rfl) (j := i) rfl (by omega) (w_jb hw hi) d_K_lastOfRow_16 (fun hv53 => ?_)
    refine lv_iload_n X.1 X.2.1 d_K_lastOfRow_17 rfl (lv_at hl 2 rfl) ?_
    refine r_cS (As := [.ref (ad 4 i), .int sc]) (rest := []) X hml hl.1 hM (k_K_isInRow l D dA base M ad i sc hv53) c_K_297 v_K_isInRow rfl (Nat.le_of_ble_eq_true rfl) ⟨rfl, rfl, Nat.le_of_ble_eq_true rfl, Nat.le_of_ble_eq_true rfl⟩ ⟨Nat.le_of_ble_eq_true rfl, Nat.le_of_ble_eq_true rfl⟩ d_K_lastOfRow_18 ?_
    intro rv M1 ad1 H locs hP hM hE
    obtain ⟨e1, e2, e3⟩ := hP
    subst rv; subst M1; subst ad1
    show W _ _ _ _ _ _ _ _ _ _ _ _ _ _ _ (F0 m 21 ls [.int (if inRow M sc i = true then 1 else 0)])
    refine lv_if_eq (tgt := 31) X.1 X.2.1 d_K_lastOfRow_21 (by decide) (fun hq0 => ?_) (fun hq0 => ?_)
    · skip
      obtain ⟨xi, e_xi⟩ : ∃ z : Int32, z = (nI i) + (-1) := ⟨_, rfl⟩
      refine lv_iinc (v := xi) (lv' := [(2, .int xi), (0, .ref (ad 0 0)), (1, .int sc)]) X.1 X.2.1 d_K_lastOfRow_31 hl (k := 0) rfl (by rw [e_xi]; rfl) (by decide) rfl (fun ls hl => ?_)
      refine lv_goto (tgt := 7) X.1 X.2.1 d_K_lastOfRow_34 (by decide) ?_
      have e9 : xi = nI i - 1 := e_xi.trans (by rw [Int32.sub_eq_add_neg])
      subst e9
      exact ih _ _ ls ⟨hM, lv_sub hl [0, 1, 2] rfl, by omega, by rw [← hI]; exact (fl_f (be0 hq0)).symm⟩
    · skip
      refine lv_aload_n X.1 X.2.1 d_K_lastOfRow_24 rfl (lv_at hl 1 rfl) ?_
      refine r_gets (q := 0) X hM rfl (w_k hw) f_K_52 rfl (w_0_9 hw) d_K_lastOfRow_25 (fun hv55 => ?_)
      refine lv_iload_n X.1 X.2.1 d_K_lastOfRow_28 rfl (lv_at hl 0 rfl) ?_
      refine r_aalds (q := i) X hM rfl hv55 a_jobs (fun _ => rfl) (j := i) rfl (by omega) (w_jb hw hi) d_K_lastOfRow_29 (fun hv56 => ?_)
      exact m_aret X hr hlk hM (by first | rfl | exact rfv_isRef _ _ _) d_K_lastOfRow_30 ⟨Nat.le_of_ble_eq_true rfl, Nat.le_of_ble_eq_true rfl⟩ (mExt_rf _ _) ⟨by unfold lstR; rw [← hI, fl_t (bn0 hq0)]; rfl, rfl, rfl⟩
set_option maxHeartbeats 4000000 in
set_option maxRecDepth 100000 in
theorem k_K_rowLength (l : Launch) (D : va_G) (dA : Nat → ClassId) (base : Nat) (M : mM) (ad : Nat → Nat → Nat) (hw : wK M) (sc : Int32) : mMet l y_K_rowLength b_K_rowLength 4 (some FieldType.int) ({ frames := 1, cells := 0, slots := 0, locals := 40 } : Room) 0 0 D dA base M ad [.ref (ad 0 0), .int sc] (mSame M ad (some (.int (nI (cn (inRow M sc) (gn M 4)))))) := by
  refine m_start (lvs := [(0, .ref (ad 0 0)), (1, .int sc)]) (by decide) (Nat.le_of_ble_eq_true rfl) rfl ?_
  intro p e s m below meth c ls X hr hlk hin hml hM hl
  refine lv_iconst (v := 0) X.1 X.2.1 d_K_rowLength_0 (by decide) ?_
  refine lv_istore_n (lv' := [(2, .int 0), (0, .ref (ad 0 0)), (1, .int sc)]) X.1 X.2.1 d_K_rowLength_1 rfl hl (by decide) rfl (fun ls hl => ?_)
  refine lv_iconst (v := 0) X.1 X.2.1 d_K_rowLength_2 (by decide) ?_
  refine lv_istore_n (lv' := [(3, .int 0), (2, .int 0), (0, .ref (ad 0 0)), (1, .int sc)]) X.1 X.2.1 d_K_rowLength_3 rfl hl (by decide) rfl (fun ls hl => ?_)
  have hN := w_njl hw
  refine w_upW (gn M 4) (fun ls => F0 m 4 ls []) (fun i H L ls => mSt D dA base M ad s.heap H L ∧ lv_has ls 4 [(2, .int (nI (cn (inRow M sc) i))), (3, .int (nI i)), (0, .ref (ad 0 0)), (1, .int sc)] ∧ True) ?_ ?_ 0 _ _ ls (by omega) ⟨hM, lv_sub hl [1, 0, 2, 3] rfl, trivial⟩
  · rintro H locs ls ⟨hM, hl, hI⟩
    refine lv_iload_n X.1 X.2.1 d_K_rowLength_4 rfl (lv_at hl 1 rfl) ?_
    refine lv_aload_n X.1 X.2.1 d_K_rowLength_5 rfl (lv_at hl 2 rfl) ?_
    refine r_geti X hM rfl (w_k hw) f_K_56 rfl d_K_rowLength_6 ?_
    refine lv_icmp_ge (tgt := 34) X.1 X.2.1 d_K_rowLength_9 (by decide) (fun hz51 => ?_) (fun hz51 => absurd (by rw [w_nj hw]; exact Int32.le_refl _) hz51)
    refine lv_iload_n X.1 X.2.1 d_K_rowLength_34 rfl (lv_at hl 0 rfl) ?_
    exact m_iret X hr hlk hM d_K_rowLength_35 ⟨Nat.le_of_ble_eq_true rfl, Nat.le_of_ble_eq_true rfl⟩ (mExt_rf _ _) ⟨rfl, rfl, rfl⟩
  · rintro i hi ih H locs ls ⟨hM, hl, hI⟩
    have hge := (show ¬ gi M 0 0 10 ≤ nI i by rw [w_nj hw]; exact nI_ge hi (by omega))
    refine lv_iload_n X.1 X.2.1 d_K_rowLength_4 rfl (lv_at hl 1 rfl) ?_
    refine lv_aload_n X.1 X.2.1 d_K_rowLength_5 rfl (lv_at hl 2 rfl) ?_
    refine r_geti X hM rfl (w_k hw) f_K_56 rfl d_K_rowLength_6 ?_
    refine lv_icmp_ge (tgt := 34) X.1 X.2.1 d_K_rowLength_9 (by decide) (fun hz51 => absurd hz51 hge) (fun hz51 => ?_)
    refine lv_aload_n X.1 X.2.1 d_K_rowLength_12 rfl (lv_at hl 2 rfl) ?_
    refine r_gets (q := 0) X hM rfl (w_k hw) f_K_52 rfl (w_0_9 hw) d_K_rowLength_13 (fun hv52 => ?_)
    refine lv_iload_n X.1 X.2.1 d_K_rowLength_16 rfl (lv_at hl 1 rfl) ?_
    refine r_aalds (q := i) X hM rfl hv52 a_jobs (fun _ => rfl) (j := i) rfl (by omega) (w_jb hw hi) d_K_rowLength_17 (fun hv53 => ?_)
    refine lv_iload_n X.1 X.2.1 d_K_rowLength_18 rfl (lv_at hl 3 rfl) ?_
    refine r_cS (As := [.ref (ad 4 i), .int sc]) (rest := []) X hml hl.1 hM (k_K_isInRow l D dA base M ad i sc hv53) c_K_297 v_K_isInRow rfl (Nat.le_of_ble_eq_true rfl) ⟨rfl, rfl, Nat.le_of_ble_eq_true rfl, Nat.le_of_ble_eq_true rfl⟩ ⟨Nat.le_of_ble_eq_true rfl, Nat.le_of_ble_eq_true rfl⟩ d_K_rowLength_19 ?_
    intro rv M1 ad1 H locs hP hM hE
    obtain ⟨e1, e2, e3⟩ := hP
    subst rv; subst M1; subst ad1
    show W _ _ _ _ _ _ _ _ _ _ _ _ _ _ _ (F0 m 22 ls [.int (if inRow M sc i = true then 1 else 0)])
    refine lv_if_eq (tgt := 28) X.1 X.2.1 d_K_rowLength_22 (by decide) (fun hq0 => ?_) (fun hq0 => ?_)
    · skip
      obtain ⟨xi, e_xi⟩ : ∃ z : Int32, z = (nI i) + 1 := ⟨_, rfl⟩
      refine lv_iinc (v := xi) (lv' := [(3, .int xi), (2, .int (nI (cn (inRow M sc) i))), (0, .ref (ad 0 0)), (1, .int sc)]) X.1 X.2.1 d_K_rowLength_28 hl (k := 1) rfl (by rw [e_xi]; rfl) (by decide) rfl (fun ls hl => ?_)
      refine lv_goto (tgt := 4) X.1 X.2.1 d_K_rowLength_31 (by decide) ?_
      have e9 := e_xi.trans (nI_1 i)
      subst e9
      rw [cn_n (p := (inRow M sc)) (n := i) (be0 hq0)] at hl
      exact ih _ _ ls ⟨hM, lv_sub hl [1, 0, 2, 3] rfl, trivial⟩
    · skip
      obtain ⟨xc, e_xc⟩ : ∃ z : Int32, z = (nI (cn (inRow M sc) i)) + 1 := ⟨_, rfl⟩
      refine lv_iinc (v := xc) (lv' := [(2, .int xc), (3, .int (nI i)), (0, .ref (ad 0 0)), (1, .int sc)]) X.1 X.2.1 d_K_rowLength_25 hl (k := 0) rfl (by rw [e_xc]; rfl) (by decide) rfl (fun ls hl => ?_)
      obtain ⟨xi, e_xi⟩ : ∃ z : Int32, z = (nI i) + 1 := ⟨_, rfl⟩
      refine lv_iinc (v := xi) (lv' := [(3, .int xi), (2, .int xc), (0, .ref (ad 0 0)), (1, .int sc)]) X.1 X.2.1 d_K_rowLength_28 hl (k := 1) rfl (by rw [e_xi]; rfl) (by decide) rfl (fun ls hl => ?_)
      refine lv_goto (tgt := 4) X.1 X.2.1 d_K_rowLength_31 (by decide) ?_
      have e9 := e_xi.trans (nI_1 i)
      subst e9
      have e8 := cn_s (p := (inRow M sc)) (n := i) (bn0 hq0) e_xc
      subst e8
      exact ih _ _ ls ⟨hM, lv_sub hl [1, 0, 2, 3] rfl, trivial⟩
set_option maxHeartbeats 4000000 in
set_option maxRecDepth 100000 in
theorem k_K_jobsNotEnded (l : Launch) (D : va_G) (dA : Nat → ClassId) (base : Nat) (M : mM) (ad : Nat → Nat → Nat) (hw : wK M) : mMet l y_K_jobsNotEnded b_K_jobsNotEnded 3 (some FieldType.int) ({ frames := 0, cells := 0, slots := 0, locals := 0 } : Room) 0 0 D dA base M ad [.ref (ad 0 0)] (mSame M ad (some (.int (nI (cn (fun j => decide (gi M 4 j 5 = 0)) (gn M 4)))))) := by
  refine m_start (lvs := [(0, .ref (ad 0 0))]) (by decide) (Nat.le_of_ble_eq_true rfl) rfl ?_
  intro p e s m below meth c ls X hr hlk hin hml hM hl
  refine lv_iconst (v := 0) X.1 X.2.1 d_K_jobsNotEnded_0 (by decide) ?_
  refine lv_istore_n (lv' := [(1, .int 0), (0, .ref (ad 0 0))]) X.1 X.2.1 d_K_jobsNotEnded_1 rfl hl (by decide) rfl (fun ls hl => ?_)
  refine lv_iconst (v := 0) X.1 X.2.1 d_K_jobsNotEnded_2 (by decide) ?_
  refine lv_istore_n (lv' := [(2, .int 0), (1, .int 0), (0, .ref (ad 0 0))]) X.1 X.2.1 d_K_jobsNotEnded_3 rfl hl (by decide) rfl (fun ls hl => ?_)
  have hN := w_njl hw
  refine w_upW (gn M 4) (fun ls => F0 m 4 ls []) (fun i H L ls => mSt D dA base M ad s.heap H L ∧ lv_has ls 3 [(1, .int (nI (cn (fun j => decide (gi M 4 j 5 = 0)) i))), (2, .int (nI i)), (0, .ref (ad 0 0))] ∧ True) ?_ ?_ 0 _ _ ls (by omega) ⟨hM, lv_sub hl [1, 0, 2] rfl, trivial⟩
  · rintro H locs ls ⟨hM, hl, hI⟩
    refine lv_iload_n X.1 X.2.1 d_K_jobsNotEnded_4 rfl (lv_at hl 1 rfl) ?_
    refine lv_aload_n X.1 X.2.1 d_K_jobsNotEnded_5 rfl (lv_at hl 2 rfl) ?_
    refine r_geti X hM rfl (w_k hw) f_K_56 rfl d_K_jobsNotEnded_6 ?_
    refine lv_icmp_ge (tgt := 33) X.1 X.2.1 d_K_jobsNotEnded_9 (by decide) (fun hz51 => ?_) (fun hz51 => absurd (by rw [w_nj hw]; exact Int32.le_refl _) hz51)
    refine lv_iload_n X.1 X.2.1 d_K_jobsNotEnded_33 rfl (lv_at hl 0 rfl) ?_
    exact m_iret X hr hlk hM d_K_jobsNotEnded_34 ⟨Nat.le_of_ble_eq_true rfl, Nat.le_of_ble_eq_true rfl⟩ (mExt_rf _ _) ⟨rfl, rfl, rfl⟩
  · rintro i hi ih H locs ls ⟨hM, hl, hI⟩
    have hge := (show ¬ gi M 0 0 10 ≤ nI i by rw [w_nj hw]; exact nI_ge hi (by omega))
    refine lv_iload_n X.1 X.2.1 d_K_jobsNotEnded_4 rfl (lv_at hl 1 rfl) ?_
    refine lv_aload_n X.1 X.2.1 d_K_jobsNotEnded_5 rfl (lv_at hl 2 rfl) ?_
    refine r_geti X hM rfl (w_k hw) f_K_56 rfl d_K_jobsNotEnded_6 ?_
    refine lv_icmp_ge (tgt := 33) X.1 X.2.1 d_K_jobsNotEnded_9 (by decide) (fun hz51 => absurd hz51 hge) (fun hz51 => ?_)
    refine lv_aload_n X.1 X.2.1 d_K_jobsNotEnded_12 rfl (lv_at hl 2 rfl) ?_
    refine r_gets (q := 0) X hM rfl (w_k hw) f_K_52 rfl (w_0_9 hw) d_K_jobsNotEnded_13 (fun hv52 => ?_)
    refine lv_iload_n X.1 X.2.1 d_K_jobsNotEnded_16 rfl (lv_at hl 1 rfl) ?_
    refine r_aalds (q := i) X hM rfl hv52 a_jobs (fun _ => rfl) (j := i) rfl (by omega) (w_jb hw hi) d_K_jobsNotEnded_17 (fun hv53 => ?_)
    refine r_geti X hM rfl hv53 f_K_147 rfl d_K_jobsNotEnded_18 ?_
    refine lv_if_ne (tgt := 27) X.1 X.2.1 d_K_jobsNotEnded_21 (by decide) (fun hq0 => ?_) (fun hq0 => ?_)
    · skip
      obtain ⟨xi, e_xi⟩ : ∃ z : Int32, z = (nI i) + 1 := ⟨_, rfl⟩
      refine lv_iinc (v := xi) (lv' := [(2, .int xi), (1, .int (nI (cn (fun j => decide (gi M 4 j 5 = 0)) i))), (0, .ref (ad 0 0))]) X.1 X.2.1 d_K_jobsNotEnded_27 hl (k := 1) rfl (by rw [e_xi]; rfl) (by decide) rfl (fun ls hl => ?_)
      refine lv_goto (tgt := 4) X.1 X.2.1 d_K_jobsNotEnded_30 (by decide) ?_
      have e9 := e_xi.trans (nI_1 i)
      subst e9
      rw [cn_n (p := (fun j => decide (gi M 4 j 5 = 0))) (n := i) (fun z => hq0 (of_decide_eq_true z))] at hl
      exact ih _ _ ls ⟨hM, lv_sub hl [1, 0, 2] rfl, trivial⟩
    · skip
      obtain ⟨xc, e_xc⟩ : ∃ z : Int32, z = (nI (cn (fun j => decide (gi M 4 j 5 = 0)) i)) + 1 := ⟨_, rfl⟩
      refine lv_iinc (v := xc) (lv' := [(1, .int xc), (2, .int (nI i)), (0, .ref (ad 0 0))]) X.1 X.2.1 d_K_jobsNotEnded_24 hl (k := 0) rfl (by rw [e_xc]; rfl) (by decide) rfl (fun ls hl => ?_)
      obtain ⟨xi, e_xi⟩ : ∃ z : Int32, z = (nI i) + 1 := ⟨_, rfl⟩
      refine lv_iinc (v := xi) (lv' := [(2, .int xi), (1, .int xc), (0, .ref (ad 0 0))]) X.1 X.2.1 d_K_jobsNotEnded_27 hl (k := 1) rfl (by rw [e_xi]; rfl) (by decide) rfl (fun ls hl => ?_)
      refine lv_goto (tgt := 4) X.1 X.2.1 d_K_jobsNotEnded_30 (by decide) ?_
      have e9 := e_xi.trans (nI_1 i)
      subst e9
      have e8 := cn_s (p := (fun j => decide (gi M 4 j 5 = 0))) (n := i) (decide_eq_true hq0) e_xc
      subst e8
      exact ih _ _ ls ⟨hM, lv_sub hl [1, 0, 2] rfl, trivial⟩
set_option maxHeartbeats 4000000 in
set_option maxRecDepth 100000 in
theorem k_K_clientsThere (l : Launch) (D : va_G) (dA : Nat → ClassId) (base : Nat) (M : mM) (ad : Nat → Nat → Nat) (hw : wK M) : mMet l y_K_clientsThere b_K_clientsThere 3 (some FieldType.int) ({ frames := 0, cells := 0, slots := 0, locals := 0 } : Room) 0 0 D dA base M ad [.ref (ad 0 0)] (mSame M ad (some (.int (nI (cn (fun i => decide (gi M 2 i 0 ≠ 0)) 8))))) := by
  refine m_start (lvs := [(0, .ref (ad 0 0))]) (by decide) (Nat.le_of_ble_eq_true rfl) rfl ?_
  intro p e s m below meth c ls X hr hlk hin hml hM hl
  refine lv_iconst (v := 0) X.1 X.2.1 d_K_clientsThere_0 (by decide) ?_
  refine lv_istore_n (lv' := [(1, .int 0), (0, .ref (ad 0 0))]) X.1 X.2.1 d_K_clientsThere_1 rfl hl (by decide) rfl (fun ls hl => ?_)
  refine lv_iconst (v := 0) X.1 X.2.1 d_K_clientsThere_2 (by decide) ?_
  refine lv_istore_n (lv' := [(2, .int 0), (1, .int 0), (0, .ref (ad 0 0))]) X.1 X.2.1 d_K_clientsThere_3 rfl hl (by decide) rfl (fun ls hl => ?_)
  refine w_upW 8 (fun ls => F0 m 4 ls []) (fun i H L ls => mSt D dA base M ad s.heap H L ∧ lv_has ls 3 [(1, .int (nI (cn (fun i => decide (gi M 2 i 0 ≠ 0)) i))), (2, .int (nI i)), (0, .ref (ad 0 0))] ∧ True) ?_ ?_ 0 _ _ ls (by omega) ⟨hM, lv_sub hl [1, 0, 2] rfl, trivial⟩
  · rintro H locs ls ⟨hM, hl, hI⟩
    refine lv_iload_n X.1 X.2.1 d_K_clientsThere_4 rfl (lv_at hl 1 rfl) ?_
    refine lv_bipush (v := 8) X.1 X.2.1 d_K_clientsThere_5 (by decide) ?_
    refine lv_icmp_ge (tgt := 31) X.1 X.2.1 d_K_clientsThere_7 (by decide) (fun hz51 => ?_) (fun hz51 => absurd (by decide) hz51)
    refine lv_iload_n X.1 X.2.1 d_K_clientsThere_31 rfl (lv_at hl 0 rfl) ?_
    exact m_iret X hr hlk hM d_K_clientsThere_32 ⟨Nat.le_of_ble_eq_true rfl, Nat.le_of_ble_eq_true rfl⟩ (mExt_rf _ _) ⟨rfl, rfl, rfl⟩
  · rintro i hi ih H locs ls ⟨hM, hl, hI⟩
    have hge := (show ¬ (8 : Int32) ≤ nI i from nI_ge hi (by decide))
    refine lv_iload_n X.1 X.2.1 d_K_clientsThere_4 rfl (lv_at hl 1 rfl) ?_
    refine lv_bipush (v := 8) X.1 X.2.1 d_K_clientsThere_5 (by decide) ?_
    refine lv_icmp_ge (tgt := 31) X.1 X.2.1 d_K_clientsThere_7 (by decide) (fun hz51 => absurd hz51 hge) (fun hz51 => ?_)
    refine lv_aload_n X.1 X.2.1 d_K_clientsThere_10 rfl (lv_at hl 2 rfl) ?_
    refine r_gets (q := 0) X hM rfl (w_k hw) f_K_43 rfl (w_0_7 hw) d_K_clientsThere_11 (fun hv52 => ?_)
    refine lv_iload_n X.1 X.2.1 d_K_clientsThere_14 rfl (lv_at hl 1 rfl) ?_
    refine r_aalds (q := i) X hM rfl hv52 a_clients (fun _ => rfl) (j := i) rfl (by omega) (w_cl hw hi) d_K_clientsThere_15 (fun hv53 => ?_)
    refine r_geti X hM rfl hv53 f_K_163 rfl d_K_clientsThere_16 ?_
    refine lv_if_eq (tgt := 25) X.1 X.2.1 d_K_clientsThere_19 (by decide) (fun hq0 => ?_) (fun hq0 => ?_)
    · skip
      obtain ⟨xi, e_xi⟩ : ∃ z : Int32, z = (nI i) + 1 := ⟨_, rfl⟩
      refine lv_iinc (v := xi) (lv' := [(2, .int xi), (1, .int (nI (cn (fun i => decide (gi M 2 i 0 ≠ 0)) i))), (0, .ref (ad 0 0))]) X.1 X.2.1 d_K_clientsThere_25 hl (k := 1) rfl (by rw [e_xi]; rfl) (by decide) rfl (fun ls hl => ?_)
      refine lv_goto (tgt := 4) X.1 X.2.1 d_K_clientsThere_28 (by decide) ?_
      have e9 := e_xi.trans (nI_1 i)
      subst e9
      rw [cn_n (p := (fun i => decide (gi M 2 i 0 ≠ 0))) (n := i) (fun z => (of_decide_eq_true z) hq0)] at hl
      exact ih _ _ ls ⟨hM, lv_sub hl [1, 0, 2] rfl, trivial⟩
    · skip
      obtain ⟨xc, e_xc⟩ : ∃ z : Int32, z = (nI (cn (fun i => decide (gi M 2 i 0 ≠ 0)) i)) + 1 := ⟨_, rfl⟩
      refine lv_iinc (v := xc) (lv' := [(1, .int xc), (2, .int (nI i)), (0, .ref (ad 0 0))]) X.1 X.2.1 d_K_clientsThere_22 hl (k := 0) rfl (by rw [e_xc]; rfl) (by decide) rfl (fun ls hl => ?_)
      obtain ⟨xi, e_xi⟩ : ∃ z : Int32, z = (nI i) + 1 := ⟨_, rfl⟩
      refine lv_iinc (v := xi) (lv' := [(2, .int xi), (1, .int xc), (0, .ref (ad 0 0))]) X.1 X.2.1 d_K_clientsThere_25 hl (k := 1) rfl (by rw [e_xi]; rfl) (by decide) rfl (fun ls hl => ?_)
      refine lv_goto (tgt := 4) X.1 X.2.1 d_K_clientsThere_28 (by decide) ?_
      have e9 := e_xi.trans (nI_1 i)
      subst e9
      have e8 := cn_s (p := (fun i => decide (gi M 2 i 0 ≠ 0))) (n := i) (decide_eq_true hq0) e_xc
      subst e8
      exact ih _ _ ls ⟨hM, lv_sub hl [1, 0, 2] rfl, trivial⟩
end
section
theorem live_regs {D : va_G} {dA : Nat → ClassId} {base : Nat} {M : mM} {ad : Nat → Nat → Nat} {H0 H : Heap} {locs : List Loc} (hM : mSt D dA base M ad H0 H locs) (hw : wK M) {i : Nat} (hi : i < nRg M) : rgx M i < gn M 5 :=
  hM.live (k := 10) (i := 0) (j := i) (hM.live (k := 0) (i := 0) (j := 5) (w_k hw) rfl (w_0_5 hw)) rfl (w_rg hw hi)
def fitR (M : mM) (path : Int32) (g : Nat) : Bool := decide (gi M 5 g 5 = 0 ∧ gr M 5 g 4 ≠ none ∧ bgs (gi M 5 g 0) path = true)
def betR (M : mM) (b : Option Nat) (g : Nat) : Bool := match b with
  | none => true
  | some h => decide (gi M 5 h 0 < gi M 5 g 0)
/-- the best of the first n registrations for a path -/
def rfB (M : mM) (path : Int32) : Nat → Option Nat
  | 0 => none
  | n + 1 => if fitR M path (rgx M n) = true ∧ betR M (rfB M path n) (rgx M n) = true then some (rgx M n) else rfB M path n
def rgFor (M : mM) (path : Int32) : Option Nat := rfB M path (nRg M)
theorem rfB_lv {D : va_G} {dA : Nat → ClassId} {base : Nat} {M : mM} {ad : Nat → Nat → Nat} {H0 H : Heap} {locs : List Loc} (hM : mSt D dA base M ad H0 H locs) (hw : wK M) {path : Int32} : ∀ {n : Nat}, n ≤ nRg M → ∀ q, rfB M path n = some q → q < gn M 5 := by
  intro n
  induction n with
  | zero => intro _ q h; cases h
  | succ n ih =>
    intro hn q h
    unfold rfB at h
    by_cases hc : fitR M path (rgx M n) = true ∧ betR M (rfB M path n) (rgx M n) = true
    · rw [if_pos hc] at h
      cases h
      exact live_regs hM hw (by omega)
    · rw [if_neg hc] at h
      exact ih (by omega) q h
theorem rfB_t {M : mM} {path : Int32} {n : Nat} (h1 : fitR M path (rgx M n) = true) (h2 : betR M (rfB M path n) (rgx M n) = true) : rfB M path (n + 1) = some (rgx M n) := if_pos ⟨h1, h2⟩
theorem rfB_f1 {M : mM} {path : Int32} {n : Nat} (h1 : ¬ fitR M path (rgx M n) = true) : rfB M path (n + 1) = rfB M path n := if_neg (fun z => h1 z.1)
theorem rfB_f2 {M : mM} {path : Int32} {n : Nat} (h2 : ¬ betR M (rfB M path n) (rgx M n) = true) : rfB M path (n + 1) = rfB M path n := if_neg (fun z => h2 z.2)
def upD (M : mM) (g : Nat) : Bool := match nwst M g with
  | none => false
  | some i => decide (gi M 7 i 1 = gi M 1 (gi M 5 g 1).toNatClampNeg 0)
theorem nwst_lv {D : va_G} {dA : Nat → ClassId} {base : Nat} {M : mM} {ad : Nat → Nat → Nat} {H0 H : Heap} {locs : List Loc} (hM : mSt D dA base M ad H0 H locs) {g : Nat} (hg : g < gn M 5) : ∀ q, nwst M g = some q → q < gn M 7 := by
  intro q h
  unfold nwst at h
  cases h2 : gr M 5 g 2 with
  | some i => rw [h2] at h; cases h; exact hM.live (k := 5) (j := 2) hg rfl h2
  | none =>
    rw [h2] at h
    cases h3 : gr M 5 g 3 with
    | some i => rw [h3] at h; cases h; exact hM.live (k := 5) (j := 3) hg rfl h3
    | none => rw [h3] at h; exact hM.live (k := 5) (j := 4) hg rfl h
set_option maxHeartbeats 4000000 in
set_option maxRecDepth 100000 in
theorem k_K_leastFreeClient (l : Launch) (D : va_G) (dA : Nat → ClassId) (base : Nat) (M : mM) (ad : Nat → Nat → Nat) (hw : wK M) : mMet l y_K_leastFreeClient b_K_leastFreeClient 2 (some FieldType.int) ({ frames := 0, cells := 0, slots := 0, locals := 0 } : Room) 0 0 D dA base M ad [.ref (ad 0 0)] (mSame M ad (some (.int (nI (lfc M))))) := by
  refine m_start (lvs := [(0, .ref (ad 0 0))]) (by decide) (Nat.le_of_ble_eq_true rfl) rfl ?_
  intro p e s m below meth c ls X hr hlk hin hml hM hl
  refine lv_iconst (v := 0) X.1 X.2.1 d_K_leastFreeClient_0 (by decide) ?_
  refine lv_istore_n (lv' := [(1, .int 0), (0, .ref (ad 0 0))]) X.1 X.2.1 d_K_leastFreeClient_1 rfl hl (by decide) rfl (fun ls hl => ?_)
  refine w_upW 8 (fun ls => F0 m 2 ls []) (fun i H L ls => mSt D dA base M ad s.heap H L ∧ lv_has ls 2 [(1, .int (nI i)), (0, .ref (ad 0 0))] ∧ ff (fun i => decide (gi M 2 i 0 = 0)) (8 - i) i = ff (fun i => decide (gi M 2 i 0 = 0)) 8 0) ?_ ?_ 0 _ _ ls (by omega) ⟨hM, lv_sub hl [0, 1] rfl, rfl⟩
  · rintro H locs ls ⟨hM, hl, hI⟩
    rw [Nat.sub_self] at hI
    refine lv_iload_n X.1 X.2.1 d_K_leastFreeClient_2 rfl (lv_at hl 0 rfl) ?_
    refine lv_bipush (v := 8) X.1 X.2.1 d_K_leastFreeClient_3 (by decide) ?_
    refine lv_icmp_ge (tgt := 26) X.1 X.2.1 d_K_leastFreeClient_5 (by decide) (fun hz51 => ?_) (fun hz51 => absurd (by decide) hz51)
    refine lv_iload_n X.1 X.2.1 d_K_leastFreeClient_26 rfl (lv_at hl 0 rfl) ?_
    exact m_iret X hr hlk hM d_K_leastFreeClient_27 ⟨Nat.le_of_ble_eq_true rfl, Nat.le_of_ble_eq_true rfl⟩ (mExt_rf _ _) ⟨by unfold lfc; rw [← hI]; rfl, rfl, rfl⟩
  · rintro i hi ih H locs ls ⟨hM, hl, hI⟩
    rw [show 8 - i = (8 - (i + 1)) + 1 by omega] at hI
    refine lv_iload_n X.1 X.2.1 d_K_leastFreeClient_2 rfl (lv_at hl 0 rfl) ?_
    refine lv_bipush (v := 8) X.1 X.2.1 d_K_leastFreeClient_3 (by decide) ?_
    refine lv_icmp_ge (tgt := 26) X.1 X.2.1 d_K_leastFreeClient_5 (by decide) (fun hz51 => absurd hz51 (show ¬ (8 : Int32) ≤ nI i from nI_ge hi (by decide))) (fun hz51 => ?_)
    refine lv_aload_n X.1 X.2.1 d_K_leastFreeClient_8 rfl (lv_at hl 1 rfl) ?_
    refine r_gets (q := 0) X hM rfl (w_k hw) f_K_43 rfl (w_0_7 hw) d_K_leastFreeClient_9 (fun hv52 => ?_)
    refine lv_iload_n X.1 X.2.1 d_K_leastFreeClient_12 rfl (lv_at hl 0 rfl) ?_
    refine r_aalds (q := i) X hM rfl hv52 a_clients (fun _ => rfl) (j := i) rfl (by omega) (w_cl hw hi) d_K_leastFreeClient_13 (fun hv53 => ?_)
    refine r_geti X hM rfl hv53 f_K_163 rfl d_K_leastFreeClient_14 ?_
    refine lv_if_eq (tgt := 26) X.1 X.2.1 d_K_leastFreeClient_17 (by decide) (fun hq0 => ?_) (fun hq0 => ?_)
    · skip
      refine lv_iload_n X.1 X.2.1 d_K_leastFreeClient_26 rfl (lv_at hl 0 rfl) ?_
      exact m_iret X hr hlk hM d_K_leastFreeClient_27 ⟨Nat.le_of_ble_eq_true rfl, Nat.le_of_ble_eq_true rfl⟩ (mExt_rf _ _) ⟨by unfold lfc; rw [← hI, ff_t (decide_eq_true hq0)]; rfl, rfl, rfl⟩
    · skip
      obtain ⟨xi, e_xi⟩ : ∃ z : Int32, z = (nI i) + 1 := ⟨_, rfl⟩
      refine lv_iinc (v := xi) (lv' := [(1, .int xi), (0, .ref (ad 0 0))]) X.1 X.2.1 d_K_leastFreeClient_20 hl (k := 0) rfl (by rw [e_xi]; rfl) (by decide) rfl (fun ls hl => ?_)
      refine lv_goto (tgt := 2) X.1 X.2.1 d_K_leastFreeClient_23 (by decide) ?_
      have e9 := e_xi.trans (nI_1 i)
      subst e9
      exact ih _ _ ls ⟨hM, lv_sub hl [0, 1] rfl, by rw [← hI]; exact (ff_f (fun z => hq0 (of_decide_eq_true z))).symm⟩
set_option maxHeartbeats 4000000 in
set_option maxRecDepth 100000 in
theorem k_K_controlledBy_n (l : Launch) (D : va_G) (dA : Nat → ClassId) (base : Nat) (M : mM) (ad : Nat → Nat → Nat) (hw : wK M)  : mMet l y_K_controlledBy b_K_controlledBy 4 (some FieldType.int) ({ frames := 0, cells := 0, slots := 0, locals := 0 } : Room) 0 0 D dA base M ad [.ref (ad 0 0), .null] (mSame M ad (some (.int (nI (ctl M ((none : Option Nat))))))) := by
  refine m_start (lvs := [(0, .ref (ad 0 0)), (1, .null)]) (by decide) (Nat.le_of_ble_eq_true rfl) rfl ?_
  intro p e s m below meth c ls X hr hlk hin hml hM hl
  refine lv_iconst (v := 0) X.1 X.2.1 d_K_controlledBy_0 (by decide) ?_
  refine lv_istore_n (lv' := [(2, .int 0), (0, .ref (ad 0 0)), (1, .null)]) X.1 X.2.1 d_K_controlledBy_1 rfl hl (by decide) rfl (fun ls hl => ?_)
  refine lv_iconst (v := 0) X.1 X.2.1 d_K_controlledBy_2 (by decide) ?_
  refine lv_istore_n (lv' := [(3, .int 0), (2, .int 0), (0, .ref (ad 0 0)), (1, .null)]) X.1 X.2.1 d_K_controlledBy_3 rfl hl (by decide) rfl (fun ls hl => ?_)
  refine w_upW 8 (fun ls => F0 m 4 ls []) (fun i H L ls => mSt D dA base M ad s.heap H L ∧ lv_has ls 4 [(2, .int (nI (cn (fun i => decide ((none : Option Nat) ≠ none ∧ gr M 2 i 2 = (none : Option Nat))) i))), (3, .int (nI i)), (0, .ref (ad 0 0)), (1, .null)] ∧ True) ?_ ?_ 0 _ _ ls (by omega) ⟨hM, lv_sub hl [1, 0, 2, 3] rfl, trivial⟩
  · rintro H locs ls ⟨hM, hl, hI⟩
    refine lv_iload_n X.1 X.2.1 d_K_controlledBy_4 rfl (lv_at hl 1 rfl) ?_
    refine lv_bipush (v := 8) X.1 X.2.1 d_K_controlledBy_5 (by decide) ?_
    refine lv_icmp_ge (tgt := 36) X.1 X.2.1 d_K_controlledBy_7 (by decide) (fun hz51 => ?_) (fun hz51 => absurd (by decide) hz51)
    refine lv_iload_n X.1 X.2.1 d_K_controlledBy_36 rfl (lv_at hl 0 rfl) ?_
    exact m_iret X hr hlk hM d_K_controlledBy_37 ⟨Nat.le_of_ble_eq_true rfl, Nat.le_of_ble_eq_true rfl⟩ (mExt_rf _ _) ⟨rfl, rfl, rfl⟩
  · rintro i hi ih H locs ls ⟨hM, hl, hI⟩
    refine lv_iload_n X.1 X.2.1 d_K_controlledBy_4 rfl (lv_at hl 1 rfl) ?_
    refine lv_bipush (v := 8) X.1 X.2.1 d_K_controlledBy_5 (by decide) ?_
    refine lv_icmp_ge (tgt := 36) X.1 X.2.1 d_K_controlledBy_7 (by decide) (fun hz51 => absurd hz51 (show ¬ (8 : Int32) ≤ nI i from nI_ge hi (by decide))) (fun hz51 => ?_)
    refine lv_aload_nN X.1 X.2.1 d_K_controlledBy_10 rfl (lv_at hl 3 rfl) ?_
    refine lv_ifnullN (tgt := 30) X.1 X.2.1 d_K_controlledBy_11 (by decide) ?_
    obtain ⟨xi, e_xi⟩ : ∃ z : Int32, z = (nI i) + 1 := ⟨_, rfl⟩
    refine lv_iinc (v := xi) (lv' := [(3, .int xi), (2, .int (nI (cn (fun i => decide ((none : Option Nat) ≠ none ∧ gr M 2 i 2 = (none : Option Nat))) i))), (0, .ref (ad 0 0)), (1, .null)]) X.1 X.2.1 d_K_controlledBy_30 hl (k := 1) rfl (by rw [e_xi]; rfl) (by decide) rfl (fun ls hl => ?_)
    refine lv_goto (tgt := 4) X.1 X.2.1 d_K_controlledBy_33 (by decide) ?_
    have e9 := e_xi.trans (nI_1 i)
    subst e9
    rw [cn_n (p := (fun i => decide ((none : Option Nat) ≠ none ∧ gr M 2 i 2 = (none : Option Nat)))) (n := i) (fun z => (of_decide_eq_true z).1 rfl)] at hl
    exact ih _ _ ls ⟨hM, lv_sub hl [1, 0, 2, 3] rfl, trivial⟩
set_option maxHeartbeats 4000000 in
set_option maxRecDepth 100000 in
theorem k_K_controlledBy_s (l : Launch) (D : va_G) (dA : Nat → ClassId) (base : Nat) (M : mM) (ad : Nat → Nat → Nat) (hw : wK M) (w : Nat) (hw7 : w < gn M 7) : mMet l y_K_controlledBy b_K_controlledBy 4 (some FieldType.int) ({ frames := 0, cells := 0, slots := 0, locals := 0 } : Room) 0 0 D dA base M ad [.ref (ad 0 0), .ref (ad 7 w)] (mSame M ad (some (.int (nI (ctl M ((some w))))))) := by
  refine m_start (lvs := [(0, .ref (ad 0 0)), (1, .ref (ad 7 w))]) (by decide) (Nat.le_of_ble_eq_true rfl) rfl ?_
  intro p e s m below meth c ls X hr hlk hin hml hM hl
  refine lv_iconst (v := 0) X.1 X.2.1 d_K_controlledBy_0 (by decide) ?_
  refine lv_istore_n (lv' := [(2, .int 0), (0, .ref (ad 0 0)), (1, .ref (ad 7 w))]) X.1 X.2.1 d_K_controlledBy_1 rfl hl (by decide) rfl (fun ls hl => ?_)
  refine lv_iconst (v := 0) X.1 X.2.1 d_K_controlledBy_2 (by decide) ?_
  refine lv_istore_n (lv' := [(3, .int 0), (2, .int 0), (0, .ref (ad 0 0)), (1, .ref (ad 7 w))]) X.1 X.2.1 d_K_controlledBy_3 rfl hl (by decide) rfl (fun ls hl => ?_)
  refine w_upW 8 (fun ls => F0 m 4 ls []) (fun i H L ls => mSt D dA base M ad s.heap H L ∧ lv_has ls 4 [(2, .int (nI (cn (fun i => decide ((some w) ≠ none ∧ gr M 2 i 2 = (some w))) i))), (3, .int (nI i)), (0, .ref (ad 0 0)), (1, .ref (ad 7 w))] ∧ True) ?_ ?_ 0 _ _ ls (by omega) ⟨hM, lv_sub hl [1, 0, 2, 3] rfl, trivial⟩
  · rintro H locs ls ⟨hM, hl, hI⟩
    refine lv_iload_n X.1 X.2.1 d_K_controlledBy_4 rfl (lv_at hl 1 rfl) ?_
    refine lv_bipush (v := 8) X.1 X.2.1 d_K_controlledBy_5 (by decide) ?_
    refine lv_icmp_ge (tgt := 36) X.1 X.2.1 d_K_controlledBy_7 (by decide) (fun hz51 => ?_) (fun hz51 => absurd (by decide) hz51)
    refine lv_iload_n X.1 X.2.1 d_K_controlledBy_36 rfl (lv_at hl 0 rfl) ?_
    exact m_iret X hr hlk hM d_K_controlledBy_37 ⟨Nat.le_of_ble_eq_true rfl, Nat.le_of_ble_eq_true rfl⟩ (mExt_rf _ _) ⟨rfl, rfl, rfl⟩
  · rintro i hi ih H locs ls ⟨hM, hl, hI⟩
    refine lv_iload_n X.1 X.2.1 d_K_controlledBy_4 rfl (lv_at hl 1 rfl) ?_
    refine lv_bipush (v := 8) X.1 X.2.1 d_K_controlledBy_5 (by decide) ?_
    refine lv_icmp_ge (tgt := 36) X.1 X.2.1 d_K_controlledBy_7 (by decide) (fun hz51 => absurd hz51 (show ¬ (8 : Int32) ≤ nI i from nI_ge hi (by decide))) (fun hz51 => ?_)
    refine lv_aload_n X.1 X.2.1 d_K_controlledBy_10 rfl (lv_at hl 3 rfl) ?_
    refine lv_ifnull X.1 X.2.1 d_K_controlledBy_11 ?_
    refine lv_aload_n X.1 X.2.1 d_K_controlledBy_14 rfl (lv_at hl 2 rfl) ?_
    refine r_gets (q := 0) X hM rfl (w_k hw) f_K_43 rfl (w_0_7 hw) d_K_controlledBy_15 (fun hv52 => ?_)
    refine lv_iload_n X.1 X.2.1 d_K_controlledBy_18 rfl (lv_at hl 1 rfl) ?_
    refine r_aalds (q := i) X hM rfl hv52 a_clients (fun _ => rfl) (j := i) rfl (by omega) (w_cl hw hi) d_K_controlledBy_19 (fun hv53 => ?_)
    refine r_getr X hM rfl hv53 f_K_173 rfl d_K_controlledBy_20 (fun hv54 => ?_)
    refine lv_aload_n X.1 X.2.1 d_K_controlledBy_23 rfl (lv_at hl 3 rfl) ?_
    show W _ _ _ _ _ _ _ _ _ _ _ _ _ _ _ (F0 m 24 ls (rfv ad 7 (some w) :: rfv ad 7 (gr M 2 i 2) :: []))
    refine r_acmp_ne (tgt := 30) X.1 X.2.1 hM (k := 7) hv54 (fun z hz => by cases hz; exact hw7) d_K_controlledBy_24 (by decide) (fun hq0 => ?_) (fun hq0 => ?_)
    · skip
      obtain ⟨xi, e_xi⟩ : ∃ z : Int32, z = (nI i) + 1 := ⟨_, rfl⟩
      refine lv_iinc (v := xi) (lv' := [(3, .int xi), (2, .int (nI (cn (fun i => decide ((some w) ≠ none ∧ gr M 2 i 2 = (some w))) i))), (0, .ref (ad 0 0)), (1, .ref (ad 7 w))]) X.1 X.2.1 d_K_controlledBy_30 hl (k := 1) rfl (by rw [e_xi]; rfl) (by decide) rfl (fun ls hl => ?_)
      refine lv_goto (tgt := 4) X.1 X.2.1 d_K_controlledBy_33 (by decide) ?_
      have e9 := e_xi.trans (nI_1 i)
      subst e9
      rw [cn_n (p := (fun i => decide ((some w) ≠ none ∧ gr M 2 i 2 = (some w)))) (n := i) (fun z => hq0 (of_decide_eq_true z).2)] at hl
      exact ih _ _ ls ⟨hM, lv_sub hl [1, 0, 2, 3] rfl, trivial⟩
    · skip
      obtain ⟨xc, e_xc⟩ : ∃ z : Int32, z = (nI (cn (fun i => decide ((some w) ≠ none ∧ gr M 2 i 2 = (some w))) i)) + 1 := ⟨_, rfl⟩
      refine lv_iinc (v := xc) (lv' := [(2, .int xc), (3, .int (nI i)), (0, .ref (ad 0 0)), (1, .ref (ad 7 w))]) X.1 X.2.1 d_K_controlledBy_27 hl (k := 0) rfl (by rw [e_xc]; rfl) (by decide) rfl (fun ls hl => ?_)
      obtain ⟨xi, e_xi⟩ : ∃ z : Int32, z = (nI i) + 1 := ⟨_, rfl⟩
      refine lv_iinc (v := xi) (lv' := [(3, .int xi), (2, .int xc), (0, .ref (ad 0 0)), (1, .ref (ad 7 w))]) X.1 X.2.1 d_K_controlledBy_30 hl (k := 1) rfl (by rw [e_xi]; rfl) (by decide) rfl (fun ls hl => ?_)
      refine lv_goto (tgt := 4) X.1 X.2.1 d_K_controlledBy_33 (by decide) ?_
      have e9 := e_xi.trans (nI_1 i)
      subst e9
      have e8 := cn_s (p := (fun i => decide ((some w) ≠ none ∧ gr M 2 i 2 = (some w)))) (n := i) (decide_eq_true ⟨(fun z => nomatch z), hq0⟩) e_xc
      subst e8
      exact ih _ _ ls ⟨hM, lv_sub hl [1, 0, 2, 3] rfl, trivial⟩
theorem k_K_controlledBy (l : Launch) (D : va_G) (dA : Nat → ClassId) (base : Nat) (M : mM) (ad : Nat → Nat → Nat) (hw : wK M) (r : Option Nat) (hr0 : ∀ q, r = some q → q < gn M 7) : mMet l y_K_controlledBy b_K_controlledBy 4 (some FieldType.int) ({ frames := 0, cells := 0, slots := 0, locals := 0 } : Room) 0 0 D dA base M ad [.ref (ad 0 0), rfv ad 7 r] (mSame M ad (some (.int (nI (ctl M r))))) := by
  cases r with
  | none => exact k_K_controlledBy_n l D dA base M ad hw
  | some w => exact k_K_controlledBy_s l D dA base M ad hw w (hr0 w rfl)
set_option maxHeartbeats 4000000 in
set_option maxRecDepth 100000 in
theorem k_K_registrationWithActive_n (l : Launch) (D : va_G) (dA : Nat → ClassId) (base : Nat) (M : mM) (ad : Nat → Nat → Nat) (hw : wK M)  : mMet l y_K_registrationWithActive b_K_registrationWithActive 3 (some (FieldType.object "ScopeKeeper$Registration")) ({ frames := 0, cells := 0, slots := 0, locals := 0 } : Room) 0 0 D dA base M ad [.ref (ad 0 0), .null] (mSame M ad (some (rfv ad 5 (rgAct M ((none : Option Nat)))))) := by
  refine m_start (lvs := [(0, .ref (ad 0 0)), (1, .null)]) (by decide) (Nat.le_of_ble_eq_true rfl) rfl ?_
  intro p e s m below meth c ls X hr hlk hin hml hM hl
  refine lv_iconst (v := 0) X.1 X.2.1 d_K_registrationWithActive_0 (by decide) ?_
  refine lv_istore_n (lv' := [(2, .int 0), (0, .ref (ad 0 0)), (1, .null)]) X.1 X.2.1 d_K_registrationWithActive_1 rfl hl (by decide) rfl (fun ls hl => ?_)
  have hN := w_nrl hw
  refine w_upW (nRg M) (fun ls => F0 m 2 ls []) (fun i H L ls => mSt D dA base M ad s.heap H L ∧ lv_has ls 3 [(2, .int (nI i)), (0, .ref (ad 0 0)), (1, .null)] ∧ ff (fun i => decide ((none : Option Nat) ≠ none ∧ gr M 5 (rgx M i) 4 = (none : Option Nat))) (nRg M - i) i = ff (fun i => decide ((none : Option Nat) ≠ none ∧ gr M 5 (rgx M i) 4 = (none : Option Nat))) (nRg M) 0) ?_ ?_ 0 _ _ ls (by omega) ⟨hM, lv_sub hl [0, 1, 2] rfl, by rw [Nat.sub_zero]⟩
  · rintro H locs ls ⟨hM, hl, hI⟩
    rw [Nat.sub_self] at hI
    refine lv_iload_n X.1 X.2.1 d_K_registrationWithActive_2 rfl (lv_at hl 0 rfl) ?_
    refine lv_aload_n X.1 X.2.1 d_K_registrationWithActive_3 rfl (lv_at hl 1 rfl) ?_
    refine r_geti X hM rfl (w_k hw) f_K_38 rfl d_K_registrationWithActive_4 ?_
    refine lv_icmp_ge (tgt := 40) X.1 X.2.1 d_K_registrationWithActive_7 (by decide) (fun hz51 => ?_) (fun hz51 => absurd (by rw [w_nr hw]; exact Int32.le_refl _) hz51)
    refine lv_null X.1 X.2.1 d_K_registrationWithActive_40 ?_
    exact m_aret X hr hlk hM (by first | rfl | exact rfv_isRef _ _ _) d_K_registrationWithActive_41 ⟨Nat.le_of_ble_eq_true rfl, Nat.le_of_ble_eq_true rfl⟩ (mExt_rf _ _) ⟨by unfold rgAct; rw [← hI]; rfl, rfl, rfl⟩
  · rintro i hi ih H locs ls ⟨hM, hl, hI⟩
    rw [show nRg M - i = (nRg M - (i + 1)) + 1 by omega] at hI
    have hge : ¬ gi M 0 0 6 ≤ nI i := by rw [w_nr hw]; exact nI_ge hi (by omega)
    refine lv_iload_n X.1 X.2.1 d_K_registrationWithActive_2 rfl (lv_at hl 0 rfl) ?_
    refine lv_aload_n X.1 X.2.1 d_K_registrationWithActive_3 rfl (lv_at hl 1 rfl) ?_
    refine r_geti X hM rfl (w_k hw) f_K_38 rfl d_K_registrationWithActive_4 ?_
    refine lv_icmp_ge (tgt := 40) X.1 X.2.1 d_K_registrationWithActive_7 (by decide) (fun hz51 => absurd hz51 hge) (fun hz51 => ?_)
    refine lv_aload_nN X.1 X.2.1 d_K_registrationWithActive_10 rfl (lv_at hl 2 rfl) ?_
    refine lv_ifnullN (tgt := 34) X.1 X.2.1 d_K_registrationWithActive_11 (by decide) ?_
    obtain ⟨xi, e_xi⟩ : ∃ z : Int32, z = (nI i) + 1 := ⟨_, rfl⟩
    refine lv_iinc (v := xi) (lv' := [(2, .int xi), (0, .ref (ad 0 0)), (1, .null)]) X.1 X.2.1 d_K_registrationWithActive_34 hl (k := 0) rfl (by rw [e_xi]; rfl) (by decide) rfl (fun ls hl => ?_)
    refine lv_goto (tgt := 2) X.1 X.2.1 d_K_registrationWithActive_37 (by decide) ?_
    have e9 := e_xi.trans (nI_1 i)
    subst e9
    exact ih _ _ ls ⟨hM, lv_sub hl [0, 1, 2] rfl, by rw [← hI]; exact (ff_f (fun z => (of_decide_eq_true z).1 rfl)).symm⟩
set_option maxHeartbeats 4000000 in
set_option maxRecDepth 100000 in
theorem k_K_registrationWithActive_s (l : Launch) (D : va_G) (dA : Nat → ClassId) (base : Nat) (M : mM) (ad : Nat → Nat → Nat) (hw : wK M) (w : Nat) (hw7 : w < gn M 7) : mMet l y_K_registrationWithActive b_K_registrationWithActive 3 (some (FieldType.object "ScopeKeeper$Registration")) ({ frames := 0, cells := 0, slots := 0, locals := 0 } : Room) 0 0 D dA base M ad [.ref (ad 0 0), .ref (ad 7 w)] (mSame M ad (some (rfv ad 5 (rgAct M ((some w)))))) := by
  refine m_start (lvs := [(0, .ref (ad 0 0)), (1, .ref (ad 7 w))]) (by decide) (Nat.le_of_ble_eq_true rfl) rfl ?_
  intro p e s m below meth c ls X hr hlk hin hml hM hl
  refine lv_iconst (v := 0) X.1 X.2.1 d_K_registrationWithActive_0 (by decide) ?_
  refine lv_istore_n (lv' := [(2, .int 0), (0, .ref (ad 0 0)), (1, .ref (ad 7 w))]) X.1 X.2.1 d_K_registrationWithActive_1 rfl hl (by decide) rfl (fun ls hl => ?_)
  have hN := w_nrl hw
  refine w_upW (nRg M) (fun ls => F0 m 2 ls []) (fun i H L ls => mSt D dA base M ad s.heap H L ∧ lv_has ls 3 [(2, .int (nI i)), (0, .ref (ad 0 0)), (1, .ref (ad 7 w))] ∧ ff (fun i => decide ((some w) ≠ none ∧ gr M 5 (rgx M i) 4 = (some w))) (nRg M - i) i = ff (fun i => decide ((some w) ≠ none ∧ gr M 5 (rgx M i) 4 = (some w))) (nRg M) 0) ?_ ?_ 0 _ _ ls (by omega) ⟨hM, lv_sub hl [0, 1, 2] rfl, by rw [Nat.sub_zero]⟩
  · rintro H locs ls ⟨hM, hl, hI⟩
    rw [Nat.sub_self] at hI
    refine lv_iload_n X.1 X.2.1 d_K_registrationWithActive_2 rfl (lv_at hl 0 rfl) ?_
    refine lv_aload_n X.1 X.2.1 d_K_registrationWithActive_3 rfl (lv_at hl 1 rfl) ?_
    refine r_geti X hM rfl (w_k hw) f_K_38 rfl d_K_registrationWithActive_4 ?_
    refine lv_icmp_ge (tgt := 40) X.1 X.2.1 d_K_registrationWithActive_7 (by decide) (fun hz51 => ?_) (fun hz51 => absurd (by rw [w_nr hw]; exact Int32.le_refl _) hz51)
    refine lv_null X.1 X.2.1 d_K_registrationWithActive_40 ?_
    exact m_aret X hr hlk hM (by first | rfl | exact rfv_isRef _ _ _) d_K_registrationWithActive_41 ⟨Nat.le_of_ble_eq_true rfl, Nat.le_of_ble_eq_true rfl⟩ (mExt_rf _ _) ⟨by unfold rgAct; rw [← hI]; rfl, rfl, rfl⟩
  · rintro i hi ih H locs ls ⟨hM, hl, hI⟩
    rw [show nRg M - i = (nRg M - (i + 1)) + 1 by omega] at hI
    have hge : ¬ gi M 0 0 6 ≤ nI i := by rw [w_nr hw]; exact nI_ge hi (by omega)
    refine lv_iload_n X.1 X.2.1 d_K_registrationWithActive_2 rfl (lv_at hl 0 rfl) ?_
    refine lv_aload_n X.1 X.2.1 d_K_registrationWithActive_3 rfl (lv_at hl 1 rfl) ?_
    refine r_geti X hM rfl (w_k hw) f_K_38 rfl d_K_registrationWithActive_4 ?_
    refine lv_icmp_ge (tgt := 40) X.1 X.2.1 d_K_registrationWithActive_7 (by decide) (fun hz51 => absurd hz51 hge) (fun hz51 => ?_)
    refine lv_aload_n X.1 X.2.1 d_K_registrationWithActive_10 rfl (lv_at hl 2 rfl) ?_
    refine lv_ifnull X.1 X.2.1 d_K_registrationWithActive_11 ?_
    refine lv_aload_n X.1 X.2.1 d_K_registrationWithActive_14 rfl (lv_at hl 1 rfl) ?_
    refine r_gets (q := 0) X hM rfl (w_k hw) f_K_34 rfl (w_0_5 hw) d_K_registrationWithActive_15 (fun hv52 => ?_)
    refine lv_iload_n X.1 X.2.1 d_K_registrationWithActive_18 rfl (lv_at hl 0 rfl) ?_
    refine r_aalds (q := (rgx M i)) X hM rfl hv52 a_regs (fun _ => rfl) (j := i) rfl (by omega) (w_rg hw hi) d_K_registrationWithActive_19 (fun hv53 => ?_)
    refine r_getr X hM rfl hv53 f_K_169 rfl d_K_registrationWithActive_20 (fun hv54 => ?_)
    refine lv_aload_n X.1 X.2.1 d_K_registrationWithActive_23 rfl (lv_at hl 2 rfl) ?_
    show W _ _ _ _ _ _ _ _ _ _ _ _ _ _ _ (F0 m 24 ls (rfv ad 7 (some w) :: rfv ad 7 (gr M 5 (rgx M i) 4) :: []))
    refine r_acmp_ne (tgt := 34) X.1 X.2.1 hM (k := 7) hv54 (fun z hz => by cases hz; exact hw7) d_K_registrationWithActive_24 (by decide) (fun hq0 => ?_) (fun hq0 => ?_)
    · skip
      obtain ⟨xi, e_xi⟩ : ∃ z : Int32, z = (nI i) + 1 := ⟨_, rfl⟩
      refine lv_iinc (v := xi) (lv' := [(2, .int xi), (0, .ref (ad 0 0)), (1, .ref (ad 7 w))]) X.1 X.2.1 d_K_registrationWithActive_34 hl (k := 0) rfl (by rw [e_xi]; rfl) (by decide) rfl (fun ls hl => ?_)
      refine lv_goto (tgt := 2) X.1 X.2.1 d_K_registrationWithActive_37 (by decide) ?_
      have e9 := e_xi.trans (nI_1 i)
      subst e9
      exact ih _ _ ls ⟨hM, lv_sub hl [0, 1, 2] rfl, by rw [← hI]; exact (ff_f (fun z => hq0 (of_decide_eq_true z).2)).symm⟩
    · skip
      refine lv_aload_n X.1 X.2.1 d_K_registrationWithActive_27 rfl (lv_at hl 1 rfl) ?_
      refine r_gets (q := 0) X hM rfl (w_k hw) f_K_34 rfl (w_0_5 hw) d_K_registrationWithActive_28 (fun hv55 => ?_)
      refine lv_iload_n X.1 X.2.1 d_K_registrationWithActive_31 rfl (lv_at hl 0 rfl) ?_
      refine r_aalds (q := (rgx M i)) X hM rfl hv55 a_regs (fun _ => rfl) (j := i) rfl (by omega) (w_rg hw hi) d_K_registrationWithActive_32 (fun hv56 => ?_)
      exact m_aret X hr hlk hM (by first | rfl | exact rfv_isRef _ _ _) d_K_registrationWithActive_33 ⟨Nat.le_of_ble_eq_true rfl, Nat.le_of_ble_eq_true rfl⟩ (mExt_rf _ _) ⟨by unfold rgAct; rw [← hI, ff_t (decide_eq_true ⟨(fun z => nomatch z), hq0⟩)]; rfl, rfl, rfl⟩
theorem k_K_registrationWithActive (l : Launch) (D : va_G) (dA : Nat → ClassId) (base : Nat) (M : mM) (ad : Nat → Nat → Nat) (hw : wK M) (r : Option Nat) (hr0 : ∀ q, r = some q → q < gn M 7) : mMet l y_K_registrationWithActive b_K_registrationWithActive 3 (some (FieldType.object "ScopeKeeper$Registration")) ({ frames := 0, cells := 0, slots := 0, locals := 0 } : Room) 0 0 D dA base M ad [.ref (ad 0 0), rfv ad 7 r] (mSame M ad (some (rfv ad 5 (rgAct M r)))) := by
  cases r with
  | none => exact k_K_registrationWithActive_n l D dA base M ad hw
  | some w => exact k_K_registrationWithActive_s l D dA base M ad hw w (hr0 w rfl)
set_option maxHeartbeats 4000000 in
set_option maxRecDepth 100000 in
theorem k_K_isUpToDate (l : Launch) (D : va_G) (dA : Nat → ClassId) (base : Nat) (M : mM) (ad : Nat → Nat → Nat) (hw : wK M) (g k : Nat) (hg : g < gn M 5) (hs : gi M 5 g 1 = nI k) (hk : k < 4) : mMet l y_K_isUpToDate b_K_isUpToDate 3 (some FieldType.boolean) ({ frames := 1, cells := 0, slots := 0, locals := 40 } : Room) 0 0 D dA base M ad [.ref (ad 0 0), .ref (ad 5 g)] (mSame M ad (some (.int (if upD M g = true then 1 else 0)))) := by
  refine m_start (lvs := [(0, .ref (ad 0 0)), (1, .ref (ad 5 g))]) (by decide) (Nat.le_of_ble_eq_true rfl) rfl ?_
  intro p e s m below meth c ls X hr hlk hin hml hM hl
  refine lv_aload_n X.1 X.2.1 d_K_isUpToDate_0 rfl (lv_at hl 1 rfl) ?_
  refine r_cV (As := []) (rest := []) X hml hl.1 hM (k_Rg_newest l D dA base M ad g hg) c_K_327 v_Rg_newest kc_Rg rfl hg rfl (Nat.le_of_ble_eq_true rfl) ⟨rfl, rfl, Nat.le_of_ble_eq_true rfl, Nat.le_of_ble_eq_true rfl⟩ ⟨Nat.le_of_ble_eq_true rfl, Nat.le_of_ble_eq_true rfl⟩ d_K_isUpToDate_1 ?_
  intro rv M1 ad1 H locs hP hM hE
  obtain ⟨e1, e2, e3⟩ := hP
  subst rv; subst M1; subst ad1
  show W _ _ _ _ _ _ _ _ _ _ _ _ _ _ _ (F0 m 4 ls [rfv ad 7 (nwst M g)])
  refine r_astore_n (lv' := [(2, rfv ad 7 (nwst M g)), (0, .ref (ad 0 0)), (1, .ref (ad 5 g))]) X.1 X.2.1 d_K_isUpToDate_4 rfl hl (by decide) rfl (fun ls hl => ?_)
  refine r_aload_n X.1 X.2.1 d_K_isUpToDate_5 rfl (lv_at hl 0 rfl) ?_
  refine r_ifnull (tgt := 32) X.1 X.2.1 d_K_isUpToDate_6 (by decide) (fun hn => ?_) (fun wn hn => ?_)
  · skip
    rw [hn] at hl
    have hl : lv_has ls 3 [(2, .null), (0, .ref (ad 0 0)), (1, .ref (ad 5 g))] := hl
    refine lv_iconst (v := 0) X.1 X.2.1 d_K_isUpToDate_32 (by decide) ?_
    exact m_zret X hr hlk hM (by first | rfl | decide) d_K_isUpToDate_33 ⟨Nat.le_of_ble_eq_true rfl, Nat.le_of_ble_eq_true rfl⟩ (mExt_rf _ _) ⟨b0 (by unfold upD; rw [hn]; exact Bool.false_ne_true), rfl, rfl⟩
  · skip
    rw [hn] at hl
    have hl : lv_has ls 3 [(2, .ref (ad 7 wn)), (0, .ref (ad 0 0)), (1, .ref (ad 5 g))] := hl
    refine lv_aload_n X.1 X.2.1 d_K_isUpToDate_9 rfl (lv_at hl 0 rfl) ?_
    refine r_geti X hM rfl ((nwst_lv hM hg) wn hn) f_K_216 rfl d_K_isUpToDate_10 ?_
    refine lv_aload_n X.1 X.2.1 d_K_isUpToDate_13 rfl (lv_at hl 1 rfl) ?_
    refine r_gets (q := 0) X hM rfl (w_k hw) f_K_11 rfl (w_0_0 hw) d_K_isUpToDate_14 (fun hv2 => ?_)
    refine lv_aload_n X.1 X.2.1 d_K_isUpToDate_17 rfl (lv_at hl 2 rfl) ?_
    refine r_geti X hM rfl hg f_K_235 rfl d_K_isUpToDate_18 ?_
    refine r_aalds (q := k) X hM rfl hv2 a_scripts (fun _ => rfl) (j := k) hs hk (w_sc hw hk) d_K_isUpToDate_21 (fun hv3 => ?_)
    refine r_geti X hM rfl hv3 f_K_84 rfl d_K_isUpToDate_22 ?_
    refine lv_icmp_ne (tgt := 32) X.1 X.2.1 d_K_isUpToDate_25 (by decide) (fun hq => ?_) (fun hq => ?_)
    · skip
      refine lv_iconst (v := 0) X.1 X.2.1 d_K_isUpToDate_32 (by decide) ?_
      exact m_zret X hr hlk hM (by first | rfl | decide) d_K_isUpToDate_33 ⟨Nat.le_of_ble_eq_true rfl, Nat.le_of_ble_eq_true rfl⟩ (mExt_rf _ _) ⟨b0 (by unfold upD; rw [hn]; intro z; have z := of_decide_eq_true z; rw [hs, nI_clamp (by omega)] at z; exact hq z), rfl, rfl⟩
    · skip
      refine lv_iconst (v := 1) X.1 X.2.1 d_K_isUpToDate_28 (by decide) ?_
      refine lv_goto (tgt := 33) X.1 X.2.1 d_K_isUpToDate_29 (by decide) ?_
      exact m_zret X hr hlk hM (by first | rfl | decide) d_K_isUpToDate_33 ⟨Nat.le_of_ble_eq_true rfl, Nat.le_of_ble_eq_true rfl⟩ (mExt_rf _ _) ⟨b1 (by unfold upD; rw [hn]; exact decide_eq_true (by rw [hs, nI_clamp (by omega)]; exact hq)), rfl, rfl⟩
end
section
set_option maxHeartbeats 4000000 in
set_option maxRecDepth 100000 in
theorem k_K_registrationFor (l : Launch) (D : va_G) (dA : Nat → ClassId) (base : Nat) (M : mM) (ad : Nat → Nat → Nat) (hw : wK M) (path : Int32) : mMet l y_K_registrationFor b_K_registrationFor 6 (some (FieldType.object "ScopeKeeper$Registration")) ({ frames := 1, cells := 0, slots := 0, locals := 40 } : Room) 0 0 D dA base M ad [.ref (ad 0 0), .int path] (mSame M ad (some (rfv ad 5 (rgFor M path)))) := by
  refine m_start (lvs := [(0, .ref (ad 0 0)), (1, .int path)]) (by decide) (Nat.le_of_ble_eq_true rfl) rfl ?_
  intro p e s m below meth c ls X hr hlk hin hml hM hl
  refine lv_null X.1 X.2.1 d_K_registrationFor_0 ?_
  refine lv_astore_nN (lv' := [(2, .null), (0, .ref (ad 0 0)), (1, .int path)]) X.1 X.2.1 d_K_registrationFor_1 rfl hl (by decide) rfl (fun ls hl => ?_)
  refine lv_iconst (v := 0) X.1 X.2.1 d_K_registrationFor_2 (by decide) ?_
  refine lv_istore_n (lv' := [(3, .int 0), (2, .null), (0, .ref (ad 0 0)), (1, .int path)]) X.1 X.2.1 d_K_registrationFor_3 rfl hl (by decide) rfl (fun ls hl => ?_)
  have hN := w_nrl hw
  refine w_upW (nRg M) (fun ls => F0 m 4 ls []) (fun i H L ls => mSt D dA base M ad s.heap H L ∧ lv_has ls 6 [(2, rfv ad 5 (rfB M path i)), (3, .int (nI i)), (0, .ref (ad 0 0)), (1, .int path)] ∧ True) ?_ ?_ 0 _ _ ls (by omega) ⟨hM, lv_sub hl [1, 0, 2, 3] rfl, trivial⟩
  · rintro H locs ls ⟨hM, hl, hI⟩
    refine lv_iload_n X.1 X.2.1 d_K_registrationFor_4 rfl (lv_at hl 1 rfl) ?_
    refine lv_aload_n X.1 X.2.1 d_K_registrationFor_5 rfl (lv_at hl 2 rfl) ?_
    refine r_geti X hM rfl (w_k hw) f_K_38 rfl d_K_registrationFor_6 ?_
    refine lv_icmp_ge (tgt := 85) X.1 X.2.1 d_K_registrationFor_9 (by decide) (fun hz51 => ?_) (fun hz51 => absurd (by rw [w_nr hw]; exact Int32.le_refl _) hz51)
    refine r_aload_n X.1 X.2.1 d_K_registrationFor_85 rfl (lv_at hl 0 rfl) ?_
    exact m_aret X hr hlk hM (by first | rfl | exact rfv_isRef _ _ _) d_K_registrationFor_86 ⟨Nat.le_of_ble_eq_true rfl, Nat.le_of_ble_eq_true rfl⟩ (mExt_rf _ _) ⟨rfl, rfl, rfl⟩
  · rintro i hi ih H locs ls ⟨hM, hl, hI⟩
    have hge : ¬ gi M 0 0 6 ≤ nI i := by rw [w_nr hw]; exact nI_ge hi (by omega)
    refine lv_iload_n X.1 X.2.1 d_K_registrationFor_4 rfl (lv_at hl 1 rfl) ?_
    refine lv_aload_n X.1 X.2.1 d_K_registrationFor_5 rfl (lv_at hl 2 rfl) ?_
    refine r_geti X hM rfl (w_k hw) f_K_38 rfl d_K_registrationFor_6 ?_
    refine lv_icmp_ge (tgt := 85) X.1 X.2.1 d_K_registrationFor_9 (by decide) (fun hz51 => absurd hz51 hge) (fun hz51 => ?_)
    refine lv_aload_n X.1 X.2.1 d_K_registrationFor_12 rfl (lv_at hl 2 rfl) ?_
    refine r_gets (q := 0) X hM rfl (w_k hw) f_K_34 rfl (w_0_5 hw) d_K_registrationFor_13 (fun hv52 => ?_)
    refine lv_iload_n X.1 X.2.1 d_K_registrationFor_16 rfl (lv_at hl 1 rfl) ?_
    refine r_aalds (q := (rgx M i)) X hM rfl hv52 a_regs (fun _ => rfl) (j := i) rfl (by omega) (w_rg hw hi) d_K_registrationFor_17 (fun hv53 => ?_)
    refine lv_astore (lv' := [(4, .ref (ad 5 ((rgx M i)))), (2, rfv ad 5 (rfB M path i)), (3, .int (nI i)), (0, .ref (ad 0 0)), (1, .int path)]) X.1 X.2.1 d_K_registrationFor_18 hl (by decide) rfl (fun ls hl => ?_)
    refine lv_aload X.1 X.2.1 d_K_registrationFor_20 (lv_at hl 0 rfl) ?_
    refine r_geti X hM rfl hv53 f_K_236 rfl d_K_registrationFor_22 ?_
    refine lv_if_ne (tgt := 52) X.1 X.2.1 d_K_registrationFor_25 (by decide) (fun h25 => ?_) (fun h25 => ?_)
    · skip
      refine lv_iconst (v := 0) X.1 X.2.1 d_K_registrationFor_52 (by decide) ?_
      refine lv_istore (lv' := [(5, .int 0), (4, .ref (ad 5 ((rgx M i)))), (2, rfv ad 5 (rfB M path i)), (3, .int (nI i)), (0, .ref (ad 0 0)), (1, .int path)]) X.1 X.2.1 d_K_registrationFor_53 hl (by decide) rfl (fun ls hl => ?_)
      refine lv_iload X.1 X.2.1 d_K_registrationFor_55 (lv_at hl 0 rfl) ?_
      refine lv_if_eq (tgt := 79) X.1 X.2.1 d_K_registrationFor_57 (by decide) (fun hz54 => ?_) (fun hz54 => absurd (by decide) hz54)
      obtain ⟨xi, e_xi⟩ : ∃ z : Int32, z = (nI i) + 1 := ⟨_, rfl⟩
      refine lv_iinc (v := xi) (lv' := [(3, .int xi), (5, .int 0), (4, .ref (ad 5 ((rgx M i)))), (2, rfv ad 5 (rfB M path i)), (0, .ref (ad 0 0)), (1, .int path)]) X.1 X.2.1 d_K_registrationFor_79 hl (k := 3) rfl (by rw [e_xi]; rfl) (by decide) (by simp only [List.filter_cons, List.filter_nil, rfv_cat]; rfl) (fun ls hl => ?_)
      refine lv_goto (tgt := 4) X.1 X.2.1 d_K_registrationFor_82 (by decide) ?_
      have e9 := e_xi.trans (nI_1 i)
      subst e9
      have hf : ¬ fitR M path (rgx M i) = true := fun z => h25 (of_decide_eq_true z).1
      exact ih _ _ ls ⟨hM, (by rw [rfB_f1 hf]; exact lv_sub hl [3, 0, 4, 5] rfl), trivial⟩
    · skip
      refine lv_aload X.1 X.2.1 d_K_registrationFor_28 (lv_at hl 0 rfl) ?_
      refine r_getr X hM rfl hv53 f_K_169 rfl d_K_registrationFor_30 (fun hv55 => ?_)
      refine r_ifnull (tgt := 52) X.1 X.2.1 d_K_registrationFor_33 (by decide) (fun h33 => ?_) (fun w4 h33 => ?_)
      · skip
        refine lv_iconst (v := 0) X.1 X.2.1 d_K_registrationFor_52 (by decide) ?_
        refine lv_istore (lv' := [(5, .int 0), (4, .ref (ad 5 ((rgx M i)))), (2, rfv ad 5 (rfB M path i)), (3, .int (nI i)), (0, .ref (ad 0 0)), (1, .int path)]) X.1 X.2.1 d_K_registrationFor_53 hl (by decide) rfl (fun ls hl => ?_)
        refine lv_iload X.1 X.2.1 d_K_registrationFor_55 (lv_at hl 0 rfl) ?_
        refine lv_if_eq (tgt := 79) X.1 X.2.1 d_K_registrationFor_57 (by decide) (fun hz56 => ?_) (fun hz56 => absurd (by decide) hz56)
        obtain ⟨xi, e_xi⟩ : ∃ z : Int32, z = (nI i) + 1 := ⟨_, rfl⟩
        refine lv_iinc (v := xi) (lv' := [(3, .int xi), (5, .int 0), (4, .ref (ad 5 ((rgx M i)))), (2, rfv ad 5 (rfB M path i)), (0, .ref (ad 0 0)), (1, .int path)]) X.1 X.2.1 d_K_registrationFor_79 hl (k := 3) rfl (by rw [e_xi]; rfl) (by decide) (by simp only [List.filter_cons, List.filter_nil, rfv_cat]; rfl) (fun ls hl => ?_)
        refine lv_goto (tgt := 4) X.1 X.2.1 d_K_registrationFor_82 (by decide) ?_
        have e9 := e_xi.trans (nI_1 i)
        subst e9
        have hf : ¬ fitR M path (rgx M i) = true := fun z => (of_decide_eq_true z).2.1 h33
        exact ih _ _ ls ⟨hM, (by rw [rfB_f1 hf]; exact lv_sub hl [3, 0, 4, 5] rfl), trivial⟩
      · skip
        refine lv_aload X.1 X.2.1 d_K_registrationFor_36 (lv_at hl 0 rfl) ?_
        refine r_geti X hM rfl hv53 f_K_272 rfl d_K_registrationFor_38 ?_
        refine lv_iload_n X.1 X.2.1 d_K_registrationFor_41 rfl (lv_at hl 4 rfl) ?_
        refine r_cS (As := [.int (gi M 5 (rgx M i) 0), .int path]) (rest := []) X hml hl.1 hM (k_K_begins l D dA base M ad (gi M 5 (rgx M i) 0) path) c_K_310 v_K_begins rfl (Nat.le_of_ble_eq_true rfl) ⟨rfl, rfl, Nat.le_of_ble_eq_true rfl, Nat.le_of_ble_eq_true rfl⟩ ⟨Nat.le_of_ble_eq_true rfl, Nat.le_of_ble_eq_true rfl⟩ d_K_registrationFor_42 ?_
        intro rv M1 ad1 H locs hP hM hE
        obtain ⟨e1, e2, e3⟩ := hP
        subst rv; subst M1; subst ad1
        show W _ _ _ _ _ _ _ _ _ _ _ _ _ _ _ (F0 m 45 ls [.int (if bgs (gi M 5 (rgx M i) 0) path = true then 1 else 0)])
        refine lv_if_eq (tgt := 52) X.1 X.2.1 d_K_registrationFor_45 (by decide) (fun h45 => ?_) (fun h45 => ?_)
        · skip
          refine lv_iconst (v := 0) X.1 X.2.1 d_K_registrationFor_52 (by decide) ?_
          refine lv_istore (lv' := [(5, .int 0), (4, .ref (ad 5 ((rgx M i)))), (2, rfv ad 5 (rfB M path i)), (3, .int (nI i)), (0, .ref (ad 0 0)), (1, .int path)]) X.1 X.2.1 d_K_registrationFor_53 hl (by decide) rfl (fun ls hl => ?_)
          refine lv_iload X.1 X.2.1 d_K_registrationFor_55 (lv_at hl 0 rfl) ?_
          refine lv_if_eq (tgt := 79) X.1 X.2.1 d_K_registrationFor_57 (by decide) (fun hz58 => ?_) (fun hz58 => absurd (by decide) hz58)
          obtain ⟨xi, e_xi⟩ : ∃ z : Int32, z = (nI i) + 1 := ⟨_, rfl⟩
          refine lv_iinc (v := xi) (lv' := [(3, .int xi), (5, .int 0), (4, .ref (ad 5 ((rgx M i)))), (2, rfv ad 5 (rfB M path i)), (0, .ref (ad 0 0)), (1, .int path)]) X.1 X.2.1 d_K_registrationFor_79 hl (k := 3) rfl (by rw [e_xi]; rfl) (by decide) (by simp only [List.filter_cons, List.filter_nil, rfv_cat]; rfl) (fun ls hl => ?_)
          refine lv_goto (tgt := 4) X.1 X.2.1 d_K_registrationFor_82 (by decide) ?_
          have e9 := e_xi.trans (nI_1 i)
          subst e9
          have hf : ¬ fitR M path (rgx M i) = true := fun z => be0 h45 (of_decide_eq_true z).2.2
          exact ih _ _ ls ⟨hM, (by rw [rfB_f1 hf]; exact lv_sub hl [3, 0, 4, 5] rfl), trivial⟩
        · skip
          refine lv_iconst (v := 1) X.1 X.2.1 d_K_registrationFor_48 (by decide) ?_
          refine lv_goto (tgt := 53) X.1 X.2.1 d_K_registrationFor_49 (by decide) ?_
          refine lv_istore (lv' := [(5, .int 1), (4, .ref (ad 5 ((rgx M i)))), (2, rfv ad 5 (rfB M path i)), (3, .int (nI i)), (0, .ref (ad 0 0)), (1, .int path)]) X.1 X.2.1 d_K_registrationFor_53 hl (by decide) rfl (fun ls hl => ?_)
          refine lv_iload X.1 X.2.1 d_K_registrationFor_55 (lv_at hl 0 rfl) ?_
          refine lv_if_eq (tgt := 79) X.1 X.2.1 d_K_registrationFor_57 (by decide) (fun hz59 => absurd hz59 (by decide)) (fun hz59 => ?_)
          refine r_aload_n X.1 X.2.1 d_K_registrationFor_60 rfl (lv_at hl 2 rfl) ?_
          refine r_ifnull (tgt := 76) X.1 X.2.1 d_K_registrationFor_61 (by decide) (fun h61 => ?_) (fun wb h61 => ?_)
          · skip
            rw [h61] at hl
            have hl : lv_has ls 6 [(5, .int 1), (4, .ref (ad 5 ((rgx M i)))), (2, .null), (3, .int (nI i)), (0, .ref (ad 0 0)), (1, .int path)] := hl
            refine lv_aload X.1 X.2.1 d_K_registrationFor_76 (lv_at hl 1 rfl) ?_
            refine lv_astore_n (lv' := [(2, .ref (ad 5 ((rgx M i)))), (5, .int 1), (4, .ref (ad 5 ((rgx M i)))), (3, .int (nI i)), (0, .ref (ad 0 0)), (1, .int path)]) X.1 X.2.1 d_K_registrationFor_78 rfl hl (by decide) rfl (fun ls hl => ?_)
            obtain ⟨xi, e_xi⟩ : ∃ z : Int32, z = (nI i) + 1 := ⟨_, rfl⟩
            refine lv_iinc (v := xi) (lv' := [(3, .int xi), (2, .ref (ad 5 ((rgx M i)))), (5, .int 1), (4, .ref (ad 5 ((rgx M i)))), (0, .ref (ad 0 0)), (1, .int path)]) X.1 X.2.1 d_K_registrationFor_79 hl (k := 3) rfl (by rw [e_xi]; rfl) (by decide) rfl (fun ls hl => ?_)
            refine lv_goto (tgt := 4) X.1 X.2.1 d_K_registrationFor_82 (by decide) ?_
            have e9 := e_xi.trans (nI_1 i)
            subst e9
            have hf : fitR M path (rgx M i) = true := decide_eq_true ⟨h25, by rw [h33]; exact (fun z => nomatch z), bn0 h45⟩
            have hb9 : betR M (rfB M path i) (rgx M i) = true := by rw [h61]; first | rfl | exact decide_eq_true (Int32.not_le.mp h73)
            exact ih _ _ ls ⟨hM, (by rw [rfB_t hf hb9]; exact lv_sub hl [1, 0, 4, 5] rfl), trivial⟩
          · skip
            rw [h61] at hl
            have hl : lv_has ls 6 [(5, .int 1), (4, .ref (ad 5 ((rgx M i)))), (2, .ref (ad 5 wb)), (3, .int (nI i)), (0, .ref (ad 0 0)), (1, .int path)] := hl
            refine lv_aload X.1 X.2.1 d_K_registrationFor_64 (lv_at hl 1 rfl) ?_
            refine r_geti X hM rfl hv53 f_K_272 rfl d_K_registrationFor_66 ?_
            refine lv_aload_n X.1 X.2.1 d_K_registrationFor_69 rfl (lv_at hl 2 rfl) ?_
            refine r_geti X hM rfl ((rfB_lv hM hw (by omega)) wb h61) f_K_272 rfl d_K_registrationFor_70 ?_
            refine lv_icmp_le (tgt := 79) X.1 X.2.1 d_K_registrationFor_73 (by decide) (fun h73 => ?_) (fun h73 => ?_)
            · skip
              obtain ⟨xi, e_xi⟩ : ∃ z : Int32, z = (nI i) + 1 := ⟨_, rfl⟩
              refine lv_iinc (v := xi) (lv' := [(3, .int xi), (5, .int 1), (4, .ref (ad 5 ((rgx M i)))), (2, .ref (ad 5 wb)), (0, .ref (ad 0 0)), (1, .int path)]) X.1 X.2.1 d_K_registrationFor_79 hl (k := 3) rfl (by rw [e_xi]; rfl) (by decide) rfl (fun ls hl => ?_)
              refine lv_goto (tgt := 4) X.1 X.2.1 d_K_registrationFor_82 (by decide) ?_
              have e9 := e_xi.trans (nI_1 i)
              subst e9
              have hf : fitR M path (rgx M i) = true := decide_eq_true ⟨h25, by rw [h33]; exact (fun z => nomatch z), bn0 h45⟩
              have hb9 : ¬ betR M (rfB M path i) (rgx M i) = true := by rw [h61]; exact fun z => absurd (of_decide_eq_true z) (Int32.not_lt.mpr h73)
              exact ih _ _ ls ⟨hM, (by rw [rfB_f2 hb9, h61]; exact lv_sub hl [3, 0, 4, 5] rfl), trivial⟩
            · skip
              refine lv_aload X.1 X.2.1 d_K_registrationFor_76 (lv_at hl 1 rfl) ?_
              refine lv_astore_n (lv' := [(2, .ref (ad 5 ((rgx M i)))), (5, .int 1), (4, .ref (ad 5 ((rgx M i)))), (3, .int (nI i)), (0, .ref (ad 0 0)), (1, .int path)]) X.1 X.2.1 d_K_registrationFor_78 rfl hl (by decide) rfl (fun ls hl => ?_)
              obtain ⟨xi, e_xi⟩ : ∃ z : Int32, z = (nI i) + 1 := ⟨_, rfl⟩
              refine lv_iinc (v := xi) (lv' := [(3, .int xi), (2, .ref (ad 5 ((rgx M i)))), (5, .int 1), (4, .ref (ad 5 ((rgx M i)))), (0, .ref (ad 0 0)), (1, .int path)]) X.1 X.2.1 d_K_registrationFor_79 hl (k := 3) rfl (by rw [e_xi]; rfl) (by decide) rfl (fun ls hl => ?_)
              refine lv_goto (tgt := 4) X.1 X.2.1 d_K_registrationFor_82 (by decide) ?_
              have e9 := e_xi.trans (nI_1 i)
              subst e9
              have hf : fitR M path (rgx M i) = true := decide_eq_true ⟨h25, by rw [h33]; exact (fun z => nomatch z), bn0 h45⟩
              have hb9 : betR M (rfB M path i) (rgx M i) = true := by rw [h61]; first | rfl | exact decide_eq_true (Int32.not_le.mp h73)
              exact ih _ _ ls ⟨hM, (by rw [rfB_t hf hb9]; exact lv_sub hl [1, 0, 4, 5] rfl), trivial⟩
end
section
/-- a worker's cache c: its arrays, its size z -/
def wC (M : mM) (c z : Nat) : Prop := c < gn M 6 ∧ gr M 6 c 0 = some c ∧ gr M 6 c 1 = some c ∧ gi M 6 c 2 = nI z ∧ z ≤ 4
def plc (M : mM) (c : Nat) (x : Int32) (z : Nat) : Nat := (ff (fun i => decide (gi M 15 c i = x)) z 0).getD z
theorem ff_lt {p : Nat → Bool} : ∀ {n i q : Nat}, ff p n i = some q → i ≤ q ∧ q < i + n ∧ p q = true := by
  intro n
  induction n with
  | zero => intro i q h; cases h
  | succ n ih =>
    intro i q h
    unfold ff at h
    by_cases hp : p i = true
    · rw [if_pos hp] at h
      cases h
      exact ⟨Nat.le_refl _, by omega, hp⟩
    · rw [if_neg hp] at h
      obtain ⟨h1, h2, h3⟩ := ih h
      exact ⟨by omega, by omega, h3⟩
theorem plc_le (M : mM) (c : Nat) (x : Int32) (z : Nat) : plc M c x z ≤ z := by
  unfold plc
  cases h : ff (fun i => decide (gi M 15 c i = x)) z 0 with
  | none => exact Nat.le_refl _
  | some q => have := ff_lt h; show q ≤ z; omega
/-- the value at a place, 0 without -/
def atC (M : mM) (k c z : Nat) (x : Int32) : Int32 := if 0 ≤ x ∧ x < nI z then gi M k c x.toNatClampNeg else 0
/-- places from p up to q have come one down -/
def shM (M : mM) (c p q : Nat) : mM := (fun k i j => if (k = 15 ∨ k = 16) ∧ i = c ∧ p ≤ j ∧ j < q then M.1 k c (j + 1) else M.1 k i j, M.2)
theorem gi_sh (M : mM) (c p q k i j : Nat) : gi (shM M c p q) k i j = if (k = 15 ∨ k = 16) ∧ i = c ∧ p ≤ j ∧ j < q then M.1 k c (j + 1) else gi M k i j := rfl
theorem shM_0 (M : mM) (c p : Nat) : shM M c p p = M := by
  have : (fun k i j => if (k = 15 ∨ k = 16) ∧ i = c ∧ p ≤ j ∧ j < p then M.1 k c (j + 1) else M.1 k i j) = M.1 := by
    funext k i j
    rw [if_neg (fun h => by omega)]
  unfold shM
  rw [this]
theorem shM_s (M : mM) (c p q : Nat) (h : p ≤ q) : si (si (shM M c p q) 15 c q (gi (shM M c p q) 15 c (q + 1))) 16 c q (gi (si (shM M c p q) 15 c q (gi (shM M c p q) 15 c (q + 1))) 16 c (q + 1)) = shM M c p (q + 1) := by
  have e1 : gi (shM M c p q) 15 c (q + 1) = M.1 15 c (q + 1) := by
    show ite _ _ _ = _
    rw [if_neg (fun h => by omega)]
  have e2 : gi (si (shM M c p q) 15 c q (gi (shM M c p q) 15 c (q + 1))) 16 c (q + 1) = M.1 16 c (q + 1) := by
    rw [gi_si, if_neg (fun h => by omega)]
    show ite _ _ _ = _
    rw [if_neg (fun h => by omega)]
  rw [e2, e1]
  have : (fun k i j => if k = 16 ∧ i = c ∧ j = q then M.1 16 c (q + 1) else if k = 15 ∧ i = c ∧ j = q then M.1 15 c (q + 1) else if (k = 15 ∨ k = 16) ∧ i = c ∧ p ≤ j ∧ j < q then M.1 k c (j + 1) else M.1 k i j) = (fun k i j => if (k = 15 ∨ k = 16) ∧ i = c ∧ p ≤ j ∧ j < q + 1 then M.1 k c (j + 1) else M.1 k i j) := by
    funext k i j
    by_cases h1 : k = 16 ∧ i = c ∧ j = q
    · obtain ⟨rfl, rfl, rfl⟩ := h1
      rw [if_pos ⟨rfl, rfl, rfl⟩, if_pos ⟨Or.inr rfl, rfl, h, by omega⟩]
    · rw [if_neg h1]
      by_cases h2 : k = 15 ∧ i = c ∧ j = q
      · obtain ⟨rfl, rfl, rfl⟩ := h2
        rw [if_pos ⟨rfl, rfl, rfl⟩, if_pos ⟨Or.inl rfl, rfl, h, by omega⟩]
      · rw [if_neg h2]
        by_cases h3 : (k = 15 ∨ k = 16) ∧ i = c ∧ p ≤ j ∧ j < q
        · rw [if_pos h3, if_pos ⟨h3.1, h3.2.1, h3.2.2.1, by omega⟩]
        · rw [if_neg h3, if_neg]
          rintro ⟨h4, h5, h6, h7⟩
          by_cases h8 : j = q
          · rcases h4 with h4 | h4
            · exact h2 ⟨h4, h5, h8⟩
            · exact h1 ⟨h4, h5, h8⟩
          · exact h3 ⟨h4, h5, h6, by omega⟩
  show ((_, M.2) : mM) = (_, M.2)
  exact congrArg (fun f => ((f, M.2) : mM)) this
/-- place p of z goes -/
def drpM (M : mM) (c p z : Nat) : mM := si (shM M c p (z - 1)) 6 c 2 (nI (z - 1))
/-- a path comes behind all others, with its value -/
def kepM (M : mM) (c : Nat) (x y : Int32) (z : Nat) : mM :=
  if plc M c x z < z then si (si (si (drpM M c (plc M c x z) z) 15 c (z - 1) x) 16 c (z - 1) y) 6 c 2 (nI z)
  else if z = 4 then si (si (si (drpM M c 0 4) 15 c 3 x) 16 c 3 y) 6 c 2 (nI 4)
  else si (si (si M 15 c z x) 16 c z y) 6 c 2 (nI (z + 1))
set_option maxHeartbeats 4000000 in
set_option maxRecDepth 100000 in
theorem k_Ca_placeOf (l : Launch) (D : va_G) (dA : Nat → ClassId) (base : Nat) (M : mM) (ad : Nat → Nat → Nat) (u z : Nat) (hc : wC M u z) (x : Int32) : mMet l y_Ca_placeOf b_Ca_placeOf 3 (some FieldType.int) ({ frames := 0, cells := 0, slots := 0, locals := 0 } : Room) 0 0 D dA base M ad [.ref (ad 6 u), .int x] (mSame M ad (some (.int (nI (plc M u x z))))) := by
  refine m_start (lvs := [(0, .ref (ad 6 u)), (1, .int x)]) (by decide) (Nat.le_of_ble_eq_true rfl) rfl ?_
  intro p e s m below meth c ls X hr hlk hin hml hM hl
  refine lv_iconst (v := 0) X.1 X.2.1 d_Ca_placeOf_0 (by decide) ?_
  refine lv_istore_n (lv' := [(2, .int 0), (0, .ref (ad 6 u)), (1, .int x)]) X.1 X.2.1 d_Ca_placeOf_1 rfl hl (by decide) rfl (fun ls hl => ?_)
  have hz4 := hc.2.2.2.2
  refine w_upW z (fun ls => F0 m 2 ls []) (fun i H L ls => mSt D dA base M ad s.heap H L ∧ lv_has ls 3 [(2, .int (nI i)), (0, .ref (ad 6 u)), (1, .int x)] ∧ ff (fun i => decide (gi M 15 u i = x)) (z - i) i = ff (fun i => decide (gi M 15 u i = x)) z 0) ?_ ?_ 0 _ _ ls (by omega) ⟨hM, lv_sub hl [0, 1, 2] rfl, by rw [Nat.sub_zero]⟩
  · rintro H locs ls ⟨hM, hl, hI⟩
    rw [Nat.sub_self] at hI
    refine lv_iload_n X.1 X.2.1 d_Ca_placeOf_2 rfl (lv_at hl 0 rfl) ?_
    refine lv_aload_n X.1 X.2.1 d_Ca_placeOf_3 rfl (lv_at hl 1 rfl) ?_
    refine r_geti X hM rfl hc.1 f_Ca_18 rfl d_Ca_placeOf_4 ?_
    refine lv_icmp_ge (tgt := 26) X.1 X.2.1 d_Ca_placeOf_7 (by decide) (fun hz51 => ?_) (fun hz51 => absurd (by rw [hc.2.2.2.1]; exact Int32.le_refl _) hz51)
    refine lv_iload_n X.1 X.2.1 d_Ca_placeOf_26 rfl (lv_at hl 0 rfl) ?_
    exact m_iret X hr hlk hM d_Ca_placeOf_27 ⟨Nat.le_of_ble_eq_true rfl, Nat.le_of_ble_eq_true rfl⟩ (mExt_rf _ _) ⟨by unfold plc; rw [← hI]; rfl, rfl, rfl⟩
  · rintro i hi ih H locs ls ⟨hM, hl, hI⟩
    rw [show z - i = (z - (i + 1)) + 1 by omega] at hI
    have hge : ¬ gi M 6 u 2 ≤ nI i := by rw [hc.2.2.2.1]; exact nI_ge hi (by omega)
    refine lv_iload_n X.1 X.2.1 d_Ca_placeOf_2 rfl (lv_at hl 0 rfl) ?_
    refine lv_aload_n X.1 X.2.1 d_Ca_placeOf_3 rfl (lv_at hl 1 rfl) ?_
    refine r_geti X hM rfl hc.1 f_Ca_18 rfl d_Ca_placeOf_4 ?_
    refine lv_icmp_ge (tgt := 26) X.1 X.2.1 d_Ca_placeOf_7 (by decide) (fun hz51 => absurd hz51 hge) (fun hz51 => ?_)
    refine lv_aload_n X.1 X.2.1 d_Ca_placeOf_10 rfl (lv_at hl 1 rfl) ?_
    refine r_gets (q := u) X hM rfl hc.1 f_Ca_9 rfl hc.2.1 d_Ca_placeOf_11 (fun hv52 => ?_)
    refine lv_iload_n X.1 X.2.1 d_Ca_placeOf_14 rfl (lv_at hl 0 rfl) ?_
    refine r_iald X hM rfl hv52 a_paths (fun _ => rfl) (j := i) rfl (by omega) d_Ca_placeOf_15 ?_
    refine lv_iload_n X.1 X.2.1 d_Ca_placeOf_16 rfl (lv_at hl 2 rfl) ?_
    refine lv_icmp_eq (tgt := 26) X.1 X.2.1 d_Ca_placeOf_17 (by decide) (fun hq0 => ?_) (fun hq0 => ?_)
    · skip
      refine lv_iload_n X.1 X.2.1 d_Ca_placeOf_26 rfl (lv_at hl 0 rfl) ?_
      exact m_iret X hr hlk hM d_Ca_placeOf_27 ⟨Nat.le_of_ble_eq_true rfl, Nat.le_of_ble_eq_true rfl⟩ (mExt_rf _ _) ⟨by unfold plc; rw [← hI, ff_t (decide_eq_true hq0)]; rfl, rfl, rfl⟩
    · skip
      obtain ⟨xi, e_xi⟩ : ∃ z : Int32, z = (nI i) + 1 := ⟨_, rfl⟩
      refine lv_iinc (v := xi) (lv' := [(2, .int xi), (0, .ref (ad 6 u)), (1, .int x)]) X.1 X.2.1 d_Ca_placeOf_20 hl (k := 0) rfl (by rw [e_xi]; rfl) (by decide) rfl (fun ls hl => ?_)
      refine lv_goto (tgt := 2) X.1 X.2.1 d_Ca_placeOf_23 (by decide) ?_
      have e9 := e_xi.trans (nI_1 i)
      subst e9
      exact ih _ _ ls ⟨hM, lv_sub hl [0, 1, 2] rfl, by rw [← hI]; exact (ff_f (fun z => hq0 (of_decide_eq_true z))).symm⟩
set_option maxHeartbeats 4000000 in
set_option maxRecDepth 100000 in
theorem k_Ca_has (l : Launch) (D : va_G) (dA : Nat → ClassId) (base : Nat) (M : mM) (ad : Nat → Nat → Nat) (u z : Nat) (hc : wC M u z) (x : Int32) : mMet l y_Ca_has b_Ca_has 2 (some FieldType.boolean) ({ frames := 1, cells := 0, slots := 0, locals := 40 } : Room) 0 0 D dA base M ad [.ref (ad 6 u), .int x] (mSame M ad (some (.int (if plc M u x z < z then 1 else 0)))) := by
  refine m_start (lvs := [(0, .ref (ad 6 u)), (1, .int x)]) (by decide) (Nat.le_of_ble_eq_true rfl) rfl ?_
  intro p e s m below meth c ls X hr hlk hin hml hM hl
  refine lv_aload_n X.1 X.2.1 d_Ca_has_0 rfl (lv_at hl 0 rfl) ?_
  refine lv_iload_n X.1 X.2.1 d_Ca_has_1 rfl (lv_at hl 1 rfl) ?_
  refine r_cV (As := [.int x]) (rest := []) X hml hl.1 hM (k_Ca_placeOf l D dA base M ad u z hc x) c_Ca_22 v_Ca_placeOf kc_Ca rfl hc.1 rfl (Nat.le_of_ble_eq_true rfl) ⟨rfl, rfl, Nat.le_of_ble_eq_true rfl, Nat.le_of_ble_eq_true rfl⟩ ⟨Nat.le_of_ble_eq_true rfl, Nat.le_of_ble_eq_true rfl⟩ d_Ca_has_2 ?_
  intro rv M1 ad1 H locs hP hM hE
  obtain ⟨e1, e2, e3⟩ := hP
  subst rv; subst M1; subst ad1
  show W _ _ _ _ _ _ _ _ _ _ _ _ _ _ _ (F0 m 5 ls [.int (nI (plc M u x z))])
  refine lv_aload_n X.1 X.2.1 d_Ca_has_5 rfl (lv_at hl 0 rfl) ?_
  refine r_geti X hM rfl hc.1 f_Ca_18 rfl d_Ca_has_6 ?_
  refine lv_icmp_ge (tgt := 16) X.1 X.2.1 d_Ca_has_9 (by decide) (fun hq => ?_) (fun hq => ?_)
  · skip
    refine lv_iconst (v := 0) X.1 X.2.1 d_Ca_has_16 (by decide) ?_
    exact m_zret X hr hlk hM (by first | rfl | decide) d_Ca_has_17 ⟨Nat.le_of_ble_eq_true rfl, Nat.le_of_ble_eq_true rfl⟩ (mExt_rf _ _) ⟨b0 (by rw [hc.2.2.2.1] at hq; have h8 := hc.2.2.2.2; exact fun z => nI_ge z (by omega) hq), rfl, rfl⟩
  · skip
    refine lv_iconst (v := 1) X.1 X.2.1 d_Ca_has_12 (by decide) ?_
    refine lv_goto (tgt := 17) X.1 X.2.1 d_Ca_has_13 (by decide) ?_
    exact m_zret X hr hlk hM (by first | rfl | decide) d_Ca_has_17 ⟨Nat.le_of_ble_eq_true rfl, Nat.le_of_ble_eq_true rfl⟩ (mExt_rf _ _) ⟨b1 (by rw [hc.2.2.2.1] at hq; have h9 := plc_le M u x z; have h8 := hc.2.2.2.2; exact Nat.lt_of_not_le (fun z => hq (nI_le z (by omega)))), rfl, rfl⟩
set_option maxHeartbeats 4000000 in
set_option maxRecDepth 100000 in
theorem k_Ca_pathAt (l : Launch) (D : va_G) (dA : Nat → ClassId) (base : Nat) (M : mM) (ad : Nat → Nat → Nat) (u z : Nat) (hc : wC M u z) (x : Int32) : mMet l y_Ca_pathAt b_Ca_pathAt 2 (some FieldType.int) ({ frames := 0, cells := 0, slots := 0, locals := 0 } : Room) 0 0 D dA base M ad [.ref (ad 6 u), .int x] (mSame M ad (some (.int (atC M 15 u z x)))) := by
  refine m_start (lvs := [(0, .ref (ad 6 u)), (1, .int x)]) (by decide) (Nat.le_of_ble_eq_true rfl) rfl ?_
  intro p e s m below meth c ls X hr hlk hin hml hM hl
  refine lv_iload_n X.1 X.2.1 d_Ca_pathAt_0 rfl (lv_at hl 1 rfl) ?_
  refine lv_if_lt (tgt := 21) X.1 X.2.1 d_Ca_pathAt_1 (by decide) (fun h1 => ?_) (fun h1 => ?_)
  · skip
    refine lv_iconst (v := 0) X.1 X.2.1 d_Ca_pathAt_21 (by decide) ?_
    exact m_iret X hr hlk hM d_Ca_pathAt_22 ⟨Nat.le_of_ble_eq_true rfl, Nat.le_of_ble_eq_true rfl⟩ (mExt_rf _ _) ⟨by unfold atC; rw [if_neg (fun z => absurd h1 (Int32.not_lt.mpr z.1))], rfl, rfl⟩
  · skip
    refine lv_iload_n X.1 X.2.1 d_Ca_pathAt_4 rfl (lv_at hl 1 rfl) ?_
    refine lv_aload_n X.1 X.2.1 d_Ca_pathAt_5 rfl (lv_at hl 0 rfl) ?_
    refine r_geti X hM rfl hc.1 f_Ca_18 rfl d_Ca_pathAt_6 ?_
    refine lv_icmp_ge (tgt := 21) X.1 X.2.1 d_Ca_pathAt_9 (by decide) (fun h2 => ?_) (fun h2 => ?_)
    · skip
      refine lv_iconst (v := 0) X.1 X.2.1 d_Ca_pathAt_21 (by decide) ?_
      exact m_iret X hr hlk hM d_Ca_pathAt_22 ⟨Nat.le_of_ble_eq_true rfl, Nat.le_of_ble_eq_true rfl⟩ (mExt_rf _ _) ⟨by unfold atC; rw [if_neg (fun z => absurd h2 (by rw [hc.2.2.2.1]; exact Int32.not_le.mpr z.2))], rfl, rfl⟩
    · skip
      have h8 := hc.2.2.2.2
      obtain ⟨j, hj, hxj⟩ : ∃ j, j < z ∧ x = nI j := by
        rcases pk_ix x (n := z) (by omega) with h9 | h9 | ⟨j, h9, h7⟩
        · exact absurd h9 h1
        · exact absurd (by rw [hc.2.2.2.1]; exact h9) h2
        · exact ⟨j, h9, h7⟩
      refine lv_aload_n X.1 X.2.1 d_Ca_pathAt_12 rfl (lv_at hl 0 rfl) ?_
      refine r_gets (q := u) X hM rfl hc.1 f_Ca_9 rfl hc.2.1 d_Ca_pathAt_13 (fun hv1 => ?_)
      refine lv_iload_n X.1 X.2.1 d_Ca_pathAt_16 rfl (lv_at hl 1 rfl) ?_
      refine r_iald X hM rfl hv1 a_paths (fun _ => rfl) (j := j) hxj (by omega) d_Ca_pathAt_17 ?_
      refine lv_goto (tgt := 22) X.1 X.2.1 d_Ca_pathAt_18 (by decide) ?_
      exact m_iret X hr hlk hM d_Ca_pathAt_22 ⟨Nat.le_of_ble_eq_true rfl, Nat.le_of_ble_eq_true rfl⟩ (mExt_rf _ _) ⟨by unfold atC; rw [if_pos ⟨Int32.not_lt.mp h1, by rw [← hc.2.2.2.1]; exact Int32.not_le.mp h2⟩, hxj, nI_clamp (by omega)], rfl, rfl⟩
set_option maxHeartbeats 4000000 in
set_option maxRecDepth 100000 in
theorem k_Ca_valueAt (l : Launch) (D : va_G) (dA : Nat → ClassId) (base : Nat) (M : mM) (ad : Nat → Nat → Nat) (u z : Nat) (hc : wC M u z) (x : Int32) : mMet l y_Ca_valueAt b_Ca_valueAt 2 (some FieldType.int) ({ frames := 0, cells := 0, slots := 0, locals := 0 } : Room) 0 0 D dA base M ad [.ref (ad 6 u), .int x] (mSame M ad (some (.int (atC M 16 u z x)))) := by
  refine m_start (lvs := [(0, .ref (ad 6 u)), (1, .int x)]) (by decide) (Nat.le_of_ble_eq_true rfl) rfl ?_
  intro p e s m below meth c ls X hr hlk hin hml hM hl
  refine lv_iload_n X.1 X.2.1 d_Ca_valueAt_0 rfl (lv_at hl 1 rfl) ?_
  refine lv_if_lt (tgt := 21) X.1 X.2.1 d_Ca_valueAt_1 (by decide) (fun h1 => ?_) (fun h1 => ?_)
  · skip
    refine lv_iconst (v := 0) X.1 X.2.1 d_Ca_valueAt_21 (by decide) ?_
    exact m_iret X hr hlk hM d_Ca_valueAt_22 ⟨Nat.le_of_ble_eq_true rfl, Nat.le_of_ble_eq_true rfl⟩ (mExt_rf _ _) ⟨by unfold atC; rw [if_neg (fun z => absurd h1 (Int32.not_lt.mpr z.1))], rfl, rfl⟩
  · skip
    refine lv_iload_n X.1 X.2.1 d_Ca_valueAt_4 rfl (lv_at hl 1 rfl) ?_
    refine lv_aload_n X.1 X.2.1 d_Ca_valueAt_5 rfl (lv_at hl 0 rfl) ?_
    refine r_geti X hM rfl hc.1 f_Ca_18 rfl d_Ca_valueAt_6 ?_
    refine lv_icmp_ge (tgt := 21) X.1 X.2.1 d_Ca_valueAt_9 (by decide) (fun h2 => ?_) (fun h2 => ?_)
    · skip
      refine lv_iconst (v := 0) X.1 X.2.1 d_Ca_valueAt_21 (by decide) ?_
      exact m_iret X hr hlk hM d_Ca_valueAt_22 ⟨Nat.le_of_ble_eq_true rfl, Nat.le_of_ble_eq_true rfl⟩ (mExt_rf _ _) ⟨by unfold atC; rw [if_neg (fun z => absurd h2 (by rw [hc.2.2.2.1]; exact Int32.not_le.mpr z.2))], rfl, rfl⟩
    · skip
      have h8 := hc.2.2.2.2
      obtain ⟨j, hj, hxj⟩ : ∃ j, j < z ∧ x = nI j := by
        rcases pk_ix x (n := z) (by omega) with h9 | h9 | ⟨j, h9, h7⟩
        · exact absurd h9 h1
        · exact absurd (by rw [hc.2.2.2.1]; exact h9) h2
        · exact ⟨j, h9, h7⟩
      refine lv_aload_n X.1 X.2.1 d_Ca_valueAt_12 rfl (lv_at hl 0 rfl) ?_
      refine r_gets (q := u) X hM rfl hc.1 f_Ca_15 rfl hc.2.2.1 d_Ca_valueAt_13 (fun hv1 => ?_)
      refine lv_iload_n X.1 X.2.1 d_Ca_valueAt_16 rfl (lv_at hl 1 rfl) ?_
      refine r_iald X hM rfl hv1 a_values (fun _ => rfl) (j := j) hxj (by omega) d_Ca_valueAt_17 ?_
      refine lv_goto (tgt := 22) X.1 X.2.1 d_Ca_valueAt_18 (by decide) ?_
      exact m_iret X hr hlk hM d_Ca_valueAt_22 ⟨Nat.le_of_ble_eq_true rfl, Nat.le_of_ble_eq_true rfl⟩ (mExt_rf _ _) ⟨by unfold atC; rw [if_pos ⟨Int32.not_lt.mp h1, by rw [← hc.2.2.2.1]; exact Int32.not_le.mp h2⟩, hxj, nI_clamp (by omega)], rfl, rfl⟩
set_option maxHeartbeats 4000000 in
set_option maxRecDepth 100000 in
theorem k_Ca_valueOf (l : Launch) (D : va_G) (dA : Nat → ClassId) (base : Nat) (M : mM) (ad : Nat → Nat → Nat) (u z : Nat) (hc : wC M u z) (x : Int32) : mMet l y_Ca_valueOf b_Ca_valueOf 2 (some FieldType.int) ({ frames := 1, cells := 0, slots := 0, locals := 40 } : Room) 0 0 D dA base M ad [.ref (ad 6 u), .int x] (mSame M ad (some (.int (atC M 16 u z (nI (plc M u x z)))))) := by
  refine m_start (lvs := [(0, .ref (ad 6 u)), (1, .int x)]) (by decide) (Nat.le_of_ble_eq_true rfl) rfl ?_
  intro p e s m below meth c ls X hr hlk hin hml hM hl
  refine lv_aload_n X.1 X.2.1 d_Ca_valueOf_0 rfl (lv_at hl 0 rfl) ?_
  refine lv_aload_n X.1 X.2.1 d_Ca_valueOf_1 rfl (lv_at hl 0 rfl) ?_
  refine lv_iload_n X.1 X.2.1 d_Ca_valueOf_2 rfl (lv_at hl 1 rfl) ?_
  refine r_cV (As := [.int x]) (rest := [.ref (ad 6 u)]) X hml hl.1 hM (k_Ca_placeOf l D dA base M ad u z hc x) c_Ca_22 v_Ca_placeOf kc_Ca rfl hc.1 rfl (Nat.le_of_ble_eq_true rfl) ⟨rfl, rfl, Nat.le_of_ble_eq_true rfl, Nat.le_of_ble_eq_true rfl⟩ ⟨Nat.le_of_ble_eq_true rfl, Nat.le_of_ble_eq_true rfl⟩ d_Ca_valueOf_3 ?_
  intro rv M1 ad1 H locs hP hM hE
  obtain ⟨e1, e2, e3⟩ := hP
  subst rv; subst M1; subst ad1
  show W _ _ _ _ _ _ _ _ _ _ _ _ _ _ _ (F0 m 6 ls [.int (nI (plc M u x z)), .ref (ad 6 u)])
  refine r_cV (As := [.int (nI (plc M u x z))]) (rest := []) X hml hl.1 hM (k_Ca_valueAt l D dA base M ad u z hc (nI (plc M u x z))) c_Ca_26 v_Ca_valueAt kc_Ca rfl hc.1 rfl (Nat.le_of_ble_eq_true rfl) ⟨rfl, rfl, Nat.le_of_ble_eq_true rfl, Nat.le_of_ble_eq_true rfl⟩ ⟨Nat.le_of_ble_eq_true rfl, Nat.le_of_ble_eq_true rfl⟩ d_Ca_valueOf_6 ?_
  intro rv M1 ad1 H locs hP hM hE
  obtain ⟨e1, e2, e3⟩ := hP
  subst rv; subst M1; subst ad1
  show W _ _ _ _ _ _ _ _ _ _ _ _ _ _ _ (F0 m 9 ls [.int (atC M 16 u z (nI (plc M u x z)))])
  exact m_iret X hr hlk hM d_Ca_valueOf_9 ⟨Nat.le_of_ble_eq_true rfl, Nat.le_of_ble_eq_true rfl⟩ (mExt_rf _ _) ⟨rfl, rfl, rfl⟩
set_option maxHeartbeats 4000000 in
set_option maxRecDepth 100000 in
theorem k_Ca_drop (l : Launch) (D : va_G) (dA : Nat → ClassId) (base : Nat) (M : mM) (ad : Nat → Nat → Nat) (u z : Nat) (hc : wC M u z) (q : Nat) (hq : q < z) : mMet l y_Ca_drop b_Ca_drop 3 none ({ frames := 0, cells := 0, slots := 0, locals := 0 } : Room) 0 0 D dA base M ad [.ref (ad 6 u), .int (nI q)] (fun rv M' ad' => rv = none ∧ M' = drpM M u q z ∧ ad' = ad) := by
  refine m_start (lvs := [(0, .ref (ad 6 u)), (1, .int (nI q))]) (by decide) (Nat.le_of_ble_eq_true rfl) rfl ?_
  intro p e s m below meth c ls X hr hlk hin hml hM hl
  refine lv_iload_n X.1 X.2.1 d_Ca_drop_0 rfl (lv_at hl 1 rfl) ?_
  refine lv_istore_n (lv' := [(2, .int (nI q)), (0, .ref (ad 6 u)), (1, .int (nI q))]) X.1 X.2.1 d_Ca_drop_1 rfl hl (by decide) rfl (fun ls hl => ?_)
  have hz4 := hc.2.2.2.2
  rw [← shM_0 M u q] at hM
  refine w_upW (z - 1) (fun ls => F0 m 2 ls []) (fun i H L ls => mSt D dA base (shM M u q i) ad s.heap H L ∧ lv_has ls 3 [(2, .int (nI i)), (0, .ref (ad 6 u)), (1, .int (nI q))] ∧ q ≤ i) ?_ ?_ q _ _ ls (by omega) ⟨hM, lv_sub hl [0, 1, 2] rfl, Nat.le_refl _⟩
  · rintro H locs ls ⟨hM, hl, hI⟩
    have e7 : gi (shM M u q (z - 1)) 6 u 2 = nI z := by
      rw [gi_sh, if_neg (fun h => by omega)]
      exact hc.2.2.2.1
    have e6 : nI (z - 1) + 1 = nI z := by rw [nI_1]; congr 1; omega
    have e5 : nI z - 1 = nI (z - 1) := by rw [← e6]; exact Int32.add_sub_cancel _ _
    refine lv_iload_n X.1 X.2.1 d_Ca_drop_2 rfl (lv_at hl 0 rfl) ?_
    refine lv_iconst (v := 1) X.1 X.2.1 d_Ca_drop_3 (by decide) ?_
    refine lv_iadd X.1 X.2.1 d_Ca_drop_4 ?_
    refine lv_aload_n X.1 X.2.1 d_Ca_drop_5 rfl (lv_at hl 1 rfl) ?_
    refine r_geti X hM rfl hc.1 f_Ca_18 rfl d_Ca_drop_6 ?_
    refine lv_icmp_ge (tgt := 46) X.1 X.2.1 d_Ca_drop_9 (by decide) (fun hz51 => ?_) (fun hz51 => absurd (by rw [e7, e6]; exact Int32.le_refl _) hz51)
    refine lv_aload_n X.1 X.2.1 d_Ca_drop_46 rfl (lv_at hl 1 rfl) ?_
    refine lv_dup X.1 X.2.1 d_Ca_drop_47 rfl ?_
    refine r_geti X hM rfl hc.1 f_Ca_18 rfl d_Ca_drop_48 ?_
    refine lv_iconst (v := 1) X.1 X.2.1 d_Ca_drop_51 (by decide) ?_
    refine lv_isub X.1 X.2.1 d_Ca_drop_52 ?_
    refine r_puti X hM rfl hc.1 p_Ca_18 rfl rfl rfl d_Ca_drop_53 (fun H locs hM => ?_)
    exact m_vret X hr hlk hM d_Ca_drop_56 ⟨Nat.le_of_ble_eq_true rfl, Nat.le_of_ble_eq_true rfl⟩ ⟨fun _ _ _ => rfl, fun _ => Nat.le_refl _⟩ ⟨rfl, by unfold drpM; rw [e7, e5], rfl⟩
  · rintro i hi ih H locs ls ⟨hM, hl, hI⟩
    have hq9 : q ≤ i := hI
    have e7 : gi (shM M u q i) 6 u 2 = nI z := by
      rw [gi_sh, if_neg (fun h => by omega)]
      exact hc.2.2.2.1
    have hge : ¬ gi (shM M u q i) 6 u 2 ≤ nI i + 1 := by rw [e7, nI_1]; exact nI_ge (by omega) (by omega)
    refine lv_iload_n X.1 X.2.1 d_Ca_drop_2 rfl (lv_at hl 0 rfl) ?_
    refine lv_iconst (v := 1) X.1 X.2.1 d_Ca_drop_3 (by decide) ?_
    refine lv_iadd X.1 X.2.1 d_Ca_drop_4 ?_
    refine lv_aload_n X.1 X.2.1 d_Ca_drop_5 rfl (lv_at hl 1 rfl) ?_
    refine r_geti X hM rfl hc.1 f_Ca_18 rfl d_Ca_drop_6 ?_
    refine lv_icmp_ge (tgt := 46) X.1 X.2.1 d_Ca_drop_9 (by decide) (fun hz51 => absurd hz51 hge) (fun hz51 => ?_)
    refine lv_aload_n X.1 X.2.1 d_Ca_drop_12 rfl (lv_at hl 1 rfl) ?_
    refine r_gets (q := u) X hM rfl hc.1 f_Ca_9 rfl hc.2.1 d_Ca_drop_13 (fun hv52 => ?_)
    refine lv_iload_n X.1 X.2.1 d_Ca_drop_16 rfl (lv_at hl 0 rfl) ?_
    refine lv_aload_n X.1 X.2.1 d_Ca_drop_17 rfl (lv_at hl 1 rfl) ?_
    refine r_gets (q := u) X hM rfl hc.1 f_Ca_9 rfl hc.2.1 d_Ca_drop_18 (fun hv53 => ?_)
    refine lv_iload_n X.1 X.2.1 d_Ca_drop_21 rfl (lv_at hl 0 rfl) ?_
    refine lv_iconst (v := 1) X.1 X.2.1 d_Ca_drop_22 (by decide) ?_
    refine lv_iadd X.1 X.2.1 d_Ca_drop_23 ?_
    refine r_iald X hM rfl hv53 a_paths (fun _ => rfl) (j := (i + 1)) (nI_1 i) (by omega) d_Ca_drop_24 ?_
    refine r_iast X hM rfl hv52 a_paths (fun _ => rfl) (j := i) rfl (by omega) d_Ca_drop_25 (fun H locs hM => ?_)
    refine lv_aload_n X.1 X.2.1 d_Ca_drop_26 rfl (lv_at hl 1 rfl) ?_
    refine r_gets (q := u) X hM rfl hc.1 f_Ca_15 rfl hc.2.2.1 d_Ca_drop_27 (fun hv54 => ?_)
    refine lv_iload_n X.1 X.2.1 d_Ca_drop_30 rfl (lv_at hl 0 rfl) ?_
    refine lv_aload_n X.1 X.2.1 d_Ca_drop_31 rfl (lv_at hl 1 rfl) ?_
    refine r_gets (q := u) X hM rfl hc.1 f_Ca_15 rfl hc.2.2.1 d_Ca_drop_32 (fun hv55 => ?_)
    refine lv_iload_n X.1 X.2.1 d_Ca_drop_35 rfl (lv_at hl 0 rfl) ?_
    refine lv_iconst (v := 1) X.1 X.2.1 d_Ca_drop_36 (by decide) ?_
    refine lv_iadd X.1 X.2.1 d_Ca_drop_37 ?_
    refine r_iald X hM rfl hv55 a_values (fun _ => rfl) (j := (i + 1)) (nI_1 i) (by omega) d_Ca_drop_38 ?_
    refine r_iast X hM rfl hv54 a_values (fun _ => rfl) (j := i) rfl (by omega) d_Ca_drop_39 (fun H locs hM => ?_)
    obtain ⟨xi, e_xi⟩ : ∃ z : Int32, z = (nI i) + 1 := ⟨_, rfl⟩
    refine lv_iinc (v := xi) (lv' := [(2, .int xi), (0, .ref (ad 6 u)), (1, .int (nI q))]) X.1 X.2.1 d_Ca_drop_40 hl (k := 0) rfl (by rw [e_xi]; rfl) (by decide) rfl (fun ls hl => ?_)
    refine lv_goto (tgt := 2) X.1 X.2.1 d_Ca_drop_43 (by decide) ?_
    have e9 := e_xi.trans (nI_1 i)
    subst e9
    rw [shM_s M u q i hq9] at hM
    exact ih _ _ ls ⟨hM, lv_sub hl [0, 1, 2] rfl, by omega⟩
end
section
theorem drp_sz (M : mM) (c p z : Nat) : gi (drpM M c p z) 6 c 2 = nI (z - 1) := by
  unfold drpM
  rw [gi_si, if_pos ⟨rfl, rfl, rfl⟩]
set_option maxHeartbeats 4000000 in
set_option maxRecDepth 100000 in
theorem k_Ca_keep (l : Launch) (D : va_G) (dA : Nat → ClassId) (base : Nat) (M : mM) (ad : Nat → Nat → Nat) (u z : Nat) (hc : wC M u z) (x y : Int32) : mMet l y_Ca_keep b_Ca_keep 3 none ({ frames := 2, cells := 0, slots := 0, locals := 70 } : Room) 0 0 D dA base M ad [.ref (ad 6 u), .int x, .int y] (fun rv M' ad' => rv = none ∧ M' = kepM M u x y z ∧ ad' = ad) := by
  refine m_start (lvs := [(0, .ref (ad 6 u)), (1, .int x), (2, .int y)]) (by decide) (Nat.le_of_ble_eq_true rfl) rfl ?_
  intro p e s m below meth c ls X hr hlk hin hml hM hl
  refine lv_aload_n X.1 X.2.1 d_Ca_keep_0 rfl (lv_at hl 0 rfl) ?_
  refine lv_iload_n X.1 X.2.1 d_Ca_keep_1 rfl (lv_at hl 1 rfl) ?_
  refine r_cV (As := [.int x]) (rest := []) X hml hl.1 hM (k_Ca_has l D dA base M ad u z hc x) c_Ca_29 v_Ca_has kc_Ca rfl hc.1 rfl (Nat.le_of_ble_eq_true rfl) ⟨rfl, rfl, Nat.le_of_ble_eq_true rfl, Nat.le_of_ble_eq_true rfl⟩ ⟨Nat.le_of_ble_eq_true rfl, Nat.le_of_ble_eq_true rfl⟩ d_Ca_keep_2 ?_
  intro rv M1 ad1 H locs hP hM hE
  obtain ⟨e1, e2, e3⟩ := hP
  subst rv; subst M1; subst ad1
  show W _ _ _ _ _ _ _ _ _ _ _ _ _ _ _ (F0 m 5 ls [.int (if plc M u x z < z then 1 else 0)])
  refine lv_if_eq (tgt := 20) X.1 X.2.1 d_Ca_keep_5 (by decide) (fun h5 => ?_) (fun h5 => ?_)
  · skip
    refine lv_aload_n X.1 X.2.1 d_Ca_keep_20 rfl (lv_at hl 0 rfl) ?_
    refine r_geti X hM rfl hc.1 f_Ca_18 rfl d_Ca_keep_21 ?_
    refine lv_iconst (v := 4) X.1 X.2.1 d_Ca_keep_24 (by decide) ?_
    refine lv_icmp_lt (tgt := 33) X.1 X.2.1 d_Ca_keep_25 (by decide) (fun h25 => ?_) (fun h25 => ?_)
    · skip
      have h8 := hc.2.2.2.2
      have hz3 : z < 4 := by
        have h9 := hc.2.2.2.1
        rcases Nat.lt_or_ge z 4 with h7 | h7
        · exact h7
        · have h6 : z = 4 := by omega
          rw [h9, h6] at h25
          exact absurd h25 (by decide)
      have hsz := hc.2.2.2.1
      refine lv_aload_n X.1 X.2.1 d_Ca_keep_33 rfl (lv_at hl 0 rfl) ?_
      refine r_gets (q := u) X hM rfl hc.1 f_Ca_9 rfl hc.2.1 d_Ca_keep_34 (fun hv2 => ?_)
      refine lv_aload_n X.1 X.2.1 d_Ca_keep_37 rfl (lv_at hl 0 rfl) ?_
      refine r_geti X hM rfl hc.1 f_Ca_18 rfl d_Ca_keep_38 ?_
      refine lv_iload_n X.1 X.2.1 d_Ca_keep_41 rfl (lv_at hl 1 rfl) ?_
      refine r_iast X hM rfl hv2 a_paths (fun _ => rfl) (j := z) hsz (by omega) d_Ca_keep_42 (fun H locs hM => ?_)
      refine lv_aload_n X.1 X.2.1 d_Ca_keep_43 rfl (lv_at hl 0 rfl) ?_
      refine r_gets (q := u) X hM rfl hc.1 f_Ca_15 rfl hc.2.2.1 d_Ca_keep_44 (fun hv3 => ?_)
      refine lv_aload_n X.1 X.2.1 d_Ca_keep_47 rfl (lv_at hl 0 rfl) ?_
      refine r_geti X hM rfl hc.1 f_Ca_18 rfl d_Ca_keep_48 ?_
      refine lv_iload_n X.1 X.2.1 d_Ca_keep_51 rfl (lv_at hl 2 rfl) ?_
      refine r_iast X hM rfl hv3 a_values (fun _ => rfl) (j := z) hsz (by omega) d_Ca_keep_52 (fun H locs hM => ?_)
      refine lv_aload_n X.1 X.2.1 d_Ca_keep_53 rfl (lv_at hl 0 rfl) ?_
      refine lv_dup X.1 X.2.1 d_Ca_keep_54 rfl ?_
      refine r_geti X hM rfl hc.1 f_Ca_18 rfl d_Ca_keep_55 ?_
      refine lv_iconst (v := 1) X.1 X.2.1 d_Ca_keep_58 (by decide) ?_
      refine lv_iadd X.1 X.2.1 d_Ca_keep_59 ?_
      refine r_puti X hM rfl hc.1 p_Ca_18 rfl rfl rfl d_Ca_keep_60 (fun H locs hM => ?_)
      exact m_vret X hr hlk hM d_Ca_keep_63 ⟨Nat.le_of_ble_eq_true rfl, Nat.le_of_ble_eq_true rfl⟩ ⟨fun _ _ _ => rfl, fun _ => Nat.le_refl _⟩ ⟨rfl, by
                unfold kepM; rw [if_neg (be0 h5), if_neg (by omega)]
                show si _ _ _ _ (gi M 6 u 2 + 1) = _
                rw [hsz, nI_1], rfl⟩
    · skip
      have hz4 : z = 4 := by
        have h8 := hc.2.2.2.2
        have h9 := hc.2.2.2.1
        rcases Nat.lt_or_ge z 4 with h7 | h7
        · exact absurd (by rw [h9]; exact nI_lt h7 (by decide)) h25
        · omega
      refine lv_aload_n X.1 X.2.1 d_Ca_keep_28 rfl (lv_at hl 0 rfl) ?_
      refine lv_iconst (v := 0) X.1 X.2.1 d_Ca_keep_29 (by decide) ?_
      refine r_cV (As := [.int 0]) (rest := []) X hml hl.1 hM (k_Ca_drop l D dA base M ad u z hc 0 (by omega)) c_Ca_33 v_Ca_drop kc_Ca rfl hc.1 rfl (Nat.le_of_ble_eq_true rfl) ⟨rfl, rfl, Nat.le_of_ble_eq_true rfl, Nat.le_of_ble_eq_true rfl⟩ ⟨Nat.le_of_ble_eq_true rfl, Nat.le_of_ble_eq_true rfl⟩ d_Ca_keep_30 ?_
      intro rv M1 ad1 H locs hP hM hE
      obtain ⟨e1, e2, e3⟩ := hP
      subst rv; subst M1; subst ad1
      have hsz := drp_sz M u 0 z
      show W _ _ _ _ _ _ _ _ _ _ _ _ _ _ _ (F0 m 33 ls [])
      have h8 := hc.2.2.2.2
      refine lv_aload_n X.1 X.2.1 d_Ca_keep_33 rfl (lv_at hl 0 rfl) ?_
      refine r_gets (q := u) X hM rfl hc.1 f_Ca_9 rfl hc.2.1 d_Ca_keep_34 (fun hv5 => ?_)
      refine lv_aload_n X.1 X.2.1 d_Ca_keep_37 rfl (lv_at hl 0 rfl) ?_
      refine r_geti X hM rfl hc.1 f_Ca_18 rfl d_Ca_keep_38 ?_
      refine lv_iload_n X.1 X.2.1 d_Ca_keep_41 rfl (lv_at hl 1 rfl) ?_
      refine r_iast X hM rfl hv5 a_paths (fun _ => rfl) (j := (z - 1)) hsz (by omega) d_Ca_keep_42 (fun H locs hM => ?_)
      refine lv_aload_n X.1 X.2.1 d_Ca_keep_43 rfl (lv_at hl 0 rfl) ?_
      refine r_gets (q := u) X hM rfl hc.1 f_Ca_15 rfl hc.2.2.1 d_Ca_keep_44 (fun hv6 => ?_)
      refine lv_aload_n X.1 X.2.1 d_Ca_keep_47 rfl (lv_at hl 0 rfl) ?_
      refine r_geti X hM rfl hc.1 f_Ca_18 rfl d_Ca_keep_48 ?_
      refine lv_iload_n X.1 X.2.1 d_Ca_keep_51 rfl (lv_at hl 2 rfl) ?_
      refine r_iast X hM rfl hv6 a_values (fun _ => rfl) (j := (z - 1)) hsz (by omega) d_Ca_keep_52 (fun H locs hM => ?_)
      refine lv_aload_n X.1 X.2.1 d_Ca_keep_53 rfl (lv_at hl 0 rfl) ?_
      refine lv_dup X.1 X.2.1 d_Ca_keep_54 rfl ?_
      refine r_geti X hM rfl hc.1 f_Ca_18 rfl d_Ca_keep_55 ?_
      refine lv_iconst (v := 1) X.1 X.2.1 d_Ca_keep_58 (by decide) ?_
      refine lv_iadd X.1 X.2.1 d_Ca_keep_59 ?_
      refine r_puti X hM rfl hc.1 p_Ca_18 rfl rfl rfl d_Ca_keep_60 (fun H locs hM => ?_)
      exact m_vret X hr hlk hM d_Ca_keep_63 ⟨Nat.le_of_ble_eq_true rfl, Nat.le_of_ble_eq_true rfl⟩ ⟨fun _ _ _ => rfl, fun _ => Nat.le_refl _⟩ ⟨rfl, by
                unfold kepM; rw [if_neg (be0 h5), if_pos hz4]; subst hz4
                show si _ _ _ _ (gi (drpM M u 0 4) 6 u 2 + 1) = _
                rw [hsz]; rfl, rfl⟩
  · skip
    refine lv_aload_n X.1 X.2.1 d_Ca_keep_8 rfl (lv_at hl 0 rfl) ?_
    refine lv_aload_n X.1 X.2.1 d_Ca_keep_9 rfl (lv_at hl 0 rfl) ?_
    refine lv_iload_n X.1 X.2.1 d_Ca_keep_10 rfl (lv_at hl 1 rfl) ?_
    refine r_cV (As := [.int x]) (rest := [.ref (ad 6 u)]) X hml hl.1 hM (k_Ca_placeOf l D dA base M ad u z hc x) c_Ca_22 v_Ca_placeOf kc_Ca rfl hc.1 rfl (Nat.le_of_ble_eq_true rfl) ⟨rfl, rfl, Nat.le_of_ble_eq_true rfl, Nat.le_of_ble_eq_true rfl⟩ ⟨Nat.le_of_ble_eq_true rfl, Nat.le_of_ble_eq_true rfl⟩ d_Ca_keep_11 ?_
    intro rv M1 ad1 H locs hP hM hE
    obtain ⟨e1, e2, e3⟩ := hP
    subst rv; subst M1; subst ad1
    show W _ _ _ _ _ _ _ _ _ _ _ _ _ _ _ (F0 m 14 ls [.int (nI (plc M u x z)), .ref (ad 6 u)])
    refine r_cV (As := [.int (nI (plc M u x z))]) (rest := []) X hml hl.1 hM (k_Ca_drop l D dA base M ad u z hc (plc M u x z) (bn0 h5)) c_Ca_33 v_Ca_drop kc_Ca rfl hc.1 rfl (Nat.le_of_ble_eq_true rfl) ⟨rfl, rfl, Nat.le_of_ble_eq_true rfl, Nat.le_of_ble_eq_true rfl⟩ ⟨Nat.le_of_ble_eq_true rfl, Nat.le_of_ble_eq_true rfl⟩ d_Ca_keep_14 ?_
    intro rv M1 ad1 H locs hP hM hE
    obtain ⟨e1, e2, e3⟩ := hP
    subst rv; subst M1; subst ad1
    have hsz := drp_sz M u (plc M u x z) z
    have hz0 : plc M u x z < z := bn0 h5
    show W _ _ _ _ _ _ _ _ _ _ _ _ _ _ _ (F0 m 17 ls [])
    refine lv_goto (tgt := 33) X.1 X.2.1 d_Ca_keep_17 (by decide) ?_
    have h8 := hc.2.2.2.2
    refine lv_aload_n X.1 X.2.1 d_Ca_keep_33 rfl (lv_at hl 0 rfl) ?_
    refine r_gets (q := u) X hM rfl hc.1 f_Ca_9 rfl hc.2.1 d_Ca_keep_34 (fun hv9 => ?_)
    refine lv_aload_n X.1 X.2.1 d_Ca_keep_37 rfl (lv_at hl 0 rfl) ?_
    refine r_geti X hM rfl hc.1 f_Ca_18 rfl d_Ca_keep_38 ?_
    refine lv_iload_n X.1 X.2.1 d_Ca_keep_41 rfl (lv_at hl 1 rfl) ?_
    refine r_iast X hM rfl hv9 a_paths (fun _ => rfl) (j := (z - 1)) hsz (by omega) d_Ca_keep_42 (fun H locs hM => ?_)
    refine lv_aload_n X.1 X.2.1 d_Ca_keep_43 rfl (lv_at hl 0 rfl) ?_
    refine r_gets (q := u) X hM rfl hc.1 f_Ca_15 rfl hc.2.2.1 d_Ca_keep_44 (fun hv10 => ?_)
    refine lv_aload_n X.1 X.2.1 d_Ca_keep_47 rfl (lv_at hl 0 rfl) ?_
    refine r_geti X hM rfl hc.1 f_Ca_18 rfl d_Ca_keep_48 ?_
    refine lv_iload_n X.1 X.2.1 d_Ca_keep_51 rfl (lv_at hl 2 rfl) ?_
    refine r_iast X hM rfl hv10 a_values (fun _ => rfl) (j := (z - 1)) hsz (by omega) d_Ca_keep_52 (fun H locs hM => ?_)
    refine lv_aload_n X.1 X.2.1 d_Ca_keep_53 rfl (lv_at hl 0 rfl) ?_
    refine lv_dup X.1 X.2.1 d_Ca_keep_54 rfl ?_
    refine r_geti X hM rfl hc.1 f_Ca_18 rfl d_Ca_keep_55 ?_
    refine lv_iconst (v := 1) X.1 X.2.1 d_Ca_keep_58 (by decide) ?_
    refine lv_iadd X.1 X.2.1 d_Ca_keep_59 ?_
    refine r_puti X hM rfl hc.1 p_Ca_18 rfl rfl rfl d_Ca_keep_60 (fun H locs hM => ?_)
    exact m_vret X hr hlk hM d_Ca_keep_63 ⟨Nat.le_of_ble_eq_true rfl, Nat.le_of_ble_eq_true rfl⟩ ⟨fun _ _ _ => rfl, fun _ => Nat.le_refl _⟩ ⟨rfl, by
              unfold kepM; rw [if_pos hz0]; have e9 : nI (z - 1) + 1 = nI z := by (rw [nI_1]; congr 1; omega)
              show si _ _ _ _ (gi (drpM M u (plc M u x z) z) 6 u 2 + 1) = _
              rw [hsz, e9], rfl⟩
end
section
def scI (M : mM) (g : Nat)  : mM := si (si (si (si M 1 g 0 0) 1 g 1 0) 1 g 2 0) 1 g 3 0
set_option maxHeartbeats 4000000 in
set_option maxRecDepth 100000 in
theorem k_Sc_init (l : Launch) (D : va_G) (dA : Nat → ClassId) (base : Nat) (M : mM) (ad : Nat → Nat → Nat) (g : Nat) (hg : g < gn M 1)  : mMet l y_Sc_init b_Sc_init 1 none ({ frames := 1, cells := 0, slots := 0, locals := 12 } : Room) 0 0 D dA base M ad [.ref (ad 1 g)] (fun rv M' ad' => rv = none ∧ M' = scI M g ∧ ad' = ad) := by
  refine m_start (lvs := [(0, .ref (ad 1 g))]) (by decide) (Nat.le_of_ble_eq_true rfl) rfl ?_
  intro p e s m below meth c ls X hr hlk hin hml hM hl
  refine lv_aload_n X.1 X.2.1 d_Sc_init_0 rfl (lv_at hl 0 rfl) ?_
  refine W.objInit X.1 X.2.1 X.2.2.1 (X.2.2.2.1 _ oi_Sc) (X.2.2.2.1 _ oi_inst) (X.2.2.2.1 _ oi_code) rfl (by rw [hml]; exact hl.1) rfl d_Sc_init_1 (Nat.le_of_ble_eq_true rfl) (Nat.le_of_ble_eq_true rfl) ?_
  refine W.eq (g2 := F0 m 4 ls []) rfl ?_
  refine lv_aload_n X.1 X.2.1 d_Sc_init_4 rfl (lv_at hl 0 rfl) ?_
  refine lv_iconst (v := 0) X.1 X.2.1 d_Sc_init_5 (by decide) ?_
  refine r_puti X hM rfl hg p_Sc_9 rfl rfl rfl d_Sc_init_6 (fun H locs hM => ?_)
  refine lv_aload_n X.1 X.2.1 d_Sc_init_9 rfl (lv_at hl 0 rfl) ?_
  refine lv_iconst (v := 0) X.1 X.2.1 d_Sc_init_10 (by decide) ?_
  refine r_puti X hM rfl hg p_Sc_15 rfl rfl rfl d_Sc_init_11 (fun H locs hM => ?_)
  refine lv_aload_n X.1 X.2.1 d_Sc_init_14 rfl (lv_at hl 0 rfl) ?_
  refine lv_iconst (v := 0) X.1 X.2.1 d_Sc_init_15 (by decide) ?_
  refine r_puti X hM rfl hg p_Sc_18 rfl rfl rfl d_Sc_init_16 (fun H locs hM => ?_)
  refine lv_aload_n X.1 X.2.1 d_Sc_init_19 rfl (lv_at hl 0 rfl) ?_
  refine lv_iconst (v := 0) X.1 X.2.1 d_Sc_init_20 (by decide) ?_
  refine r_puti X hM rfl hg p_Sc_21 rfl rfl rfl d_Sc_init_21 (fun H locs hM => ?_)
  exact m_vret X hr hlk hM d_Sc_init_24 ⟨Nat.le_of_ble_eq_true rfl, Nat.le_of_ble_eq_true rfl⟩ ⟨fun _ _ _ => rfl, fun _ => Nat.le_refl _⟩ ⟨rfl, rfl, rfl⟩
def clI (M : mM) (g : Nat)  : mM := sr (si (si M 2 g 0 0) 2 g 1 0) 2 g 2 none
set_option maxHeartbeats 4000000 in
set_option maxRecDepth 100000 in
theorem k_Cl_init (l : Launch) (D : va_G) (dA : Nat → ClassId) (base : Nat) (M : mM) (ad : Nat → Nat → Nat) (g : Nat) (hg : g < gn M 2)  : mMet l y_Cl_init b_Cl_init 1 none ({ frames := 1, cells := 0, slots := 0, locals := 12 } : Room) 0 0 D dA base M ad [.ref (ad 2 g)] (fun rv M' ad' => rv = none ∧ M' = clI M g ∧ ad' = ad) := by
  refine m_start (lvs := [(0, .ref (ad 2 g))]) (by decide) (Nat.le_of_ble_eq_true rfl) rfl ?_
  intro p e s m below meth c ls X hr hlk hin hml hM hl
  refine lv_aload_n X.1 X.2.1 d_Cl_init_0 rfl (lv_at hl 0 rfl) ?_
  refine W.objInit X.1 X.2.1 X.2.2.1 (X.2.2.2.1 _ oi_Cl) (X.2.2.2.1 _ oi_inst) (X.2.2.2.1 _ oi_code) rfl (by rw [hml]; exact hl.1) rfl d_Cl_init_1 (Nat.le_of_ble_eq_true rfl) (Nat.le_of_ble_eq_true rfl) ?_
  refine W.eq (g2 := F0 m 4 ls []) rfl ?_
  refine lv_aload_n X.1 X.2.1 d_Cl_init_4 rfl (lv_at hl 0 rfl) ?_
  refine lv_iconst (v := 0) X.1 X.2.1 d_Cl_init_5 (by decide) ?_
  refine r_puti X hM rfl hg p_Cl_7 rfl rfl (by decide) d_Cl_init_6 (fun H locs hM => ?_)
  refine lv_aload_n X.1 X.2.1 d_Cl_init_9 rfl (lv_at hl 0 rfl) ?_
  refine lv_iconst (v := 0) X.1 X.2.1 d_Cl_init_10 (by decide) ?_
  refine r_puti X hM rfl hg p_Cl_13 rfl rfl rfl d_Cl_init_11 (fun H locs hM => ?_)
  refine lv_aload_n X.1 X.2.1 d_Cl_init_14 rfl (lv_at hl 0 rfl) ?_
  refine lv_null X.1 X.2.1 d_Cl_init_15 ?_
  refine r_putr X hM rfl hg p_Cl_17 rfl (x := none) (fun z hz => by cases hz) rfl rfl rfl d_Cl_init_16 (fun H locs hM => ?_)
  exact m_vret X hr hlk hM d_Cl_init_19 ⟨Nat.le_of_ble_eq_true rfl, Nat.le_of_ble_eq_true rfl⟩ ⟨fun _ _ _ => rfl, fun _ => Nat.le_refl _⟩ ⟨rfl, rfl, rfl⟩
def jbI (M : mM) (g : Nat) (a b x y : Int32) : mM := si (si (si (si (si (si M 4 g 4 0) 4 g 5 0) 4 g 0 a) 4 g 1 b) 4 g 2 x) 4 g 3 y
set_option maxHeartbeats 4000000 in
set_option maxRecDepth 100000 in
theorem k_Jb_init (l : Launch) (D : va_G) (dA : Nat → ClassId) (base : Nat) (M : mM) (ad : Nat → Nat → Nat) (g : Nat) (hg : g < gn M 4) (a b x y : Int32) : mMet l y_Jb_init b_Jb_init 5 none ({ frames := 1, cells := 0, slots := 0, locals := 12 } : Room) 0 0 D dA base M ad [.ref (ad 4 g), .int a, .int b, .int x, .int y] (fun rv M' ad' => rv = none ∧ M' = jbI M g a b x y ∧ ad' = ad) := by
  refine m_start (lvs := [(0, .ref (ad 4 g)), (1, .int a), (2, .int b), (3, .int x), (4, .int y)]) (by decide) (Nat.le_of_ble_eq_true rfl) rfl ?_
  intro p e s m below meth c ls X hr hlk hin hml hM hl
  refine lv_aload_n X.1 X.2.1 d_Jb_init_0 rfl (lv_at hl 0 rfl) ?_
  refine W.objInit X.1 X.2.1 X.2.2.1 (X.2.2.2.1 _ oi_Jb) (X.2.2.2.1 _ oi_inst) (X.2.2.2.1 _ oi_code) rfl (by rw [hml]; exact hl.1) rfl d_Jb_init_1 (Nat.le_of_ble_eq_true rfl) (Nat.le_of_ble_eq_true rfl) ?_
  refine W.eq (g2 := F0 m 4 ls []) rfl ?_
  refine lv_aload_n X.1 X.2.1 d_Jb_init_4 rfl (lv_at hl 0 rfl) ?_
  refine lv_iconst (v := 0) X.1 X.2.1 d_Jb_init_5 (by decide) ?_
  refine r_puti X hM rfl hg p_Jb_9 rfl rfl (by decide) d_Jb_init_6 (fun H locs hM => ?_)
  refine lv_aload_n X.1 X.2.1 d_Jb_init_9 rfl (lv_at hl 0 rfl) ?_
  refine lv_iconst (v := 0) X.1 X.2.1 d_Jb_init_10 (by decide) ?_
  refine r_puti X hM rfl hg p_Jb_15 rfl rfl rfl d_Jb_init_11 (fun H locs hM => ?_)
  refine lv_aload_n X.1 X.2.1 d_Jb_init_14 rfl (lv_at hl 0 rfl) ?_
  refine lv_iload_n X.1 X.2.1 d_Jb_init_15 rfl (lv_at hl 1 rfl) ?_
  refine r_putfi X hin hM rfl hg p_Jb_19 rfl rfl rfl d_Jb_init_16 (fun H locs hM => ?_)
  refine lv_aload_n X.1 X.2.1 d_Jb_init_19 rfl (lv_at hl 0 rfl) ?_
  refine lv_iload_n X.1 X.2.1 d_Jb_init_20 rfl (lv_at hl 2 rfl) ?_
  refine r_putfi X hin hM rfl hg p_Jb_22 rfl rfl rfl d_Jb_init_21 (fun H locs hM => ?_)
  refine lv_aload_n X.1 X.2.1 d_Jb_init_24 rfl (lv_at hl 0 rfl) ?_
  refine lv_iload_n X.1 X.2.1 d_Jb_init_25 rfl (lv_at hl 3 rfl) ?_
  refine r_putfi X hin hM rfl hg p_Jb_25 rfl rfl rfl d_Jb_init_26 (fun H locs hM => ?_)
  refine lv_aload_n X.1 X.2.1 d_Jb_init_29 rfl (lv_at hl 0 rfl) ?_
  refine lv_iload X.1 X.2.1 d_Jb_init_30 (lv_at hl 4 rfl) ?_
  refine r_putfi X hin hM rfl hg p_Jb_28 rfl rfl rfl d_Jb_init_32 (fun H locs hM => ?_)
  exact m_vret X hr hlk hM d_Jb_init_35 ⟨Nat.le_of_ble_eq_true rfl, Nat.le_of_ble_eq_true rfl⟩ ⟨fun _ _ _ => rfl, fun _ => Nat.le_refl _⟩ ⟨rfl, rfl, rfl⟩
def rgI (M : mM) (g : Nat) (x : Int32) : mM := si (si (sr (sr (sr (si M 5 g 1 0) 5 g 2 none) 5 g 3 none) 5 g 4 none) 5 g 5 0) 5 g 0 x
set_option maxHeartbeats 4000000 in
set_option maxRecDepth 100000 in
theorem k_Rg_init (l : Launch) (D : va_G) (dA : Nat → ClassId) (base : Nat) (M : mM) (ad : Nat → Nat → Nat) (g : Nat) (hg : g < gn M 5) (x : Int32) : mMet l y_Rg_init b_Rg_init 2 none ({ frames := 1, cells := 0, slots := 0, locals := 12 } : Room) 0 0 D dA base M ad [.ref (ad 5 g), .int x] (fun rv M' ad' => rv = none ∧ M' = rgI M g x ∧ ad' = ad) := by
  refine m_start (lvs := [(0, .ref (ad 5 g)), (1, .int x)]) (by decide) (Nat.le_of_ble_eq_true rfl) rfl ?_
  intro p e s m below meth c ls X hr hlk hin hml hM hl
  refine lv_aload_n X.1 X.2.1 d_Rg_init_0 rfl (lv_at hl 0 rfl) ?_
  refine W.objInit X.1 X.2.1 X.2.2.1 (X.2.2.2.1 _ oi_Rg) (X.2.2.2.1 _ oi_inst) (X.2.2.2.1 _ oi_code) rfl (by rw [hml]; exact hl.1) rfl d_Rg_init_1 (Nat.le_of_ble_eq_true rfl) (Nat.le_of_ble_eq_true rfl) ?_
  refine W.eq (g2 := F0 m 4 ls []) rfl ?_
  refine lv_aload_n X.1 X.2.1 d_Rg_init_4 rfl (lv_at hl 0 rfl) ?_
  refine lv_iconst (v := 0) X.1 X.2.1 d_Rg_init_5 (by decide) ?_
  refine r_puti X hM rfl hg p_Rg_7 rfl rfl rfl d_Rg_init_6 (fun H locs hM => ?_)
  refine lv_aload_n X.1 X.2.1 d_Rg_init_9 rfl (lv_at hl 0 rfl) ?_
  refine lv_null X.1 X.2.1 d_Rg_init_10 ?_
  refine r_putr X hM rfl hg p_Rg_13 rfl (x := none) (fun z hz => by cases hz) rfl rfl rfl d_Rg_init_11 (fun H locs hM => ?_)
  refine lv_aload_n X.1 X.2.1 d_Rg_init_14 rfl (lv_at hl 0 rfl) ?_
  refine lv_null X.1 X.2.1 d_Rg_init_15 ?_
  refine r_putr X hM rfl hg p_Rg_17 rfl (x := none) (fun z hz => by cases hz) rfl rfl rfl d_Rg_init_16 (fun H locs hM => ?_)
  refine lv_aload_n X.1 X.2.1 d_Rg_init_19 rfl (lv_at hl 0 rfl) ?_
  refine lv_null X.1 X.2.1 d_Rg_init_20 ?_
  refine r_putr X hM rfl hg p_Rg_20 rfl (x := none) (fun z hz => by cases hz) rfl rfl rfl d_Rg_init_21 (fun H locs hM => ?_)
  refine lv_aload_n X.1 X.2.1 d_Rg_init_24 rfl (lv_at hl 0 rfl) ?_
  refine lv_iconst (v := 0) X.1 X.2.1 d_Rg_init_25 (by decide) ?_
  refine r_puti X hM rfl hg p_Rg_23 rfl rfl (by decide) d_Rg_init_26 (fun H locs hM => ?_)
  refine lv_aload_n X.1 X.2.1 d_Rg_init_29 rfl (lv_at hl 0 rfl) ?_
  refine lv_iload_n X.1 X.2.1 d_Rg_init_30 rfl (lv_at hl 1 rfl) ?_
  refine r_putfi X hin hM rfl hg p_Rg_27 rfl rfl rfl d_Rg_init_31 (fun H locs hM => ?_)
  exact m_vret X hr hlk hM d_Rg_init_34 ⟨Nat.le_of_ble_eq_true rfl, Nat.le_of_ble_eq_true rfl⟩ ⟨fun _ _ _ => rfl, fun _ => Nat.le_refl _⟩ ⟨rfl, rfl, rfl⟩
end
section
def caI (M : mM) (g : Nat) : mM := si (sr (sn (sr (sn M 15) 6 g 0 (some (gn M 15))) 16) 6 g 1 (some (gn (sr (sn M 15) 6 g 0 (some (gn M 15))) 16))) 6 g 2 0
set_option maxHeartbeats 4000000 in
set_option maxRecDepth 100000 in
theorem k_Ca_init (l : Launch) (D : va_G) (dA : Nat → ClassId) (base : Nat) (M : mM) (ad : Nat → Nat → Nat) (g : Nat) (hg : g < gn M 6) : mMet l y_Ca_init b_Ca_init 1 none ({ frames := 1, cells := 2, slots := 8, locals := 12 } : Room) 2 8 D dA base M ad [.ref (ad 6 g)] (fun rv M' ad' => rv = none ∧ M' = caI M g) := by
  refine m_start (lvs := [(0, .ref (ad 6 g))]) (by decide) (Nat.le_of_ble_eq_true rfl) rfl ?_
  intro p e s m below meth c ls X hr hlk hin hml hM hl
  refine lv_aload_n X.1 X.2.1 d_Ca_init_0 rfl (lv_at hl 0 rfl) ?_
  refine W.objInit X.1 X.2.1 X.2.2.1 (X.2.2.2.1 _ oi_Ca) (X.2.2.2.1 _ oi_inst) (X.2.2.2.1 _ oi_code) rfl (by rw [hml]; exact hl.1) rfl d_Ca_init_1 (Nat.le_of_ble_eq_true rfl) (Nat.le_of_ble_eq_true rfl) ?_
  refine W.eq (g2 := F0 m 4 ls []) rfl ?_
  refine lv_aload_n X.1 X.2.1 d_Ca_init_4 rfl (lv_at hl 0 rfl) ?_
  refine lv_iconst (v := 4) X.1 X.2.1 d_Ca_init_5 (by decide) ?_
  refine r_newi (k := 15) X hM a_paths (fun _ => rfl) gw_int rfl (by decide) (Nat.le_of_ble_eq_true rfl) (Nat.le_of_ble_eq_true rfl) d_Ca_init_6 (fun q1 H q1ad hq1M hq1E hq1q => ?_)
  have hM := hq1M
  have hnq1 : gn M 15 < gn (sn M 15) 15 := sn_live _ _
  refine r_putfr X hin hM (hq1E 6 g hg) (sn_up hg) p_Ca_9 rfl (x := (some (gn M 15))) (fun z hz => by cases hz; exact hnq1) (congrArg Value.ref hq1q) rfl rfl d_Ca_init_8 (fun H locs hM => ?_)
  refine lv_aload_n X.1 X.2.1 d_Ca_init_11 rfl (lv_at hl 0 rfl) ?_
  refine lv_iconst (v := 4) X.1 X.2.1 d_Ca_init_12 (by decide) ?_
  refine r_newi (k := 16) X hM a_values (fun _ => rfl) gw_int rfl (by decide) (Nat.le_of_ble_eq_true rfl) (Nat.le_of_ble_eq_true rfl) d_Ca_init_13 (fun q2 H q2ad hq2M hq2E hq2q => ?_)
  have hM := hq2M
  have hnq2 : gn (sr (sn M 15) 6 g 0 (some (gn M 15))) 16 < gn (sn (sr (sn M 15) 6 g 0 (some (gn M 15))) 16) 16 := sn_live _ _
  refine r_putfr X hin hM ((hq2E 6 g (sn_up hg)).trans (hq1E 6 g hg)) (sn_up (sn_up hg)) p_Ca_15 rfl (x := (some (gn (sr (sn M 15) 6 g 0 (some (gn M 15))) 16))) (fun z hz => by cases hz; exact hnq2) (congrArg Value.ref hq2q) rfl rfl d_Ca_init_15 (fun H locs hM => ?_)
  refine lv_aload_n X.1 X.2.1 d_Ca_init_18 rfl (lv_at hl 0 rfl) ?_
  refine lv_iconst (v := 0) X.1 X.2.1 d_Ca_init_19 (by decide) ?_
  refine r_puti X hM ((hq2E 6 g (sn_up hg)).trans (hq1E 6 g hg)) (sn_up (sn_up hg)) p_Ca_18 rfl rfl rfl d_Ca_init_20 (fun H locs hM => ?_)
  exact m_vret X hr hlk hM d_Ca_init_23 ⟨Nat.le_of_ble_eq_true rfl, Nat.le_of_ble_eq_true rfl⟩ (mExt_tr (mExt_tr (mExt_rf _ _) (mExt_new hq1E)) (mExt_new hq2E)) ⟨rfl, rfl⟩
def wkI (M : mM) (g : Nat) (n : Int32) (k : Nat) : mM := si (si (si (si (si (si (sr (caI (sn M 6) (gn M 6)) 7 g 4 (some (gn M 6))) 7 g 5 1) 7 g 6 0) 7 g 0 n) 7 g 1 (gi (si (si (si (sr (caI (sn M 6) (gn M 6)) 7 g 4 (some (gn M 6))) 7 g 5 1) 7 g 6 0) 7 g 0 n) 1 k 0)) 7 g 2 (gi (si (si (si (si (sr (caI (sn M 6) (gn M 6)) 7 g 4 (some (gn M 6))) 7 g 5 1) 7 g 6 0) 7 g 0 n) 7 g 1 (gi (si (si (si (sr (caI (sn M 6) (gn M 6)) 7 g 4 (some (gn M 6))) 7 g 5 1) 7 g 6 0) 7 g 0 n) 1 k 0)) 1 k 2)) 7 g 3 (gi (si (si (si (si (si (sr (caI (sn M 6) (gn M 6)) 7 g 4 (some (gn M 6))) 7 g 5 1) 7 g 6 0) 7 g 0 n) 7 g 1 (gi (si (si (si (sr (caI (sn M 6) (gn M 6)) 7 g 4 (some (gn M 6))) 7 g 5 1) 7 g 6 0) 7 g 0 n) 1 k 0)) 7 g 2 (gi (si (si (si (si (sr (caI (sn M 6) (gn M 6)) 7 g 4 (some (gn M 6))) 7 g 5 1) 7 g 6 0) 7 g 0 n) 7 g 1 (gi (si (si (si (sr (caI (sn M 6) (gn M 6)) 7 g 4 (some (gn M 6))) 7 g 5 1) 7 g 6 0) 7 g 0 n) 1 k 0)) 1 k 2)) 1 k 3)
set_option maxHeartbeats 4000000 in
set_option maxRecDepth 100000 in
theorem k_Wk_init (l : Launch) (D : va_G) (dA : Nat → ClassId) (base : Nat) (M : mM) (ad : Nat → Nat → Nat) (g k : Nat) (n : Int32) (hg : g < gn M 7) (hk : k < gn M 1) : mMet l y_Wk_init b_Wk_init 3 none ({ frames := 2, cells := 3, slots := 11, locals := 40 } : Room) 3 11 D dA base M ad [.ref (ad 7 g), .int n, .ref (ad 1 k)] (fun rv M' ad' => rv = none ∧ M' = wkI M g n k) := by
  refine m_start (lvs := [(0, .ref (ad 7 g)), (1, .int n), (2, .ref (ad 1 k))]) (by decide) (Nat.le_of_ble_eq_true rfl) rfl ?_
  intro p e s m below meth c ls X hr hlk hin hml hM hl
  refine lv_aload_n X.1 X.2.1 d_Wk_init_0 rfl (lv_at hl 0 rfl) ?_
  refine W.objInit X.1 X.2.1 X.2.2.1 (X.2.2.2.1 _ oi_Wk) (X.2.2.2.1 _ oi_inst) (X.2.2.2.1 _ oi_code) rfl (by rw [hml]; exact hl.1) rfl d_Wk_init_1 (Nat.le_of_ble_eq_true rfl) (Nat.le_of_ble_eq_true rfl) ?_
  refine W.eq (g2 := F0 m 4 ls []) rfl ?_
  refine lv_aload_n X.1 X.2.1 d_Wk_init_4 rfl (lv_at hl 0 rfl) ?_
  refine r_new (k := 6) X hM n_Wk_9 (Nat.le_of_ble_eq_true rfl) (Nat.le_of_ble_eq_true rfl) d_Wk_init_5 (fun q1 H q1ad hq1M hq1E hq1q => ?_)
  have hM := hq1M
  have hnq1 : gn M 6 < gn (sn M 6) 6 := sn_live _ _
  refine lv_dup X.1 X.2.1 d_Wk_init_8 rfl ?_
  have hC9 := (k_Ca_init l D dA base (sn M 6) q1ad (gn M 6) (sn_live _ _))
  rw [hq1q] at hC9
  refine r_cI (As := []) (rest := [.ref q1, .ref (ad 7 g)]) X hml hl.1 hM hC9 c_Wk_11 v_Ca_init rfl (Nat.le_of_ble_eq_true rfl) ⟨rfl, rfl, Nat.le_of_ble_eq_true rfl, Nat.le_of_ble_eq_true rfl⟩ ⟨Nat.le_of_ble_eq_true rfl, Nat.le_of_ble_eq_true rfl⟩ d_Wk_init_9 ?_
  intro rv M1 ad_3 H locs hP hM hE_4
  obtain ⟨e1, e2⟩ := hP
  subst rv; subst M1
  show W _ _ _ _ _ _ _ _ _ _ _ _ _ _ _ (F0 m 12 ls [.ref q1, .ref (ad 7 g)])
  refine r_putfr X hin hM ((hE_4.1 7 g (sn_up hg)).trans (hq1E 7 g hg)) (Nat.lt_of_lt_of_le (sn_up hg) (hE_4.2 _)) p_Wk_12 rfl (x := (some (gn M 6))) (fun z hz => by cases hz; exact (Nat.lt_of_lt_of_le hnq1 (hE_4.2 _))) (congrArg Value.ref ((hE_4.1 6 (gn M 6) hnq1).trans hq1q)) rfl rfl d_Wk_init_12 (fun H locs hM => ?_)
  refine lv_aload_n X.1 X.2.1 d_Wk_init_15 rfl (lv_at hl 0 rfl) ?_
  refine lv_iconst (v := 1) X.1 X.2.1 d_Wk_init_16 (by decide) ?_
  refine r_puti X hM ((hE_4.1 7 g (sn_up hg)).trans (hq1E 7 g hg)) (Nat.lt_of_lt_of_le (sn_up hg) (hE_4.2 _)) p_Wk_18 rfl rfl rfl d_Wk_init_17 (fun H locs hM => ?_)
  refine lv_aload_n X.1 X.2.1 d_Wk_init_20 rfl (lv_at hl 0 rfl) ?_
  refine lv_iconst (v := 0) X.1 X.2.1 d_Wk_init_21 (by decide) ?_
  refine r_puti X hM ((hE_4.1 7 g (sn_up hg)).trans (hq1E 7 g hg)) (Nat.lt_of_lt_of_le (sn_up hg) (hE_4.2 _)) p_Wk_22 rfl rfl (by decide) d_Wk_init_22 (fun H locs hM => ?_)
  refine lv_aload_n X.1 X.2.1 d_Wk_init_25 rfl (lv_at hl 0 rfl) ?_
  refine lv_iload_n X.1 X.2.1 d_Wk_init_26 rfl (lv_at hl 1 rfl) ?_
  refine r_putfi X hin hM ((hE_4.1 7 g (sn_up hg)).trans (hq1E 7 g hg)) (Nat.lt_of_lt_of_le (sn_up hg) (hE_4.2 _)) p_Wk_26 rfl rfl rfl d_Wk_init_27 (fun H locs hM => ?_)
  refine lv_aload_n X.1 X.2.1 d_Wk_init_30 rfl (lv_at hl 0 rfl) ?_
  refine lv_aload_n X.1 X.2.1 d_Wk_init_31 rfl (lv_at hl 2 rfl) ?_
  refine r_geti X hM ((hE_4.1 1 k (sn_up hk)).trans (hq1E 1 k hk)) (Nat.lt_of_lt_of_le (sn_up hk) (hE_4.2 _)) f_Wk_29 rfl d_Wk_init_32 ?_
  refine r_putfi X hin hM ((hE_4.1 7 g (sn_up hg)).trans (hq1E 7 g hg)) (Nat.lt_of_lt_of_le (sn_up hg) (hE_4.2 _)) p_Wk_34 rfl rfl rfl d_Wk_init_35 (fun H locs hM => ?_)
  refine lv_aload_n X.1 X.2.1 d_Wk_init_38 rfl (lv_at hl 0 rfl) ?_
  refine lv_aload_n X.1 X.2.1 d_Wk_init_39 rfl (lv_at hl 2 rfl) ?_
  refine r_geti X hM ((hE_4.1 1 k (sn_up hk)).trans (hq1E 1 k hk)) (Nat.lt_of_lt_of_le (sn_up hk) (hE_4.2 _)) f_Wk_35 rfl d_Wk_init_40 ?_
  refine r_putfi X hin hM ((hE_4.1 7 g (sn_up hg)).trans (hq1E 7 g hg)) (Nat.lt_of_lt_of_le (sn_up hg) (hE_4.2 _)) p_Wk_38 rfl rfl rfl d_Wk_init_43 (fun H locs hM => ?_)
  refine lv_aload_n X.1 X.2.1 d_Wk_init_46 rfl (lv_at hl 0 rfl) ?_
  refine lv_aload_n X.1 X.2.1 d_Wk_init_47 rfl (lv_at hl 2 rfl) ?_
  refine r_geti X hM ((hE_4.1 1 k (sn_up hk)).trans (hq1E 1 k hk)) (Nat.lt_of_lt_of_le (sn_up hk) (hE_4.2 _)) f_Wk_39 rfl d_Wk_init_48 ?_
  refine r_putfi X hin hM ((hE_4.1 7 g (sn_up hg)).trans (hq1E 7 g hg)) (Nat.lt_of_lt_of_le (sn_up hg) (hE_4.2 _)) p_Wk_42 rfl rfl rfl d_Wk_init_51 (fun H locs hM => ?_)
  exact m_vret X hr hlk hM d_Wk_init_54 ⟨Nat.le_of_ble_eq_true rfl, Nat.le_of_ble_eq_true rfl⟩ (mExt_tr (mExt_tr (mExt_rf _ _) (mExt_new hq1E)) hE_4) ⟨rfl, rfl⟩
set_option maxHeartbeats 4000000 in
set_option maxRecDepth 100000 in
theorem k_K_refuseNoPath (l : Launch) (hst : l.stackTraces = false) (D : va_G) (dA : Nat → ClassId) (base : Nat) (M : mM) (ad : Nat → Nat → Nat) (x : Int32) : mMetX l y_K_refuseNoPath b_K_refuseNoPath 1 none ({ frames := 6, cells := 1, slots := 6, locals := 100 } : Room) 1 6 D dA base M ad [.int x] (fun rv M' ad' => isP x = true ∧ rv = none ∧ M' = M ∧ ad' = ad) (fun E => isP x = false ∧ E = "java/lang/IllegalArgumentException") := by
  refine m_startX (lvs := [(0, .int x)]) (by decide) (Nat.le_of_ble_eq_true rfl) rfl ?_
  intro p e s m below meth c ls X hr hlk hin hml hM hl hno
  refine lv_iload_n X.1 X.2.1 d_K_refuseNoPath_0 rfl (lv_at hl 0 rfl) ?_
  refine r_cS (As := [.int x]) (rest := []) X hml hl.1 hM (k_K_isPath l D dA base M ad x) c_K_72 v_K_isPath rfl (Nat.le_of_ble_eq_true rfl) ⟨rfl, rfl, Nat.le_of_ble_eq_true rfl, Nat.le_of_ble_eq_true rfl⟩ ⟨Nat.le_of_ble_eq_true rfl, Nat.le_of_ble_eq_true rfl⟩ d_K_refuseNoPath_1 ?_
  intro rv M1 ad1 H locs hP hM hE
  obtain ⟨e1, e2, e3⟩ := hP
  subst rv; subst M1; subst ad1
  show W _ _ _ _ _ _ _ _ _ _ _ _ _ _ _ (F0 m 4 ls [.int (if isP x = true then 1 else 0)])
  refine lv_if_ne (tgt := 18) X.1 X.2.1 d_K_refuseNoPath_4 (by decide) (fun h4 => ?_) (fun h4 => ?_)
  · skip
    refine vx_ret ?_
    exact m_vret X hr hlk hM d_K_refuseNoPath_18 ⟨Nat.le_of_ble_eq_true rfl, Nat.le_of_ble_eq_true rfl⟩ (mExt_rf _ _) ⟨bn0 h4, rfl, rfl, rfl⟩
  · skip
    exact r_throwW X hst hml hl.1 hM hlk hno t_K_75_282_79 d_K_refuseNoPath_7 d_K_refuseNoPath_10 d_K_refuseNoPath_11 d_K_refuseNoPath_14 d_K_refuseNoPath_17 ⟨Nat.le_of_ble_eq_true rfl, Nat.le_of_ble_eq_true rfl, Nat.le_of_ble_eq_true rfl, Nat.le_of_ble_eq_true rfl⟩ ⟨Nat.le_of_ble_eq_true rfl, Nat.le_of_ble_eq_true rfl⟩ ⟨Bool.eq_false_iff.mpr (be0 h4), rfl⟩
abbrev cOk (M : mM) (x : Int32) : Prop := 0 ≤ x ∧ x < 8 ∧ gi M 2 x.toNatClampNeg 0 ≠ 0
set_option maxHeartbeats 4000000 in
set_option maxRecDepth 100000 in
theorem k_K_refuseNoClient (l : Launch) (hst : l.stackTraces = false) (D : va_G) (dA : Nat → ClassId) (base : Nat) (M : mM) (ad : Nat → Nat → Nat) (hw : wK M) (x : Int32) : mMetX l y_K_refuseNoClient b_K_refuseNoClient 2 none ({ frames := 6, cells := 1, slots := 6, locals := 100 } : Room) 1 6 D dA base M ad [.ref (ad 0 0), .int x] (fun rv M' ad' => cOk M x ∧ rv = none ∧ M' = M ∧ ad' = ad) (fun E => ¬ cOk M x ∧ E = "java/util/NoSuchElementException") := by
  refine m_startX (lvs := [(0, .ref (ad 0 0)), (1, .int x)]) (by decide) (Nat.le_of_ble_eq_true rfl) rfl ?_
  intro p e s m below meth c ls X hr hlk hin hml hM hl hno
  refine lv_iload_n X.1 X.2.1 d_K_refuseNoClient_0 rfl (lv_at hl 1 rfl) ?_
  refine lv_if_lt (tgt := 22) X.1 X.2.1 d_K_refuseNoClient_1 (by decide) (fun h1 => ?_) (fun h1 => ?_)
  · skip
    exact r_throwNW X hst hml hl.1 hM hlk hno t_K_135_284_139 d_K_refuseNoClient_22 d_K_refuseNoClient_25 d_K_refuseNoClient_26 d_K_refuseNoClient_29 d_K_refuseNoClient_32 ⟨Nat.le_of_ble_eq_true rfl, Nat.le_of_ble_eq_true rfl, Nat.le_of_ble_eq_true rfl, Nat.le_of_ble_eq_true rfl⟩ ⟨Nat.le_of_ble_eq_true rfl, Nat.le_of_ble_eq_true rfl⟩ ⟨fun z => absurd h1 (Int32.not_lt.mpr z.1), rfl⟩
  · skip
    refine lv_iload_n X.1 X.2.1 d_K_refuseNoClient_4 rfl (lv_at hl 1 rfl) ?_
    refine lv_bipush (v := 8) X.1 X.2.1 d_K_refuseNoClient_5 (by decide) ?_
    refine lv_icmp_ge (tgt := 22) X.1 X.2.1 d_K_refuseNoClient_7 (by decide) (fun h7 => ?_) (fun h7 => ?_)
    · skip
      exact r_throwNW X hst hml hl.1 hM hlk hno t_K_135_284_139 d_K_refuseNoClient_22 d_K_refuseNoClient_25 d_K_refuseNoClient_26 d_K_refuseNoClient_29 d_K_refuseNoClient_32 ⟨Nat.le_of_ble_eq_true rfl, Nat.le_of_ble_eq_true rfl, Nat.le_of_ble_eq_true rfl, Nat.le_of_ble_eq_true rfl⟩ ⟨Nat.le_of_ble_eq_true rfl, Nat.le_of_ble_eq_true rfl⟩ ⟨fun z => absurd h7 (Int32.not_le.mpr z.2.1), rfl⟩
    · skip
      obtain ⟨j, hj, hxj⟩ : ∃ j, j < 8 ∧ x = nI j := by
        rcases pk_ix x (n := 8) (by decide) with h9 | h9 | ⟨j, h9, h7⟩
        · exact absurd h9 h1
        · exact absurd h9 h7
        · exact ⟨j, h9, h7⟩
      have hcl : x.toNatClampNeg = j := by rw [hxj]; exact nI_clamp (by omega)
      refine lv_aload_n X.1 X.2.1 d_K_refuseNoClient_10 rfl (lv_at hl 0 rfl) ?_
      refine r_gets (q := 0) X hM rfl (w_k hw) f_K_43 rfl (w_0_7 hw) d_K_refuseNoClient_11 (fun hv1 => ?_)
      refine lv_iload_n X.1 X.2.1 d_K_refuseNoClient_14 rfl (lv_at hl 1 rfl) ?_
      refine r_aalds (q := j) X hM rfl hv1 a_clients (fun _ => rfl) (j := j) hxj hj (w_cl hw hj) d_K_refuseNoClient_15 (fun hv2 => ?_)
      refine r_geti X hM rfl hv2 f_K_163 rfl d_K_refuseNoClient_16 ?_
      refine lv_if_ne (tgt := 33) X.1 X.2.1 d_K_refuseNoClient_19 (by decide) (fun h19 => ?_) (fun h19 => ?_)
      · skip
        refine vx_ret ?_
        exact m_vret X hr hlk hM d_K_refuseNoClient_33 ⟨Nat.le_of_ble_eq_true rfl, Nat.le_of_ble_eq_true rfl⟩ (mExt_rf _ _) ⟨⟨Int32.not_lt.mp h1, Int32.not_le.mp h7, by rw [hcl]; exact h19⟩, rfl, rfl, rfl⟩
      · skip
        exact r_throwNW X hst hml hl.1 hM hlk hno t_K_135_284_139 d_K_refuseNoClient_22 d_K_refuseNoClient_25 d_K_refuseNoClient_26 d_K_refuseNoClient_29 d_K_refuseNoClient_32 ⟨Nat.le_of_ble_eq_true rfl, Nat.le_of_ble_eq_true rfl, Nat.le_of_ble_eq_true rfl, Nat.le_of_ble_eq_true rfl⟩ ⟨Nat.le_of_ble_eq_true rfl, Nat.le_of_ble_eq_true rfl⟩ ⟨fun z => z.2.2 (by rw [hcl]; exact h19), rfl⟩
theorem rgOf_lv {D : va_G} {dA : Nat → ClassId} {base : Nat} {M : mM} {ad : Nat → Nat → Nat} {H0 H : Heap} {locs : List Loc} (hM : mSt D dA base M ad H0 H locs) (hw : wK M) {x : Int32} : ∀ q, rgOf M x = some q → q < gn M 5 := by
  intro q h
  unfold rgOf at h
  cases hf : ff (fun i => decide (gi M 5 (rgx M i) 0 = x)) (nRg M) 0 with
  | none => rw [hf] at h; cases h
  | some i =>
    rw [hf] at h
    cases h
    have := ff_lt hf
    exact live_regs hM hw (by omega)
set_option maxHeartbeats 4000000 in
set_option maxRecDepth 100000 in
theorem k_K_needRegistration (l : Launch) (hst : l.stackTraces = false) (D : va_G) (dA : Nat → ClassId) (base : Nat) (M : mM) (ad : Nat → Nat → Nat) (hw : wK M) (x : Int32) : mMetX l y_K_needRegistration b_K_needRegistration 3 (some (FieldType.object "ScopeKeeper$Registration")) ({ frames := 7, cells := 2, slots := 12, locals := 130 } : Room) 2 12 D dA base M ad [.ref (ad 0 0), .int x] (fun rv M' ad' => ∃ g, isP x = true ∧ rgOf M x = some g ∧ rv = some (.ref (ad 5 g)) ∧ M' = M ∧ ad' = ad) (fun E => (isP x = false ∧ E = "java/lang/IllegalArgumentException") ∨ (isP x = true ∧ rgOf M x = none ∧ E = "java/util/NoSuchElementException")) := by
  refine m_startX (lvs := [(0, .ref (ad 0 0)), (1, .int x)]) (by decide) (Nat.le_of_ble_eq_true rfl) rfl ?_
  intro p e s m below meth c ls X hr hlk hin hml hM hl hno
  refine lv_iload_n X.1 X.2.1 d_K_needRegistration_0 rfl (lv_at hl 1 rfl) ?_
  refine r_cSX (As := [.int x]) (rest := []) X hml hl.1 hM (k_K_refuseNoPath l hst D dA base M ad x) c_K_98 cx_K_98 v_K_refuseNoPath rfl (Nat.le_of_ble_eq_true rfl) ⟨rfl, rfl, Nat.le_of_ble_eq_true rfl, Nat.le_of_ble_eq_true rfl⟩ ⟨Nat.le_of_ble_eq_true rfl, Nat.le_of_ble_eq_true rfl⟩ d_K_needRegistration_1 (fun E ce q H locs hPx hM hy1 hy2 hy3 => m_out hM hlk hno (Or.inl hPx) hy1 hy2 hy3 ⟨Nat.le_of_ble_eq_true rfl, Nat.le_of_ble_eq_true rfl⟩) ?_
  intro rv M1 ad1 H locs hP hM hE
  obtain ⟨hp, e1, e2, e3⟩ := hP
  subst rv; subst M1; subst ad1
  show W _ _ _ _ _ _ _ _ _ _ _ _ _ _ _ (F0 m 4 ls [])
  refine lv_aload_n X.1 X.2.1 d_K_needRegistration_4 rfl (lv_at hl 0 rfl) ?_
  refine lv_iload_n X.1 X.2.1 d_K_needRegistration_5 rfl (lv_at hl 1 rfl) ?_
  refine r_cV (As := [.int x]) (rest := []) X hml hl.1 hM (k_K_registrationOf l D dA base M ad hw x) c_K_286 v_K_registrationOf kc_K rfl (w_k hw) rfl (Nat.le_of_ble_eq_true rfl) ⟨rfl, rfl, Nat.le_of_ble_eq_true rfl, Nat.le_of_ble_eq_true rfl⟩ ⟨Nat.le_of_ble_eq_true rfl, Nat.le_of_ble_eq_true rfl⟩ d_K_needRegistration_6 ?_
  intro rv M1 ad1 H locs hP hM hE
  obtain ⟨e1, e2, e3⟩ := hP
  subst rv; subst M1; subst ad1
  show W _ _ _ _ _ _ _ _ _ _ _ _ _ _ _ (F0 m 9 ls [rfv ad 5 (rgOf M x)])
  refine r_astore_n (lv' := [(2, rfv ad 5 (rgOf M x)), (0, .ref (ad 0 0)), (1, .int x)]) X.1 X.2.1 d_K_needRegistration_9 rfl hl (by decide) rfl (fun ls hl => ?_)
  refine r_aload_n X.1 X.2.1 d_K_needRegistration_10 rfl (lv_at hl 0 rfl) ?_
  refine r_ifnonnull (tgt := 25) X.1 X.2.1 d_K_needRegistration_11 (by decide) (fun g h11 => ?_) (fun h11 => ?_)
  · skip
    rw [h11] at hl
    have hl : lv_has ls 3 [(2, .ref (ad 5 g)), (0, .ref (ad 0 0)), (1, .int x)] := hl
    refine lv_aload_n X.1 X.2.1 d_K_needRegistration_25 rfl (lv_at hl 0 rfl) ?_
    refine vx_ret ?_
    exact m_aret X hr hlk hM (by first | rfl | exact rfv_isRef _ _ _) d_K_needRegistration_26 ⟨Nat.le_of_ble_eq_true rfl, Nat.le_of_ble_eq_true rfl⟩ (mExt_rf _ _) ⟨g, hp, h11, rfl, rfl, rfl⟩
  · skip
    rw [h11] at hl
    have hl : lv_has ls 3 [(2, .null), (0, .ref (ad 0 0)), (1, .int x)] := hl
    exact r_throwNW X hst hml hl.1 hM hlk hno t_K_135_289_139 d_K_needRegistration_14 d_K_needRegistration_17 d_K_needRegistration_18 d_K_needRegistration_21 d_K_needRegistration_24 ⟨Nat.le_of_ble_eq_true rfl, Nat.le_of_ble_eq_true rfl, Nat.le_of_ble_eq_true rfl, Nat.le_of_ble_eq_true rfl⟩ ⟨Nat.le_of_ble_eq_true rfl, Nat.le_of_ble_eq_true rfl⟩ (Or.inr ⟨hp, h11, rfl⟩)
set_option maxHeartbeats 4000000 in
set_option maxRecDepth 100000 in
theorem k_K_networkAnswer (l : Launch) (hst : l.stackTraces = false) (D : va_G) (dA : Nat → ClassId) (base : Nat) (M : mM) (ad : Nat → Nat → Nat) (hw : wK M) (x : Int32) : mMetX l y_K_networkAnswer b_K_networkAnswer 2 (some FieldType.int) ({ frames := 6, cells := 1, slots := 6, locals := 100 } : Room) 1 6 D dA base M ad [.ref (ad 0 0), .int x] (fun rv M' ad' => gi M 0 0 1 ≠ 0 ∧ rv = some (.int (gi M 0 0 2 + x)) ∧ M' = M ∧ ad' = ad) (fun E => gi M 0 0 1 = 0 ∧ E = "java/lang/UnsupportedOperationException") := by
  refine m_startX (lvs := [(0, .ref (ad 0 0)), (1, .int x)]) (by decide) (Nat.le_of_ble_eq_true rfl) rfl ?_
  intro p e s m below meth c ls X hr hlk hin hml hM hl hno
  refine lv_aload_n X.1 X.2.1 d_K_networkAnswer_0 rfl (lv_at hl 0 rfl) ?_
  refine r_geti X hM rfl (w_k hw) f_K_15 rfl d_K_networkAnswer_1 ?_
  refine lv_if_ne (tgt := 18) X.1 X.2.1 d_K_networkAnswer_4 (by decide) (fun h4 => ?_) (fun h4 => ?_)
  · skip
    refine lv_aload_n X.1 X.2.1 d_K_networkAnswer_18 rfl (lv_at hl 0 rfl) ?_
    refine r_geti X hM rfl (w_k hw) f_K_19 rfl d_K_networkAnswer_19 ?_
    refine lv_iload_n X.1 X.2.1 d_K_networkAnswer_22 rfl (lv_at hl 1 rfl) ?_
    refine lv_iadd X.1 X.2.1 d_K_networkAnswer_23 ?_
    refine vx_ret ?_
    exact m_iret X hr hlk hM d_K_networkAnswer_24 ⟨Nat.le_of_ble_eq_true rfl, Nat.le_of_ble_eq_true rfl⟩ (mExt_rf _ _) ⟨h4, rfl, rfl, rfl⟩
  · skip
    exact r_throwW X hst hml hl.1 hM hlk hno t_K_291_293_295 d_K_networkAnswer_7 d_K_networkAnswer_10 d_K_networkAnswer_11 d_K_networkAnswer_14 d_K_networkAnswer_17 ⟨Nat.le_of_ble_eq_true rfl, Nat.le_of_ble_eq_true rfl, Nat.le_of_ble_eq_true rfl, Nat.le_of_ble_eq_true rfl⟩ ⟨Nat.le_of_ble_eq_true rfl, Nat.le_of_ble_eq_true rfl⟩ ⟨h4, rfl⟩
set_option maxHeartbeats 4000000 in
set_option maxRecDepth 100000 in
theorem k_K_network (l : Launch) (D : va_G) (dA : Nat → ClassId) (base : Nat) (M : mM) (ad : Nat → Nat → Nat) (hw : wK M) (u x : Int32) (hu : u = 0 ∨ u = 1) (hv : gi M 0 0 1 = 0 ∨ gi M 0 0 1 = 1) : mMet l y_K_network b_K_network 4 (some FieldType.boolean) ({ frames := 0, cells := 0, slots := 0, locals := 0 } : Room) 0 0 D dA base M ad [.ref (ad 0 0), .int u, .int x] (fun rv M' ad' => rv = some (.int (gi M 0 0 1)) ∧ M' = si (si M 0 0 1 u) 0 0 2 x ∧ ad' = ad) := by
  refine m_start (lvs := [(0, .ref (ad 0 0)), (1, .int u), (2, .int x)]) (by decide) (Nat.le_of_ble_eq_true rfl) rfl ?_
  intro p e s m below meth c ls X hr hlk hin hml hM hl
  refine lv_aload_n X.1 X.2.1 d_K_network_0 rfl (lv_at hl 0 rfl) ?_
  refine r_geti X hM rfl (w_k hw) f_K_15 rfl d_K_network_1 ?_
  refine lv_istore_n (lv' := [(3, .int (gi M 0 0 1)), (0, .ref (ad 0 0)), (1, .int u), (2, .int x)]) X.1 X.2.1 d_K_network_4 rfl hl (by decide) rfl (fun ls hl => ?_)
  refine lv_aload_n X.1 X.2.1 d_K_network_5 rfl (lv_at hl 1 rfl) ?_
  refine lv_iload_n X.1 X.2.1 d_K_network_6 rfl (lv_at hl 2 rfl) ?_
  refine r_puti X hM rfl (w_k hw) p_K_15 rfl (by rcases hu with rfl | rfl <;> rfl) (by rcases hu with rfl | rfl <;> rfl) d_K_network_7 (fun H locs hM => ?_)
  refine lv_aload_n X.1 X.2.1 d_K_network_10 rfl (lv_at hl 1 rfl) ?_
  refine lv_iload_n X.1 X.2.1 d_K_network_11 rfl (lv_at hl 3 rfl) ?_
  refine r_puti X hM rfl (w_k hw) p_K_19 rfl rfl rfl d_K_network_12 (fun H locs hM => ?_)
  refine lv_iload_n X.1 X.2.1 d_K_network_15 rfl (lv_at hl 0 rfl) ?_
  exact m_zret X hr hlk hM (show narrow .boolean (.int (gi M 0 0 1)) = .int (gi M 0 0 1) by rcases hv with h | h <;> rw [h] <;> rfl) d_K_network_16 ⟨Nat.le_of_ble_eq_true rfl, Nat.le_of_ble_eq_true rfl⟩ ⟨fun _ _ _ => rfl, fun _ => Nat.le_refl _⟩ ⟨rfl, rfl, rfl⟩
end
section
abbrev svOk (a b f d : Int32) : Prop := (0 ≤ a ∧ a < 4) ∧ isP b = true ∧ (0 ≤ f ∧ f ≤ 1) ∧ (0 ≤ d ∧ d ≤ 3)
set_option maxHeartbeats 4000000 in
set_option maxRecDepth 100000 in
theorem k_K_serve (l : Launch) (hst : l.stackTraces = false) (D : va_G) (dA : Nat → ClassId) (base : Nat) (M : mM) (ad : Nat → Nat → Nat) (hw : wK M) (a k b f d : Int32) : mMetX l y_K_serve b_K_serve 7 none ({ frames := 6, cells := 1, slots := 6, locals := 100 } : Room) 1 6 D dA base M ad [.ref (ad 0 0), .int a, .int k, .int b, .int f, .int d] (fun rv M' ad' => svOk a b f d ∧ rv = none ∧ M' = si (si (si (si M 1 a.toNatClampNeg 0 k) 1 a.toNatClampNeg 1 b) 1 a.toNatClampNeg 2 f) 1 a.toNatClampNeg 3 d ∧ ad' = ad) (fun E => ¬ svOk a b f d ∧ E = "java/lang/IllegalArgumentException") := by
  refine m_startX (lvs := [(0, .ref (ad 0 0)), (1, .int a), (2, .int k), (3, .int b), (4, .int f), (5, .int d)]) (by decide) (Nat.le_of_ble_eq_true rfl) rfl ?_
  intro p e s m below meth c ls X hr hlk hin hml hM hl hno
  refine lv_iload_n X.1 X.2.1 d_K_serve_0 rfl (lv_at hl 1 rfl) ?_
  refine r_cS (As := [.int a]) (rest := []) X hml hl.1 hM (k_K_isScript l D dA base M ad a) c_K_68 v_K_isScript rfl (Nat.le_of_ble_eq_true rfl) ⟨rfl, rfl, Nat.le_of_ble_eq_true rfl, Nat.le_of_ble_eq_true rfl⟩ ⟨Nat.le_of_ble_eq_true rfl, Nat.le_of_ble_eq_true rfl⟩ d_K_serve_1 ?_
  intro rv M1 ad1 H locs hP hM hE
  obtain ⟨e1, e2, e3⟩ := hP
  subst rv; subst M1; subst ad1
  show W _ _ _ _ _ _ _ _ _ _ _ _ _ _ _ (F0 m 4 ls [.int (if 0 ≤ a ∧ a < 4 then 1 else 0)])
  refine lv_if_eq (tgt := 14) X.1 X.2.1 d_K_serve_4 (by decide) (fun h4 => ?_) (fun h4 => ?_)
  · skip
    exact r_throw X hst hml hl.1 hM hlk hno t_K_75_77_79 d_K_serve_14 d_K_serve_17 d_K_serve_18 d_K_serve_20 d_K_serve_23 ⟨Nat.le_of_ble_eq_true rfl, Nat.le_of_ble_eq_true rfl, Nat.le_of_ble_eq_true rfl, Nat.le_of_ble_eq_true rfl⟩ ⟨Nat.le_of_ble_eq_true rfl, Nat.le_of_ble_eq_true rfl⟩ ⟨fun z => be0 h4 z.1, rfl⟩
  · skip
    refine lv_iload_n X.1 X.2.1 d_K_serve_7 rfl (lv_at hl 3 rfl) ?_
    refine r_cS (As := [.int b]) (rest := []) X hml hl.1 hM (k_K_isPath l D dA base M ad b) c_K_72 v_K_isPath rfl (Nat.le_of_ble_eq_true rfl) ⟨rfl, rfl, Nat.le_of_ble_eq_true rfl, Nat.le_of_ble_eq_true rfl⟩ ⟨Nat.le_of_ble_eq_true rfl, Nat.le_of_ble_eq_true rfl⟩ d_K_serve_8 ?_
    intro rv M1 ad1 H locs hP hM hE
    obtain ⟨e1, e2, e3⟩ := hP
    subst rv; subst M1; subst ad1
    show W _ _ _ _ _ _ _ _ _ _ _ _ _ _ _ (F0 m 11 ls [.int (if isP b = true then 1 else 0)])
    refine lv_if_ne (tgt := 24) X.1 X.2.1 d_K_serve_11 (by decide) (fun h11 => ?_) (fun h11 => ?_)
    · skip
      refine lv_iload X.1 X.2.1 d_K_serve_24 (lv_at hl 4 rfl) ?_
      refine lv_if_lt (tgt := 46) X.1 X.2.1 d_K_serve_26 (by decide) (fun h26 => ?_) (fun h26 => ?_)
      · skip
        exact r_throw X hst hml hl.1 hM hlk hno t_K_75_82_79 d_K_serve_46 d_K_serve_49 d_K_serve_50 d_K_serve_52 d_K_serve_55 ⟨Nat.le_of_ble_eq_true rfl, Nat.le_of_ble_eq_true rfl, Nat.le_of_ble_eq_true rfl, Nat.le_of_ble_eq_true rfl⟩ ⟨Nat.le_of_ble_eq_true rfl, Nat.le_of_ble_eq_true rfl⟩ ⟨fun z => absurd h26 (Int32.not_lt.mpr z.2.2.1.1), rfl⟩
      · skip
        refine lv_iload X.1 X.2.1 d_K_serve_29 (lv_at hl 4 rfl) ?_
        refine lv_iconst (v := 1) X.1 X.2.1 d_K_serve_31 (by decide) ?_
        refine lv_icmp_gt (tgt := 46) X.1 X.2.1 d_K_serve_32 (by decide) (fun h32 => ?_) (fun h32 => ?_)
        · skip
          exact r_throw X hst hml hl.1 hM hlk hno t_K_75_82_79 d_K_serve_46 d_K_serve_49 d_K_serve_50 d_K_serve_52 d_K_serve_55 ⟨Nat.le_of_ble_eq_true rfl, Nat.le_of_ble_eq_true rfl, Nat.le_of_ble_eq_true rfl, Nat.le_of_ble_eq_true rfl⟩ ⟨Nat.le_of_ble_eq_true rfl, Nat.le_of_ble_eq_true rfl⟩ ⟨fun z => absurd h32 (Int32.not_lt.mpr z.2.2.1.2), rfl⟩
        · skip
          refine lv_iload X.1 X.2.1 d_K_serve_35 (lv_at hl 5 rfl) ?_
          refine lv_if_lt (tgt := 46) X.1 X.2.1 d_K_serve_37 (by decide) (fun h37 => ?_) (fun h37 => ?_)
          · skip
            exact r_throw X hst hml hl.1 hM hlk hno t_K_75_82_79 d_K_serve_46 d_K_serve_49 d_K_serve_50 d_K_serve_52 d_K_serve_55 ⟨Nat.le_of_ble_eq_true rfl, Nat.le_of_ble_eq_true rfl, Nat.le_of_ble_eq_true rfl, Nat.le_of_ble_eq_true rfl⟩ ⟨Nat.le_of_ble_eq_true rfl, Nat.le_of_ble_eq_true rfl⟩ ⟨fun z => absurd h37 (Int32.not_lt.mpr z.2.2.2.1), rfl⟩
          · skip
            refine lv_iload X.1 X.2.1 d_K_serve_40 (lv_at hl 5 rfl) ?_
            refine lv_iconst (v := 3) X.1 X.2.1 d_K_serve_42 (by decide) ?_
            refine lv_icmp_le (tgt := 56) X.1 X.2.1 d_K_serve_43 (by decide) (fun h43 => ?_) (fun h43 => ?_)
            · skip
              obtain ⟨j, hj, hxj⟩ : ∃ j : Nat, j < 4 ∧ a = nI j := by
                rcases pk_ix a (n := 4) (by omega) with u9 | u9 | ⟨j, u9, u8⟩
                · exact absurd u9 (Int32.not_lt.mpr (bn0 h4).1)
                · exact absurd u9 (Int32.not_le.mpr (bn0 h4).2)
                · exact ⟨j, u9, u8⟩
              have hcl : a.toNatClampNeg = j := by rw [hxj]; exact nI_clamp (by omega)
              refine lv_aload_n X.1 X.2.1 d_K_serve_56 rfl (lv_at hl 0 rfl) ?_
              refine r_gets (q := 0) X hM rfl (w_k hw) f_K_11 rfl (w_0_0 hw) d_K_serve_57 (fun hv3 => ?_)
              refine lv_iload_n X.1 X.2.1 d_K_serve_60 rfl (lv_at hl 1 rfl) ?_
              refine r_aalds (q := j) X hM rfl hv3 a_scripts (fun _ => rfl) (j := j) hxj hj (w_sc hw hj) d_K_serve_61 (fun hv4 => ?_)
              refine lv_astore (lv' := [(6, .ref (ad 1 j)), (0, .ref (ad 0 0)), (1, .int a), (2, .int k), (3, .int b), (4, .int f), (5, .int d)]) X.1 X.2.1 d_K_serve_62 hl (by decide) rfl (fun ls hl => ?_)
              refine lv_aload X.1 X.2.1 d_K_serve_64 (lv_at hl 0 rfl) ?_
              refine lv_iload_n X.1 X.2.1 d_K_serve_66 rfl (lv_at hl 3 rfl) ?_
              refine r_puti X hM rfl hv4 p_K_84 rfl rfl rfl d_K_serve_67 (fun H locs hM => ?_)
              refine lv_aload X.1 X.2.1 d_K_serve_70 (lv_at hl 0 rfl) ?_
              refine lv_iload_n X.1 X.2.1 d_K_serve_72 rfl (lv_at hl 4 rfl) ?_
              refine r_puti X hM rfl hv4 p_K_87 rfl rfl rfl d_K_serve_73 (fun H locs hM => ?_)
              refine lv_aload X.1 X.2.1 d_K_serve_76 (lv_at hl 0 rfl) ?_
              refine lv_iload X.1 X.2.1 d_K_serve_78 (lv_at hl 5 rfl) ?_
              refine r_puti X hM rfl hv4 p_K_90 rfl rfl rfl d_K_serve_80 (fun H locs hM => ?_)
              refine lv_aload X.1 X.2.1 d_K_serve_83 (lv_at hl 0 rfl) ?_
              refine lv_iload X.1 X.2.1 d_K_serve_85 (lv_at hl 6 rfl) ?_
              refine r_puti X hM rfl hv4 p_K_93 rfl rfl rfl d_K_serve_87 (fun H locs hM => ?_)
              refine vx_ret ?_
              exact m_vret X hr hlk hM d_K_serve_90 ⟨Nat.le_of_ble_eq_true rfl, Nat.le_of_ble_eq_true rfl⟩ ⟨fun _ _ _ => rfl, fun _ => Nat.le_refl _⟩ ⟨⟨bn0 h4, bn0 h11, ⟨Int32.not_lt.mp h26, Int32.not_lt.mp h32⟩, ⟨Int32.not_lt.mp h37, h43⟩⟩, rfl, by rw [hcl], rfl⟩
            · skip
              exact r_throw X hst hml hl.1 hM hlk hno t_K_75_82_79 d_K_serve_46 d_K_serve_49 d_K_serve_50 d_K_serve_52 d_K_serve_55 ⟨Nat.le_of_ble_eq_true rfl, Nat.le_of_ble_eq_true rfl, Nat.le_of_ble_eq_true rfl, Nat.le_of_ble_eq_true rfl⟩ ⟨Nat.le_of_ble_eq_true rfl, Nat.le_of_ble_eq_true rfl⟩ ⟨fun z => h43 z.2.2.2.2, rfl⟩
    · skip
      exact r_throw X hst hml hl.1 hM hlk hno t_K_75_77_79 d_K_serve_14 d_K_serve_17 d_K_serve_18 d_K_serve_20 d_K_serve_23 ⟨Nat.le_of_ble_eq_true rfl, Nat.le_of_ble_eq_true rfl, Nat.le_of_ble_eq_true rfl, Nat.le_of_ble_eq_true rfl⟩ ⟨Nat.le_of_ble_eq_true rfl, Nat.le_of_ble_eq_true rfl⟩ ⟨fun z => be0 h11 z.2.1, rfl⟩
abbrev jOk (M : mM) (x : Int32) : Prop := 0 ≤ x ∧ x < gi M 0 0 10
set_option maxHeartbeats 4000000 in
set_option maxRecDepth 100000 in
theorem k_K_outcome (l : Launch) (hst : l.stackTraces = false) (D : va_G) (dA : Nat → ClassId) (base : Nat) (M : mM) (ad : Nat → Nat → Nat) (hw : wK M) (x : Int32) : mMetX l y_K_outcome b_K_outcome 2 (some FieldType.int) ({ frames := 6, cells := 1, slots := 6, locals := 100 } : Room) 1 6 D dA base M ad [.ref (ad 0 0), .int x] (fun rv M' ad' => jOk M x ∧ rv = some (.int (gi M 4 x.toNatClampNeg 5)) ∧ M' = M ∧ ad' = ad) (fun E => ¬ jOk M x ∧ E = "java/lang/IndexOutOfBoundsException") := by
  refine m_startX (lvs := [(0, .ref (ad 0 0)), (1, .int x)]) (by decide) (Nat.le_of_ble_eq_true rfl) rfl ?_
  intro p e s m below meth c ls X hr hlk hin hml hM hl hno
  refine lv_iload_n X.1 X.2.1 d_K_outcome_0 rfl (lv_at hl 1 rfl) ?_
  refine lv_if_lt (tgt := 12) X.1 X.2.1 d_K_outcome_1 (by decide) (fun h1 => ?_) (fun h1 => ?_)
  · skip
    exact r_throwW X hst hml hl.1 hM hlk hno t_K_243_263_247 d_K_outcome_12 d_K_outcome_15 d_K_outcome_16 d_K_outcome_19 d_K_outcome_22 ⟨Nat.le_of_ble_eq_true rfl, Nat.le_of_ble_eq_true rfl, Nat.le_of_ble_eq_true rfl, Nat.le_of_ble_eq_true rfl⟩ ⟨Nat.le_of_ble_eq_true rfl, Nat.le_of_ble_eq_true rfl⟩ ⟨fun z => absurd h1 (Int32.not_lt.mpr z.1), rfl⟩
  · skip
    refine lv_iload_n X.1 X.2.1 d_K_outcome_4 rfl (lv_at hl 1 rfl) ?_
    refine lv_aload_n X.1 X.2.1 d_K_outcome_5 rfl (lv_at hl 0 rfl) ?_
    refine r_geti X hM rfl (w_k hw) f_K_56 rfl d_K_outcome_6 ?_
    refine lv_icmp_lt (tgt := 23) X.1 X.2.1 d_K_outcome_9 (by decide) (fun h9 => ?_) (fun h9 => ?_)
    · skip
      have hN := w_njl hw
      obtain ⟨j, hj, hxj⟩ : ∃ j : Nat, j < (gn M 4) ∧ x = nI j := by
        rcases pk_ix x (n := (gn M 4)) (by omega) with u9 | u9 | ⟨j, u9, u8⟩
        · exact absurd u9 (h1)
        · exact absurd u9 (by rw [← w_nj hw]; exact Int32.not_le.mpr h9)
        · exact ⟨j, u9, u8⟩
      have hcl : x.toNatClampNeg = j := by rw [hxj]; exact nI_clamp (by omega)
      refine lv_aload_n X.1 X.2.1 d_K_outcome_23 rfl (lv_at hl 0 rfl) ?_
      refine r_gets (q := 0) X hM rfl (w_k hw) f_K_52 rfl (w_0_9 hw) d_K_outcome_24 (fun hv1 => ?_)
      refine lv_iload_n X.1 X.2.1 d_K_outcome_27 rfl (lv_at hl 1 rfl) ?_
      refine r_aalds (q := j) X hM rfl hv1 a_jobs (fun _ => rfl) (j := j) hxj (by omega) (w_jb hw hj) d_K_outcome_28 (fun hv2 => ?_)
      refine r_geti X hM rfl hv2 f_K_147 rfl d_K_outcome_29 ?_
      refine vx_ret ?_
      exact m_iret X hr hlk hM d_K_outcome_32 ⟨Nat.le_of_ble_eq_true rfl, Nat.le_of_ble_eq_true rfl⟩ (mExt_rf _ _) ⟨⟨Int32.not_lt.mp h1, h9⟩, by rw [hcl], rfl, rfl⟩
    · skip
      exact r_throwW X hst hml hl.1 hM hlk hno t_K_243_263_247 d_K_outcome_12 d_K_outcome_15 d_K_outcome_16 d_K_outcome_19 d_K_outcome_22 ⟨Nat.le_of_ble_eq_true rfl, Nat.le_of_ble_eq_true rfl, Nat.le_of_ble_eq_true rfl, Nat.le_of_ble_eq_true rfl⟩ ⟨Nat.le_of_ble_eq_true rfl, Nat.le_of_ble_eq_true rfl⟩ ⟨fun z => h9 z.2, rfl⟩
def rgW (M : mM) (g : Nat) (w : Int32) : Int32 := if w = 0 then gi M 5 g 1 else if w = 1 then num M (gr M 5 g 2) else if w = 2 then num M (gr M 5 g 3) else if w = 3 then num M (gr M 5 g 4) else if gi M 5 g 5 = 0 then 0 else 1
def rgXc (M : mM) (x w : Int32) : Nat := if ¬ (0 ≤ w ∧ w ≤ 4) ∨ isP x = false then 1 else if rgOf M x = none then 2 else 0
set_option maxHeartbeats 4000000 in
set_option maxRecDepth 100000 in
theorem k_K_registration (l : Launch) (hst : l.stackTraces = false) (D : va_G) (dA : Nat → ClassId) (base : Nat) (M : mM) (ad : Nat → Nat → Nat) (hw : wK M) (x w : Int32) : mMetX l y_K_registration b_K_registration 4 (some FieldType.int) ({ frames := 8, cells := 3, slots := 18, locals := 170 } : Room) 3 18 D dA base M ad [.ref (ad 0 0), .int x, .int w] (fun rv M' ad' => ∃ g, rgXc M x w = 0 ∧ rgOf M x = some g ∧ rv = some (.int (rgW M g w)) ∧ M' = M ∧ ad' = ad) (fun E => (rgXc M x w = 1 ∧ E = "java/lang/IllegalArgumentException") ∨ (rgXc M x w = 2 ∧ E = "java/util/NoSuchElementException")) := by
  refine m_startX (lvs := [(0, .ref (ad 0 0)), (1, .int x), (2, .int w)]) (by decide) (Nat.le_of_ble_eq_true rfl) rfl ?_
  intro p e s m below meth c ls X hr hlk hin hml hM hl hno
  refine lv_iload_n X.1 X.2.1 d_K_registration_0 rfl (lv_at hl 2 rfl) ?_
  refine lv_if_lt (tgt := 9) X.1 X.2.1 d_K_registration_1 (by decide) (fun h1 => ?_) (fun h1 => ?_)
  · skip
    exact r_throw X hst hml hl.1 hM hlk hno t_K_75_233_79 d_K_registration_9 d_K_registration_12 d_K_registration_13 d_K_registration_15 d_K_registration_18 ⟨Nat.le_of_ble_eq_true rfl, Nat.le_of_ble_eq_true rfl, Nat.le_of_ble_eq_true rfl, Nat.le_of_ble_eq_true rfl⟩ ⟨Nat.le_of_ble_eq_true rfl, Nat.le_of_ble_eq_true rfl⟩ (Or.inl ⟨if_pos (Or.inl (fun z => absurd h1 (Int32.not_lt.mpr z.1))), rfl⟩)
  · skip
    refine lv_iload_n X.1 X.2.1 d_K_registration_4 rfl (lv_at hl 2 rfl) ?_
    refine lv_iconst (v := 4) X.1 X.2.1 d_K_registration_5 (by decide) ?_
    refine lv_icmp_le (tgt := 19) X.1 X.2.1 d_K_registration_6 (by decide) (fun h6 => ?_) (fun h6 => ?_)
    · skip
      refine lv_aload_n X.1 X.2.1 d_K_registration_19 rfl (lv_at hl 0 rfl) ?_
      refine lv_iload_n X.1 X.2.1 d_K_registration_20 rfl (lv_at hl 1 rfl) ?_
      refine r_cVX (As := [.int x]) (rest := []) X hml hl.1 hM (k_K_needRegistration l hst D dA base M ad hw x) c_K_187 cx_K_187 v_K_needRegistration kc_K rfl (w_k hw) rfl (Nat.le_of_ble_eq_true rfl) ⟨rfl, rfl, Nat.le_of_ble_eq_true rfl, Nat.le_of_ble_eq_true rfl⟩ ⟨Nat.le_of_ble_eq_true rfl, Nat.le_of_ble_eq_true rfl⟩ d_K_registration_21 (fun E ce q H locs hPx hM hy1 hy2 hy3 => m_out hM hlk hno (by rcases hPx with ⟨z1, z2⟩ | ⟨z1, z2, z3⟩; exact Or.inl ⟨if_pos (Or.inr z1), z2⟩; exact Or.inr ⟨by unfold rgXc; rw [if_neg (by rintro (z | z); exact z ⟨Int32.not_lt.mp h1, h6⟩; rw [z1] at z; cases z), if_pos z2], z3⟩) hy1 hy2 hy3 ⟨Nat.le_of_ble_eq_true rfl, Nat.le_of_ble_eq_true rfl⟩) ?_
      intro rv M1 ad1 H locs hP hM hE
      obtain ⟨g, hp, hg, e1, e2, e3⟩ := hP
      subst rv; subst M1; subst ad1
      have hgl := rgOf_lv hM hw _ hg
      show W _ _ _ _ _ _ _ _ _ _ _ _ _ _ _ (F0 m 24 ls [.ref (ad 5 g)])
      refine lv_astore_n (lv' := [(3, .ref (ad 5 g)), (0, .ref (ad 0 0)), (1, .int x), (2, .int w)]) X.1 X.2.1 d_K_registration_24 rfl hl (by decide) rfl (fun ls hl => ?_)
      refine lv_iload_n X.1 X.2.1 d_K_registration_25 rfl (lv_at hl 3 rfl) ?_
      by_cases hs_0 : w = 0
      · skip
        refine W.eq (g2 := F0 m 26 ls (.int 0 :: [])) (by rw [hs_0]) ?_
        refine lv_tableIn (tgt := 56) X.1 X.2.1 d_K_registration_26 (by decide) (by decide) rfl (by decide) ?_
        refine lv_aload_n X.1 X.2.1 d_K_registration_56 rfl (lv_at hl 0 rfl) ?_
        refine r_geti X hM rfl hgl f_K_235 rfl d_K_registration_57 ?_
        refine vx_ret ?_
        exact m_iret X hr hlk hM d_K_registration_60 ⟨Nat.le_of_ble_eq_true rfl, Nat.le_of_ble_eq_true rfl⟩ (mExt_rf _ _) ⟨g, by unfold rgXc; rw [if_neg (by rintro (z | z); exact z ⟨Int32.not_lt.mp h1, h6⟩; rw [hp] at z; cases z), if_neg (by rw [hg]; exact (fun z => nomatch z))], hg, congrArg (fun z => some (Value.int z)) (Eq.symm (by unfold rgW; rw [if_pos hs_0])), rfl, rfl⟩
      by_cases hs_1 : w = 1
      · skip
        refine W.eq (g2 := F0 m 26 ls (.int 1 :: [])) (by rw [hs_1]) ?_
        refine lv_tableIn (tgt := 61) X.1 X.2.1 d_K_registration_26 (by decide) (by decide) rfl (by decide) ?_
        refine lv_aload_n X.1 X.2.1 d_K_registration_61 rfl (lv_at hl 0 rfl) ?_
        refine r_getr X hM rfl hgl f_K_199 rfl d_K_registration_62 (fun hv2 => ?_)
        refine r_cS (As := [rfv ad 7 (gr M 5 g 2)]) (rest := []) X hml hl.1 hM (k_K_numberOf l D dA base M ad (gr M 5 g 2) hv2) c_K_183 v_K_numberOf rfl (Nat.le_of_ble_eq_true rfl) ⟨rfl, rfl, Nat.le_of_ble_eq_true rfl, Nat.le_of_ble_eq_true rfl⟩ ⟨Nat.le_of_ble_eq_true rfl, Nat.le_of_ble_eq_true rfl⟩ d_K_registration_65 ?_
        intro rv M1 ad1 H locs hP hM hE
        obtain ⟨e1, e2, e3⟩ := hP
        subst rv; subst M1; subst ad1
        show W _ _ _ _ _ _ _ _ _ _ _ _ _ _ _ (F0 m 68 ls [.int (num M (gr M 5 g 2))])
        refine vx_ret ?_
        exact m_iret X hr hlk hM d_K_registration_68 ⟨Nat.le_of_ble_eq_true rfl, Nat.le_of_ble_eq_true rfl⟩ (mExt_rf _ _) ⟨g, by unfold rgXc; rw [if_neg (by rintro (z | z); exact z ⟨Int32.not_lt.mp h1, h6⟩; rw [hp] at z; cases z), if_neg (by rw [hg]; exact (fun z => nomatch z))], hg, congrArg (fun z => some (Value.int z)) (Eq.symm (by unfold rgW; rw [if_neg hs_0, if_pos hs_1])), rfl, rfl⟩
      by_cases hs_2 : w = 2
      · skip
        refine W.eq (g2 := F0 m 26 ls (.int 2 :: [])) (by rw [hs_2]) ?_
        refine lv_tableIn (tgt := 69) X.1 X.2.1 d_K_registration_26 (by decide) (by decide) rfl (by decide) ?_
        refine lv_aload_n X.1 X.2.1 d_K_registration_69 rfl (lv_at hl 0 rfl) ?_
        refine r_getr X hM rfl hgl f_K_196 rfl d_K_registration_70 (fun hv4 => ?_)
        refine r_cS (As := [rfv ad 7 (gr M 5 g 3)]) (rest := []) X hml hl.1 hM (k_K_numberOf l D dA base M ad (gr M 5 g 3) hv4) c_K_183 v_K_numberOf rfl (Nat.le_of_ble_eq_true rfl) ⟨rfl, rfl, Nat.le_of_ble_eq_true rfl, Nat.le_of_ble_eq_true rfl⟩ ⟨Nat.le_of_ble_eq_true rfl, Nat.le_of_ble_eq_true rfl⟩ d_K_registration_73 ?_
        intro rv M1 ad1 H locs hP hM hE
        obtain ⟨e1, e2, e3⟩ := hP
        subst rv; subst M1; subst ad1
        show W _ _ _ _ _ _ _ _ _ _ _ _ _ _ _ (F0 m 76 ls [.int (num M (gr M 5 g 3))])
        refine vx_ret ?_
        exact m_iret X hr hlk hM d_K_registration_76 ⟨Nat.le_of_ble_eq_true rfl, Nat.le_of_ble_eq_true rfl⟩ (mExt_rf _ _) ⟨g, by unfold rgXc; rw [if_neg (by rintro (z | z); exact z ⟨Int32.not_lt.mp h1, h6⟩; rw [hp] at z; cases z), if_neg (by rw [hg]; exact (fun z => nomatch z))], hg, congrArg (fun z => some (Value.int z)) (Eq.symm (by unfold rgW; rw [if_neg hs_0, if_neg hs_1, if_pos hs_2])), rfl, rfl⟩
      by_cases hs_3 : w = 3
      · skip
        refine W.eq (g2 := F0 m 26 ls (.int 3 :: [])) (by rw [hs_3]) ?_
        refine lv_tableIn (tgt := 77) X.1 X.2.1 d_K_registration_26 (by decide) (by decide) rfl (by decide) ?_
        refine lv_aload_n X.1 X.2.1 d_K_registration_77 rfl (lv_at hl 0 rfl) ?_
        refine r_getr X hM rfl hgl f_K_169 rfl d_K_registration_78 (fun hv6 => ?_)
        refine r_cS (As := [rfv ad 7 (gr M 5 g 4)]) (rest := []) X hml hl.1 hM (k_K_numberOf l D dA base M ad (gr M 5 g 4) hv6) c_K_183 v_K_numberOf rfl (Nat.le_of_ble_eq_true rfl) ⟨rfl, rfl, Nat.le_of_ble_eq_true rfl, Nat.le_of_ble_eq_true rfl⟩ ⟨Nat.le_of_ble_eq_true rfl, Nat.le_of_ble_eq_true rfl⟩ d_K_registration_81 ?_
        intro rv M1 ad1 H locs hP hM hE
        obtain ⟨e1, e2, e3⟩ := hP
        subst rv; subst M1; subst ad1
        show W _ _ _ _ _ _ _ _ _ _ _ _ _ _ _ (F0 m 84 ls [.int (num M (gr M 5 g 4))])
        refine vx_ret ?_
        exact m_iret X hr hlk hM d_K_registration_84 ⟨Nat.le_of_ble_eq_true rfl, Nat.le_of_ble_eq_true rfl⟩ (mExt_rf _ _) ⟨g, by unfold rgXc; rw [if_neg (by rintro (z | z); exact z ⟨Int32.not_lt.mp h1, h6⟩; rw [hp] at z; cases z), if_neg (by rw [hg]; exact (fun z => nomatch z))], hg, congrArg (fun z => some (Value.int z)) (Eq.symm (by unfold rgW; rw [if_neg hs_0, if_neg hs_1, if_neg hs_2, if_pos hs_3])), rfl, rfl⟩
      refine lv_tableOut (tgt := 85) X.1 X.2.1 d_K_registration_26 (by have a0 := lv_neT hs_0 (a := 0) rfl; have a1 := lv_neT hs_1 (a := 1) rfl; have a2 := lv_neT hs_2 (a := 2) rfl; have a3 := lv_neT hs_3 (a := 3) rfl; omega) (by decide) ?_
      refine lv_aload_n X.1 X.2.1 d_K_registration_85 rfl (lv_at hl 0 rfl) ?_
      refine r_geti X hM rfl hgl f_K_236 rfl d_K_registration_86 ?_
      refine lv_if_eq (tgt := 96) X.1 X.2.1 d_K_registration_89 (by decide) (fun h89 => ?_) (fun h89 => ?_)
      · skip
        refine lv_iconst (v := 0) X.1 X.2.1 d_K_registration_96 (by decide) ?_
        refine vx_ret ?_
        exact m_iret X hr hlk hM d_K_registration_97 ⟨Nat.le_of_ble_eq_true rfl, Nat.le_of_ble_eq_true rfl⟩ (mExt_rf _ _) ⟨g, by unfold rgXc; rw [if_neg (by rintro (z | z); exact z ⟨Int32.not_lt.mp h1, h6⟩; rw [hp] at z; cases z), if_neg (by rw [hg]; exact (fun z => nomatch z))], hg, congrArg (fun z => some (Value.int z)) (Eq.symm (by unfold rgW; rw [if_neg hs_0, if_neg hs_1, if_neg hs_2, if_neg hs_3]; rw [if_pos h89])), rfl, rfl⟩
      · skip
        refine lv_iconst (v := 1) X.1 X.2.1 d_K_registration_92 (by decide) ?_
        refine lv_goto (tgt := 97) X.1 X.2.1 d_K_registration_93 (by decide) ?_
        refine vx_ret ?_
        exact m_iret X hr hlk hM d_K_registration_97 ⟨Nat.le_of_ble_eq_true rfl, Nat.le_of_ble_eq_true rfl⟩ (mExt_rf _ _) ⟨g, by unfold rgXc; rw [if_neg (by rintro (z | z); exact z ⟨Int32.not_lt.mp h1, h6⟩; rw [hp] at z; cases z), if_neg (by rw [hg]; exact (fun z => nomatch z))], hg, congrArg (fun z => some (Value.int z)) (Eq.symm (by unfold rgW; rw [if_neg hs_0, if_neg hs_1, if_neg hs_2, if_neg hs_3]; rw [if_neg h89])), rfl, rfl⟩
    · skip
      exact r_throw X hst hml hl.1 hM hlk hno t_K_75_233_79 d_K_registration_9 d_K_registration_12 d_K_registration_13 d_K_registration_15 d_K_registration_18 ⟨Nat.le_of_ble_eq_true rfl, Nat.le_of_ble_eq_true rfl, Nat.le_of_ble_eq_true rfl, Nat.le_of_ble_eq_true rfl⟩ ⟨Nat.le_of_ble_eq_true rfl, Nat.le_of_ble_eq_true rfl⟩ (Or.inl ⟨if_pos (Or.inl (fun z => h6 z.2)), rfl⟩)
end
section
theorem lfc_le (M : mM) : lfc M ≤ 8 := by
  unfold lfc
  cases h : ff (fun i => decide (gi M 2 i 0 = 0)) 8 0 with
  | none => exact Nat.le_refl _
  | some q => have := ff_lt h; show q ≤ 8; omega
theorem rgFor_lv {D : va_G} {dA : Nat → ClassId} {base : Nat} {M : mM} {ad : Nat → Nat → Nat} {H0 H : Heap} {locs : List Loc} (hM : mSt D dA base M ad H0 H locs) (hw : wK M) {x : Int32} : ∀ q, rgFor M x = some q → q < gn M 5 := rfB_lv hM hw (Nat.le_refl _)
def actFor (M : mM) (x : Int32) : Option Nat := match rgFor M x with
  | none => none
  | some g => gr M 5 g 4
def opXc (M : mM) (x : Int32) : Nat := if isP x = false then 1 else if lfc M = 8 then 2 else 0
def opM (M : mM) (x : Int32) : mM := sr (si (si M 2 (lfc M) 0 1) 2 (lfc M) 1 x) 2 (lfc M) 2 (actFor M x)
/-- the size of a worker's cache; the caches in good order -/
def csz (M : mM) (w : Nat) : Nat := (gi M 6 w 2).toNatClampNeg
def wCa (M : mM) : Prop := ∀ w, w < gn M 7 → wC M w (csz M w)
def ftN (M : mM) (x : Int32) : Nat × Int32 × mM := if gi M 0 0 1 = 0 then (3, 0, M) else (0, gi M 0 0 2 + x, M)
def ftK (M : mM) (k : Nat) (x : Int32) : Nat × Int32 × mM := match gr M 2 k 2 with
  | none => ftN M x
  | some w => if gi M 7 w 3 = 0 then ftN M x else if gi M 7 w 3 = 3 then (0, gi M 7 w 1, M)
    else if (gi M 7 w 3 = 1 ∨ gi M 0 0 1 = 0) ∧ plc M w x (csz M w) < csz M w then (0, atC M 16 w (csz M w) (nI (plc M w x (csz M w))), M)
    else if gi M 0 0 1 = 0 then (3, 0, M) else (0, gi M 0 0 2 + x, kepM M w x (gi M 0 0 2 + x) (csz M w))
def ftF (M : mM) (k x : Int32) : Nat × Int32 × mM := if isP x = false then (1, 0, M) else if ¬ cOk M k then (2, 0, M) else ftK M k.toNatClampNeg x
set_option maxHeartbeats 4000000 in
set_option maxRecDepth 100000 in
theorem k_K_open (l : Launch) (hst : l.stackTraces = false) (D : va_G) (dA : Nat → ClassId) (base : Nat) (M : mM) (ad : Nat → Nat → Nat) (hw : wK M) (x : Int32) : mMetX l y_K_open b_K_open 5 (some FieldType.int) ({ frames := 7, cells := 2, slots := 12, locals := 130 } : Room) 2 12 D dA base M ad [.ref (ad 0 0), .int x] (fun rv M' ad' => opXc M x = 0 ∧ rv = some (.int (nI (lfc M))) ∧ M' = opM M x ∧ ad' = ad) (fun E => (opXc M x = 1 ∧ E = "java/lang/IllegalArgumentException") ∨ (opXc M x = 2 ∧ E = "java/lang/IllegalStateException")) := by
  refine m_startX (lvs := [(0, .ref (ad 0 0)), (1, .int x)]) (by decide) (Nat.le_of_ble_eq_true rfl) rfl ?_
  intro p e s m below meth c ls X hr hlk hin hml hM hl hno
  refine lv_iload_n X.1 X.2.1 d_K_open_0 rfl (lv_at hl 1 rfl) ?_
  refine r_cSX (As := [.int x]) (rest := []) X hml hl.1 hM (k_K_refuseNoPath l hst D dA base M ad x) c_K_98 cx_K_98 v_K_refuseNoPath rfl (Nat.le_of_ble_eq_true rfl) ⟨rfl, rfl, Nat.le_of_ble_eq_true rfl, Nat.le_of_ble_eq_true rfl⟩ ⟨Nat.le_of_ble_eq_true rfl, Nat.le_of_ble_eq_true rfl⟩ d_K_open_1 (fun E ce q H locs hPx hM hy1 hy2 hy3 => m_out hM hlk hno (Or.inl ⟨if_pos hPx.1, hPx.2⟩) hy1 hy2 hy3 ⟨Nat.le_of_ble_eq_true rfl, Nat.le_of_ble_eq_true rfl⟩) ?_
  intro rv M1 ad1 H locs hP hM hE
  obtain ⟨hp, e1, e2, e3⟩ := hP
  subst rv; subst M1; subst ad1
  show W _ _ _ _ _ _ _ _ _ _ _ _ _ _ _ (F0 m 4 ls [])
  refine lv_aload_n X.1 X.2.1 d_K_open_4 rfl (lv_at hl 0 rfl) ?_
  refine r_cV (As := []) (rest := []) X hml hl.1 hM (k_K_leastFreeClient l D dA base M ad hw) c_K_153 v_K_leastFreeClient kc_K rfl (w_k hw) rfl (Nat.le_of_ble_eq_true rfl) ⟨rfl, rfl, Nat.le_of_ble_eq_true rfl, Nat.le_of_ble_eq_true rfl⟩ ⟨Nat.le_of_ble_eq_true rfl, Nat.le_of_ble_eq_true rfl⟩ d_K_open_5 ?_
  intro rv M1 ad1 H locs hP hM hE
  obtain ⟨e1, e2, e3⟩ := hP
  subst rv; subst M1; subst ad1
  have hlf := lfc_le M
  show W _ _ _ _ _ _ _ _ _ _ _ _ _ _ _ (F0 m 8 ls [.int (nI (lfc M))])
  refine lv_istore_n (lv' := [(2, .int (nI (lfc M))), (0, .ref (ad 0 0)), (1, .int x)]) X.1 X.2.1 d_K_open_8 rfl hl (by decide) rfl (fun ls hl => ?_)
  refine lv_iload_n X.1 X.2.1 d_K_open_9 rfl (lv_at hl 0 rfl) ?_
  refine lv_bipush (v := 8) X.1 X.2.1 d_K_open_10 (by decide) ?_
  refine lv_icmp_lt (tgt := 25) X.1 X.2.1 d_K_open_12 (by decide) (fun h12 => ?_) (fun h12 => ?_)
  · skip
    have hj8 : lfc M < 8 := (nI_ltI (by omega) (by decide)).mp h12
    refine lv_aload_n X.1 X.2.1 d_K_open_25 rfl (lv_at hl 1 rfl) ?_
    refine lv_iload_n X.1 X.2.1 d_K_open_26 rfl (lv_at hl 2 rfl) ?_
    refine r_cV (As := [.int x]) (rest := []) X hml hl.1 hM (k_K_registrationFor l D dA base M ad hw x) c_K_159 v_K_registrationFor kc_K rfl (w_k hw) rfl (Nat.le_of_ble_eq_true rfl) ⟨rfl, rfl, Nat.le_of_ble_eq_true rfl, Nat.le_of_ble_eq_true rfl⟩ ⟨Nat.le_of_ble_eq_true rfl, Nat.le_of_ble_eq_true rfl⟩ d_K_open_27 ?_
    intro rv M1 ad1 H locs hP hM hE
    obtain ⟨e1, e2, e3⟩ := hP
    subst rv; subst M1; subst ad1
    have hrl := rgFor_lv hM hw (x := x)
    show W _ _ _ _ _ _ _ _ _ _ _ _ _ _ _ (F0 m 30 ls [rfv ad 5 (rgFor M x)])
    refine r_astore_n (lv' := [(3, rfv ad 5 (rgFor M x)), (2, .int (nI (lfc M))), (0, .ref (ad 0 0)), (1, .int x)]) X.1 X.2.1 d_K_open_30 rfl hl (by decide) rfl (fun ls hl => ?_)
    refine lv_aload_n X.1 X.2.1 d_K_open_31 rfl (lv_at hl 2 rfl) ?_
    refine r_gets (q := 0) X hM rfl (w_k hw) f_K_43 rfl (w_0_7 hw) d_K_open_32 (fun hv4 => ?_)
    refine lv_iload_n X.1 X.2.1 d_K_open_35 rfl (lv_at hl 1 rfl) ?_
    refine r_aalds (q := (lfc M)) X hM rfl hv4 a_clients (fun _ => rfl) (j := (lfc M)) rfl hj8 (w_cl hw hj8) d_K_open_36 (fun hv5 => ?_)
    refine lv_astore (lv' := [(4, .ref (ad 2 ((lfc M)))), (3, rfv ad 5 (rgFor M x)), (2, .int (nI (lfc M))), (0, .ref (ad 0 0)), (1, .int x)]) X.1 X.2.1 d_K_open_37 hl (by decide) (by simp only [List.filter_cons, List.filter_nil, rfv_cat]; rfl) (fun ls hl => ?_)
    refine lv_aload X.1 X.2.1 d_K_open_39 (lv_at hl 0 rfl) ?_
    refine lv_iconst (v := 1) X.1 X.2.1 d_K_open_41 (by decide) ?_
    refine r_puti X hM rfl hv5 p_K_163 rfl rfl rfl d_K_open_42 (fun H locs hM => ?_)
    refine lv_aload X.1 X.2.1 d_K_open_45 (lv_at hl 0 rfl) ?_
    refine lv_iload_n X.1 X.2.1 d_K_open_47 rfl (lv_at hl 4 rfl) ?_
    refine r_puti X hM rfl hv5 p_K_166 rfl rfl rfl d_K_open_48 (fun H locs hM => ?_)
    refine lv_aload X.1 X.2.1 d_K_open_51 (lv_at hl 0 rfl) ?_
    refine r_aload_n X.1 X.2.1 d_K_open_53 rfl (lv_at hl 1 rfl) ?_
    refine r_ifnonnull (tgt := 61) X.1 X.2.1 d_K_open_54 (by decide) (fun g h54 => ?_) (fun h54 => ?_)
    · skip
      rw [h54] at hl
      have hl : lv_has ls 5 [(4, .ref (ad 2 ((lfc M)))), (3, .ref (ad 5 g)), (2, .int (nI (lfc M))), (0, .ref (ad 0 0)), (1, .int x)] := hl
      refine lv_aload_n X.1 X.2.1 d_K_open_61 rfl (lv_at hl 1 rfl) ?_
      refine r_getr X hM rfl (hrl g h54) f_K_169 rfl d_K_open_62 (fun hv6 => ?_)
      refine r_putr X hM rfl hv5 p_K_173 rfl (x := (gr (si (si M 2 (lfc M) 0 1) 2 (lfc M) 1 x) 5 g 4)) hv6 rfl (rfv_nar _ _ _ _) (rfv_fit _ _ _ _) d_K_open_65 (fun H locs hM => ?_)
      refine lv_iload_n X.1 X.2.1 d_K_open_68 rfl (lv_at hl 2 rfl) ?_
      refine vx_ret ?_
      exact m_iret X hr hlk hM d_K_open_69 ⟨Nat.le_of_ble_eq_true rfl, Nat.le_of_ble_eq_true rfl⟩ ⟨fun _ _ _ => rfl, fun _ => Nat.le_refl _⟩ ⟨by unfold opXc; rw [if_neg (by rw [hp]; exact (fun z => nomatch z)), if_neg (by omega)], rfl, by unfold opM actFor; rw [h54] <;> rfl, rfl⟩
    · skip
      rw [h54] at hl
      have hl : lv_has ls 5 [(4, .ref (ad 2 ((lfc M)))), (3, .null), (2, .int (nI (lfc M))), (0, .ref (ad 0 0)), (1, .int x)] := hl
      refine lv_null X.1 X.2.1 d_K_open_57 ?_
      refine lv_goto (tgt := 65) X.1 X.2.1 d_K_open_58 (by decide) ?_
      refine r_putr X hM rfl hv5 p_K_173 rfl (x := none) (fun z hz => by cases hz) rfl rfl rfl d_K_open_65 (fun H locs hM => ?_)
      refine lv_iload_n X.1 X.2.1 d_K_open_68 rfl (lv_at hl 2 rfl) ?_
      refine vx_ret ?_
      exact m_iret X hr hlk hM d_K_open_69 ⟨Nat.le_of_ble_eq_true rfl, Nat.le_of_ble_eq_true rfl⟩ ⟨fun _ _ _ => rfl, fun _ => Nat.le_refl _⟩ ⟨by unfold opXc; rw [if_neg (by rw [hp]; exact (fun z => nomatch z)), if_neg (by omega)], rfl, by unfold opM actFor; rw [h54] <;> rfl, rfl⟩
  · skip
    exact r_throw X hst hml hl.1 hM hlk hno t_K_124_157_128 d_K_open_15 d_K_open_18 d_K_open_19 d_K_open_21 d_K_open_24 ⟨Nat.le_of_ble_eq_true rfl, Nat.le_of_ble_eq_true rfl, Nat.le_of_ble_eq_true rfl, Nat.le_of_ble_eq_true rfl⟩ ⟨Nat.le_of_ble_eq_true rfl, Nat.le_of_ble_eq_true rfl⟩ (Or.inr ⟨by unfold opXc; rw [if_neg (by rw [hp]; exact (fun z => nomatch z)), if_pos]; rcases Nat.lt_or_ge (lfc M) 8 with z | z; exact absurd (nI_lt z (by decide)) h12; omega, rfl⟩)
set_option maxHeartbeats 4000000 in
set_option maxRecDepth 100000 in
theorem k_K_fetch (l : Launch) (hst : l.stackTraces = false) (D : va_G) (dA : Nat → ClassId) (base : Nat) (M : mM) (ad : Nat → Nat → Nat) (hw : wK M) (hca : wCa M) (k x : Int32) : mMetX l y_K_fetch b_K_fetch 8 (some FieldType.int) ({ frames := 7, cells := 3, slots := 18, locals := 150 } : Room) 3 18 D dA base M ad [.ref (ad 0 0), .int k, .int x] (fun rv M' ad' => (ftF M k x).1 = 0 ∧ rv = some (.int (ftF M k x).2.1) ∧ M' = (ftF M k x).2.2 ∧ ad' = ad) (fun E => ((ftF M k x).1 = 1 ∧ E = "java/lang/IllegalArgumentException") ∨ ((ftF M k x).1 = 2 ∧ E = "java/util/NoSuchElementException") ∨ ((ftF M k x).1 = 3 ∧ E = "java/lang/UnsupportedOperationException")) := by
  refine m_startX (lvs := [(0, .ref (ad 0 0)), (1, .int k), (2, .int x)]) (by decide) (Nat.le_of_ble_eq_true rfl) rfl ?_
  intro p e s m below meth c ls X hr hlk hin hml hM hl hno
  refine lv_iload_n X.1 X.2.1 d_K_fetch_0 rfl (lv_at hl 2 rfl) ?_
  refine r_cSX (As := [.int x]) (rest := []) X hml hl.1 hM (k_K_refuseNoPath l hst D dA base M ad x) c_K_98 cx_K_98 v_K_refuseNoPath rfl (Nat.le_of_ble_eq_true rfl) ⟨rfl, rfl, Nat.le_of_ble_eq_true rfl, Nat.le_of_ble_eq_true rfl⟩ ⟨Nat.le_of_ble_eq_true rfl, Nat.le_of_ble_eq_true rfl⟩ d_K_fetch_1 (fun E ce q H locs hPx hM hy1 hy2 hy3 => m_out hM hlk hno (Or.inl ⟨by simp [ftF, hPx.1], hPx.2⟩) hy1 hy2 hy3 ⟨Nat.le_of_ble_eq_true rfl, Nat.le_of_ble_eq_true rfl⟩) ?_
  intro rv M1 ad1 H locs hP hM hE
  obtain ⟨hp, e1, e2, e3⟩ := hP
  subst rv; subst M1; subst ad1
  show W _ _ _ _ _ _ _ _ _ _ _ _ _ _ _ (F0 m 4 ls [])
  refine lv_aload_n X.1 X.2.1 d_K_fetch_4 rfl (lv_at hl 0 rfl) ?_
  refine lv_iload_n X.1 X.2.1 d_K_fetch_5 rfl (lv_at hl 1 rfl) ?_
  refine r_cVX (As := [.int k]) (rest := []) X hml hl.1 hM (k_K_refuseNoClient l hst D dA base M ad hw k) c_K_176 cx_K_176 v_K_refuseNoClient kc_K rfl (w_k hw) rfl (Nat.le_of_ble_eq_true rfl) ⟨rfl, rfl, Nat.le_of_ble_eq_true rfl, Nat.le_of_ble_eq_true rfl⟩ ⟨Nat.le_of_ble_eq_true rfl, Nat.le_of_ble_eq_true rfl⟩ d_K_fetch_6 (fun E ce q H locs hPx hM hy1 hy2 hy3 => m_out hM hlk hno (Or.inr (Or.inl ⟨by simp only [ftF, hp, hPx.1, reduceCtorEq, if_false, not_false_eq_true, if_true], hPx.2⟩)) hy1 hy2 hy3 ⟨Nat.le_of_ble_eq_true rfl, Nat.le_of_ble_eq_true rfl⟩) ?_
  intro rv M1 ad1 H locs hP hM hE
  obtain ⟨hck, e1, e2, e3⟩ := hP
  subst rv; subst M1; subst ad1
  show W _ _ _ _ _ _ _ _ _ _ _ _ _ _ _ (F0 m 9 ls [])
  obtain ⟨j, hj, hxj⟩ : ∃ j : Nat, j < 8 ∧ k = nI j := by
    rcases pk_ix k (n := 8) (by omega) with u9 | u9 | ⟨j, u9, u8⟩
    · exact absurd u9 (Int32.not_lt.mpr hck.1)
    · exact absurd u9 (Int32.not_le.mpr hck.2.1)
    · exact ⟨j, u9, u8⟩
  have hcl : k.toNatClampNeg = j := by rw [hxj]; exact nI_clamp (by omega)
  have hc0 : ¬ gi M 2 j 0 = 0 := by rw [← hcl]; exact hck.2.2
  refine lv_aload_n X.1 X.2.1 d_K_fetch_9 rfl (lv_at hl 0 rfl) ?_
  refine r_gets (q := 0) X hM rfl (w_k hw) f_K_43 rfl (w_0_7 hw) d_K_fetch_10 (fun hv3 => ?_)
  refine lv_iload_n X.1 X.2.1 d_K_fetch_13 rfl (lv_at hl 1 rfl) ?_
  refine r_aalds (q := j) X hM rfl hv3 a_clients (fun _ => rfl) (j := j) hxj hj (w_cl hw hj) d_K_fetch_14 (fun hv4 => ?_)
  refine r_getr X hM rfl hv4 f_K_173 rfl d_K_fetch_15 (fun hv5 => ?_)
  refine r_astore_n (lv' := [(3, rfv ad 7 (gr M 2 j 2)), (0, .ref (ad 0 0)), (1, .int k), (2, .int x)]) X.1 X.2.1 d_K_fetch_18 rfl hl (by decide) rfl (fun ls hl => ?_)
  refine r_aload_n X.1 X.2.1 d_K_fetch_19 rfl (lv_at hl 0 rfl) ?_
  refine r_ifnonnull (tgt := 27) X.1 X.2.1 d_K_fetch_20 (by decide) (fun w h20 => ?_) (fun h20 => ?_)
  · skip
    rw [h20] at hl
    have hl : lv_has ls 8 [(3, .ref (ad 7 w)), (0, .ref (ad 0 0)), (1, .int k), (2, .int x)] := hl
    have hwl : w < gn M 7 := (hv5 w h20)
    refine lv_aload_n X.1 X.2.1 d_K_fetch_27 rfl (lv_at hl 0 rfl) ?_
    refine r_geti X hM rfl hwl f_K_212 rfl d_K_fetch_28 ?_
    refine lv_istore (lv' := [(4, .int (gi M 7 w 3)), (3, .ref (ad 7 w)), (0, .ref (ad 0 0)), (1, .int k), (2, .int x)]) X.1 X.2.1 d_K_fetch_31 hl (by decide) rfl (fun ls hl => ?_)
    refine lv_aload_n X.1 X.2.1 d_K_fetch_33 rfl (lv_at hl 1 rfl) ?_
    refine lv_ifnull X.1 X.2.1 d_K_fetch_34 ?_
    refine lv_iload X.1 X.2.1 d_K_fetch_37 (lv_at hl 0 rfl) ?_
    refine lv_if_ne (tgt := 48) X.1 X.2.1 d_K_fetch_39 (by decide) (fun h39 => ?_) (fun h39 => ?_)
    · skip
      refine lv_iload X.1 X.2.1 d_K_fetch_48 (lv_at hl 0 rfl) ?_
      refine lv_iconst (v := 3) X.1 X.2.1 d_K_fetch_50 (by decide) ?_
      refine lv_icmp_ne (tgt := 59) X.1 X.2.1 d_K_fetch_51 (by decide) (fun h51 => ?_) (fun h51 => ?_)
      · skip
        refine lv_aload_n X.1 X.2.1 d_K_fetch_59 rfl (lv_at hl 1 rfl) ?_
        refine r_gets (q := w) X hM rfl hwl f_K_217 rfl (w_7_4 hw hwl) d_K_fetch_60 (fun hv6 => ?_)
        refine lv_astore (lv' := [(5, .ref (ad 6 w)), (4, .int (gi M 7 w 3)), (3, .ref (ad 7 w)), (0, .ref (ad 0 0)), (1, .int k), (2, .int x)]) X.1 X.2.1 d_K_fetch_63 hl (by decide) rfl (fun ls hl => ?_)
        refine lv_iload X.1 X.2.1 d_K_fetch_65 (lv_at hl 1 rfl) ?_
        refine lv_iconst (v := 1) X.1 X.2.1 d_K_fetch_67 (by decide) ?_
        refine lv_icmp_eq (tgt := 78) X.1 X.2.1 d_K_fetch_68 (by decide) (fun h68 => ?_) (fun h68 => ?_)
        · skip
          refine lv_iconst (v := 1) X.1 X.2.1 d_K_fetch_78 (by decide) ?_
          refine lv_goto (tgt := 83) X.1 X.2.1 d_K_fetch_79 (by decide) ?_
          refine lv_istore (lv' := [(6, .int 1), (5, .ref (ad 6 w)), (4, .int (gi M 7 w 3)), (3, .ref (ad 7 w)), (0, .ref (ad 0 0)), (1, .int k), (2, .int x)]) X.1 X.2.1 d_K_fetch_83 hl (by decide) rfl (fun ls hl => ?_)
          refine lv_iload X.1 X.2.1 d_K_fetch_85 (lv_at hl 0 rfl) ?_
          refine lv_if_eq (tgt := 106) X.1 X.2.1 d_K_fetch_87 (by decide) (fun hz7 => absurd hz7 (by decide)) (fun hz7 => ?_)
          refine lv_aload X.1 X.2.1 d_K_fetch_90 (lv_at hl 1 rfl) ?_
          refine lv_iload_n X.1 X.2.1 d_K_fetch_92 rfl (lv_at hl 6 rfl) ?_
          refine r_cV (As := [.int x]) (rest := []) X hml hl.1 hM (k_Ca_has l D dA base M ad w (csz M w) (hca w hwl) x) c_K_221 v_Ca_has kc_Ca rfl hv6 rfl (Nat.le_of_ble_eq_true rfl) ⟨rfl, rfl, Nat.le_of_ble_eq_true rfl, Nat.le_of_ble_eq_true rfl⟩ ⟨Nat.le_of_ble_eq_true rfl, Nat.le_of_ble_eq_true rfl⟩ d_K_fetch_93 ?_
          intro rv M1 ad1 H locs hP hM hE
          obtain ⟨e1, e2, e3⟩ := hP
          subst rv; subst M1; subst ad1
          show W _ _ _ _ _ _ _ _ _ _ _ _ _ _ _ (F0 m 96 ls [.int (if plc M w x (csz M w) < csz M w then 1 else 0)])
          refine lv_if_eq (tgt := 106) X.1 X.2.1 d_K_fetch_96 (by decide) (fun h96 => ?_) (fun h96 => ?_)
          · skip
            have hhas := be0 h96
            refine lv_aload_n X.1 X.2.1 d_K_fetch_106 rfl (lv_at hl 4 rfl) ?_
            refine lv_iload_n X.1 X.2.1 d_K_fetch_107 rfl (lv_at hl 6 rfl) ?_
            refine r_cVX (As := [.int x]) (rest := []) X hml hl.1 hM (k_K_networkAnswer l hst D dA base M ad hw x) c_K_213 cx_K_213 v_K_networkAnswer kc_K rfl (w_k hw) rfl (Nat.le_of_ble_eq_true rfl) ⟨rfl, rfl, Nat.le_of_ble_eq_true rfl, Nat.le_of_ble_eq_true rfl⟩ ⟨Nat.le_of_ble_eq_true rfl, Nat.le_of_ble_eq_true rfl⟩ d_K_fetch_108 (fun E ce q H locs hPx hM hy1 hy2 hy3 => m_out hM hlk hno (Or.inr (Or.inr ⟨by have hup := hPx.1; first | exact absurd hup h75 | exact absurd h75 hup | simp [ftF, ftK, ftN, hp, hck.1, hck.2.1, hc0, hcl, h20, h39, h51, h68, hhas, hup], hPx.2⟩)) hy1 hy2 hy3 ⟨Nat.le_of_ble_eq_true rfl, Nat.le_of_ble_eq_true rfl⟩) ?_
            intro rv M1 ad1 H locs hP hM hE
            obtain ⟨hup, e1, e2, e3⟩ := hP
            subst rv; subst M1; subst ad1
            show W _ _ _ _ _ _ _ _ _ _ _ _ _ _ _ (F0 m 111 ls [.int (gi M 0 0 2 + x)])
            refine lv_istore (lv' := [(7, .int (gi M 0 0 2 + x)), (6, .int 1), (5, .ref (ad 6 w)), (4, .int (gi M 7 w 3)), (3, .ref (ad 7 w)), (0, .ref (ad 0 0)), (1, .int k), (2, .int x)]) X.1 X.2.1 d_K_fetch_111 hl (by decide) rfl (fun ls hl => ?_)
            refine lv_aload X.1 X.2.1 d_K_fetch_113 (lv_at hl 2 rfl) ?_
            refine lv_iload_n X.1 X.2.1 d_K_fetch_115 rfl (lv_at hl 7 rfl) ?_
            refine lv_iload X.1 X.2.1 d_K_fetch_116 (lv_at hl 0 rfl) ?_
            refine r_cV (As := [.int x, .int (gi M 0 0 2 + x)]) (rest := []) X hml hl.1 hM (k_Ca_keep l D dA base M ad w (csz M w) (hca w hwl) x (gi M 0 0 2 + x)) c_K_229 v_Ca_keep kc_Ca rfl hv6 rfl (Nat.le_of_ble_eq_true rfl) ⟨rfl, rfl, Nat.le_of_ble_eq_true rfl, Nat.le_of_ble_eq_true rfl⟩ ⟨Nat.le_of_ble_eq_true rfl, Nat.le_of_ble_eq_true rfl⟩ d_K_fetch_118 ?_
            intro rv M1 ad1 H locs hP hM hE
            have hE9 := hE
            obtain ⟨e1, e2, e3⟩ := hP
            subst rv; subst M1; subst ad1
            show W _ _ _ _ _ _ _ _ _ _ _ _ _ _ _ (F0 m 121 ls [])
            refine lv_iload X.1 X.2.1 d_K_fetch_121 (lv_at hl 0 rfl) ?_
            have hF : ftF M k x = (0, gi M 0 0 2 + x, kepM M w x (gi M 0 0 2 + x) (csz M w)) := by first | exact absurd h75 hup | exact absurd hup h75 | simp [ftF, ftK, ftN, hp, hck.1, hck.2.1, hc0, hcl, h20, h39, h51, h68, hhas, hup]
            refine vx_ret ?_
            exact m_iret X hr hlk hM d_K_fetch_123 ⟨Nat.le_of_ble_eq_true rfl, Nat.le_of_ble_eq_true rfl⟩ (by rw [hF] at *; exact hE9) ⟨by rw [hF], by rw [hF], by rw [hF], rfl⟩
          · skip
            have hhas := bn0 h96
            refine lv_aload X.1 X.2.1 d_K_fetch_99 (lv_at hl 1 rfl) ?_
            refine lv_iload_n X.1 X.2.1 d_K_fetch_101 rfl (lv_at hl 6 rfl) ?_
            refine r_cV (As := [.int x]) (rest := []) X hml hl.1 hM (k_Ca_valueOf l D dA base M ad w (csz M w) (hca w hwl) x) c_K_226 v_Ca_valueOf kc_Ca rfl hv6 rfl (Nat.le_of_ble_eq_true rfl) ⟨rfl, rfl, Nat.le_of_ble_eq_true rfl, Nat.le_of_ble_eq_true rfl⟩ ⟨Nat.le_of_ble_eq_true rfl, Nat.le_of_ble_eq_true rfl⟩ d_K_fetch_102 ?_
            intro rv M1 ad1 H locs hP hM hE
            obtain ⟨e1, e2, e3⟩ := hP
            subst rv; subst M1; subst ad1
            show W _ _ _ _ _ _ _ _ _ _ _ _ _ _ _ (F0 m 105 ls [.int (atC M 16 w (csz M w) (nI (plc M w x (csz M w))))])
            have hF : ftF M k x = (0, atC M 16 w (csz M w) (nI (plc M w x (csz M w))), M) := by first | exact absurd h75 hup | exact absurd hup h75 | simp [ftF, ftK, ftN, hp, hck.1, hck.2.1, hc0, hcl, h20, h39, h51, h68, hhas]
            refine vx_ret ?_
            exact m_iret X hr hlk hM d_K_fetch_105 ⟨Nat.le_of_ble_eq_true rfl, Nat.le_of_ble_eq_true rfl⟩ ⟨fun _ _ _ => rfl, fun _ => Nat.le_refl _⟩ ⟨by rw [hF], by rw [hF], by rw [hF], rfl⟩
        · skip
          refine lv_aload_n X.1 X.2.1 d_K_fetch_71 rfl (lv_at hl 3 rfl) ?_
          refine r_geti X hM rfl (w_k hw) f_K_15 rfl d_K_fetch_72 ?_
          refine lv_if_ne (tgt := 82) X.1 X.2.1 d_K_fetch_75 (by decide) (fun h75 => ?_) (fun h75 => ?_)
          · skip
            refine lv_iconst (v := 0) X.1 X.2.1 d_K_fetch_82 (by decide) ?_
            refine lv_istore (lv' := [(6, .int 0), (5, .ref (ad 6 w)), (4, .int (gi M 7 w 3)), (3, .ref (ad 7 w)), (0, .ref (ad 0 0)), (1, .int k), (2, .int x)]) X.1 X.2.1 d_K_fetch_83 hl (by decide) rfl (fun ls hl => ?_)
            refine lv_iload X.1 X.2.1 d_K_fetch_85 (lv_at hl 0 rfl) ?_
            refine lv_if_eq (tgt := 106) X.1 X.2.1 d_K_fetch_87 (by decide) (fun hz12 => ?_) (fun hz12 => absurd (by decide) hz12)
            refine lv_aload_n X.1 X.2.1 d_K_fetch_106 rfl (lv_at hl 4 rfl) ?_
            refine lv_iload_n X.1 X.2.1 d_K_fetch_107 rfl (lv_at hl 6 rfl) ?_
            refine r_cVX (As := [.int x]) (rest := []) X hml hl.1 hM (k_K_networkAnswer l hst D dA base M ad hw x) c_K_213 cx_K_213 v_K_networkAnswer kc_K rfl (w_k hw) rfl (Nat.le_of_ble_eq_true rfl) ⟨rfl, rfl, Nat.le_of_ble_eq_true rfl, Nat.le_of_ble_eq_true rfl⟩ ⟨Nat.le_of_ble_eq_true rfl, Nat.le_of_ble_eq_true rfl⟩ d_K_fetch_108 (fun E ce q H locs hPx hM hy1 hy2 hy3 => m_out hM hlk hno (Or.inr (Or.inr ⟨by have hup := hPx.1; first | exact absurd hup h75 | exact absurd h75 hup | simp [ftF, ftK, ftN, hp, hck.1, hck.2.1, hc0, hcl, h20, h39, h51, h68, h75, hup], hPx.2⟩)) hy1 hy2 hy3 ⟨Nat.le_of_ble_eq_true rfl, Nat.le_of_ble_eq_true rfl⟩) ?_
            intro rv M1 ad1 H locs hP hM hE
            obtain ⟨hup, e1, e2, e3⟩ := hP
            subst rv; subst M1; subst ad1
            show W _ _ _ _ _ _ _ _ _ _ _ _ _ _ _ (F0 m 111 ls [.int (gi M 0 0 2 + x)])
            refine lv_istore (lv' := [(7, .int (gi M 0 0 2 + x)), (6, .int 0), (5, .ref (ad 6 w)), (4, .int (gi M 7 w 3)), (3, .ref (ad 7 w)), (0, .ref (ad 0 0)), (1, .int k), (2, .int x)]) X.1 X.2.1 d_K_fetch_111 hl (by decide) rfl (fun ls hl => ?_)
            refine lv_aload X.1 X.2.1 d_K_fetch_113 (lv_at hl 2 rfl) ?_
            refine lv_iload_n X.1 X.2.1 d_K_fetch_115 rfl (lv_at hl 7 rfl) ?_
            refine lv_iload X.1 X.2.1 d_K_fetch_116 (lv_at hl 0 rfl) ?_
            refine r_cV (As := [.int x, .int (gi M 0 0 2 + x)]) (rest := []) X hml hl.1 hM (k_Ca_keep l D dA base M ad w (csz M w) (hca w hwl) x (gi M 0 0 2 + x)) c_K_229 v_Ca_keep kc_Ca rfl hv6 rfl (Nat.le_of_ble_eq_true rfl) ⟨rfl, rfl, Nat.le_of_ble_eq_true rfl, Nat.le_of_ble_eq_true rfl⟩ ⟨Nat.le_of_ble_eq_true rfl, Nat.le_of_ble_eq_true rfl⟩ d_K_fetch_118 ?_
            intro rv M1 ad1 H locs hP hM hE
            have hE9 := hE
            obtain ⟨e1, e2, e3⟩ := hP
            subst rv; subst M1; subst ad1
            show W _ _ _ _ _ _ _ _ _ _ _ _ _ _ _ (F0 m 121 ls [])
            refine lv_iload X.1 X.2.1 d_K_fetch_121 (lv_at hl 0 rfl) ?_
            have hF : ftF M k x = (0, gi M 0 0 2 + x, kepM M w x (gi M 0 0 2 + x) (csz M w)) := by first | exact absurd h75 hup | exact absurd hup h75 | simp [ftF, ftK, ftN, hp, hck.1, hck.2.1, hc0, hcl, h20, h39, h51, h68, h75, hup]
            refine vx_ret ?_
            exact m_iret X hr hlk hM d_K_fetch_123 ⟨Nat.le_of_ble_eq_true rfl, Nat.le_of_ble_eq_true rfl⟩ (by rw [hF] at *; exact hE9) ⟨by rw [hF], by rw [hF], by rw [hF], rfl⟩
          · skip
            refine lv_iconst (v := 1) X.1 X.2.1 d_K_fetch_78 (by decide) ?_
            refine lv_goto (tgt := 83) X.1 X.2.1 d_K_fetch_79 (by decide) ?_
            refine lv_istore (lv' := [(6, .int 1), (5, .ref (ad 6 w)), (4, .int (gi M 7 w 3)), (3, .ref (ad 7 w)), (0, .ref (ad 0 0)), (1, .int k), (2, .int x)]) X.1 X.2.1 d_K_fetch_83 hl (by decide) rfl (fun ls hl => ?_)
            refine lv_iload X.1 X.2.1 d_K_fetch_85 (lv_at hl 0 rfl) ?_
            refine lv_if_eq (tgt := 106) X.1 X.2.1 d_K_fetch_87 (by decide) (fun hz15 => absurd hz15 (by decide)) (fun hz15 => ?_)
            refine lv_aload X.1 X.2.1 d_K_fetch_90 (lv_at hl 1 rfl) ?_
            refine lv_iload_n X.1 X.2.1 d_K_fetch_92 rfl (lv_at hl 6 rfl) ?_
            refine r_cV (As := [.int x]) (rest := []) X hml hl.1 hM (k_Ca_has l D dA base M ad w (csz M w) (hca w hwl) x) c_K_221 v_Ca_has kc_Ca rfl hv6 rfl (Nat.le_of_ble_eq_true rfl) ⟨rfl, rfl, Nat.le_of_ble_eq_true rfl, Nat.le_of_ble_eq_true rfl⟩ ⟨Nat.le_of_ble_eq_true rfl, Nat.le_of_ble_eq_true rfl⟩ d_K_fetch_93 ?_
            intro rv M1 ad1 H locs hP hM hE
            obtain ⟨e1, e2, e3⟩ := hP
            subst rv; subst M1; subst ad1
            show W _ _ _ _ _ _ _ _ _ _ _ _ _ _ _ (F0 m 96 ls [.int (if plc M w x (csz M w) < csz M w then 1 else 0)])
            refine lv_if_eq (tgt := 106) X.1 X.2.1 d_K_fetch_96 (by decide) (fun h96 => ?_) (fun h96 => ?_)
            · skip
              have hhas := be0 h96
              refine lv_aload_n X.1 X.2.1 d_K_fetch_106 rfl (lv_at hl 4 rfl) ?_
              refine lv_iload_n X.1 X.2.1 d_K_fetch_107 rfl (lv_at hl 6 rfl) ?_
              refine r_cVX (As := [.int x]) (rest := []) X hml hl.1 hM (k_K_networkAnswer l hst D dA base M ad hw x) c_K_213 cx_K_213 v_K_networkAnswer kc_K rfl (w_k hw) rfl (Nat.le_of_ble_eq_true rfl) ⟨rfl, rfl, Nat.le_of_ble_eq_true rfl, Nat.le_of_ble_eq_true rfl⟩ ⟨Nat.le_of_ble_eq_true rfl, Nat.le_of_ble_eq_true rfl⟩ d_K_fetch_108 (fun E ce q H locs hPx hM hy1 hy2 hy3 => m_out hM hlk hno (Or.inr (Or.inr ⟨by have hup := hPx.1; first | exact absurd hup h75 | exact absurd h75 hup | simp [ftF, ftK, ftN, hp, hck.1, hck.2.1, hc0, hcl, h20, h39, h51, h68, h75, hhas, hup], hPx.2⟩)) hy1 hy2 hy3 ⟨Nat.le_of_ble_eq_true rfl, Nat.le_of_ble_eq_true rfl⟩) ?_
              intro rv M1 ad1 H locs hP hM hE
              obtain ⟨hup, e1, e2, e3⟩ := hP
              subst rv; subst M1; subst ad1
              show W _ _ _ _ _ _ _ _ _ _ _ _ _ _ _ (F0 m 111 ls [.int (gi M 0 0 2 + x)])
              refine lv_istore (lv' := [(7, .int (gi M 0 0 2 + x)), (6, .int 1), (5, .ref (ad 6 w)), (4, .int (gi M 7 w 3)), (3, .ref (ad 7 w)), (0, .ref (ad 0 0)), (1, .int k), (2, .int x)]) X.1 X.2.1 d_K_fetch_111 hl (by decide) rfl (fun ls hl => ?_)
              refine lv_aload X.1 X.2.1 d_K_fetch_113 (lv_at hl 2 rfl) ?_
              refine lv_iload_n X.1 X.2.1 d_K_fetch_115 rfl (lv_at hl 7 rfl) ?_
              refine lv_iload X.1 X.2.1 d_K_fetch_116 (lv_at hl 0 rfl) ?_
              refine r_cV (As := [.int x, .int (gi M 0 0 2 + x)]) (rest := []) X hml hl.1 hM (k_Ca_keep l D dA base M ad w (csz M w) (hca w hwl) x (gi M 0 0 2 + x)) c_K_229 v_Ca_keep kc_Ca rfl hv6 rfl (Nat.le_of_ble_eq_true rfl) ⟨rfl, rfl, Nat.le_of_ble_eq_true rfl, Nat.le_of_ble_eq_true rfl⟩ ⟨Nat.le_of_ble_eq_true rfl, Nat.le_of_ble_eq_true rfl⟩ d_K_fetch_118 ?_
              intro rv M1 ad1 H locs hP hM hE
              have hE9 := hE
              obtain ⟨e1, e2, e3⟩ := hP
              subst rv; subst M1; subst ad1
              show W _ _ _ _ _ _ _ _ _ _ _ _ _ _ _ (F0 m 121 ls [])
              refine lv_iload X.1 X.2.1 d_K_fetch_121 (lv_at hl 0 rfl) ?_
              have hF : ftF M k x = (0, gi M 0 0 2 + x, kepM M w x (gi M 0 0 2 + x) (csz M w)) := by first | exact absurd h75 hup | exact absurd hup h75 | simp [ftF, ftK, ftN, hp, hck.1, hck.2.1, hc0, hcl, h20, h39, h51, h68, h75, hhas, hup]
              refine vx_ret ?_
              exact m_iret X hr hlk hM d_K_fetch_123 ⟨Nat.le_of_ble_eq_true rfl, Nat.le_of_ble_eq_true rfl⟩ (by rw [hF] at *; exact hE9) ⟨by rw [hF], by rw [hF], by rw [hF], rfl⟩
            · skip
              have hhas := bn0 h96
              refine lv_aload X.1 X.2.1 d_K_fetch_99 (lv_at hl 1 rfl) ?_
              refine lv_iload_n X.1 X.2.1 d_K_fetch_101 rfl (lv_at hl 6 rfl) ?_
              refine r_cV (As := [.int x]) (rest := []) X hml hl.1 hM (k_Ca_valueOf l D dA base M ad w (csz M w) (hca w hwl) x) c_K_226 v_Ca_valueOf kc_Ca rfl hv6 rfl (Nat.le_of_ble_eq_true rfl) ⟨rfl, rfl, Nat.le_of_ble_eq_true rfl, Nat.le_of_ble_eq_true rfl⟩ ⟨Nat.le_of_ble_eq_true rfl, Nat.le_of_ble_eq_true rfl⟩ d_K_fetch_102 ?_
              intro rv M1 ad1 H locs hP hM hE
              obtain ⟨e1, e2, e3⟩ := hP
              subst rv; subst M1; subst ad1
              show W _ _ _ _ _ _ _ _ _ _ _ _ _ _ _ (F0 m 105 ls [.int (atC M 16 w (csz M w) (nI (plc M w x (csz M w))))])
              have hF : ftF M k x = (0, atC M 16 w (csz M w) (nI (plc M w x (csz M w))), M) := by first | exact absurd h75 hup | exact absurd hup h75 | simp [ftF, ftK, ftN, hp, hck.1, hck.2.1, hc0, hcl, h20, h39, h51, h68, h75, hhas]
              refine vx_ret ?_
              exact m_iret X hr hlk hM d_K_fetch_105 ⟨Nat.le_of_ble_eq_true rfl, Nat.le_of_ble_eq_true rfl⟩ ⟨fun _ _ _ => rfl, fun _ => Nat.le_refl _⟩ ⟨by rw [hF], by rw [hF], by rw [hF], rfl⟩
      · skip
        refine lv_aload_n X.1 X.2.1 d_K_fetch_54 rfl (lv_at hl 1 rfl) ?_
        refine r_geti X hM rfl hwl f_K_216 rfl d_K_fetch_55 ?_
        have hF : ftF M k x = (0, gi M 7 w 1, M) := by first | exact absurd h75 hup | exact absurd hup h75 | simp [ftF, ftK, ftN, hp, hck.1, hck.2.1, hc0, hcl, h20, h39, h51]
        refine vx_ret ?_
        exact m_iret X hr hlk hM d_K_fetch_58 ⟨Nat.le_of_ble_eq_true rfl, Nat.le_of_ble_eq_true rfl⟩ ⟨fun _ _ _ => rfl, fun _ => Nat.le_refl _⟩ ⟨by rw [hF], by rw [hF], by rw [hF], rfl⟩
    · skip
      refine lv_aload_n X.1 X.2.1 d_K_fetch_42 rfl (lv_at hl 2 rfl) ?_
      refine lv_iload_n X.1 X.2.1 d_K_fetch_43 rfl (lv_at hl 4 rfl) ?_
      refine r_cVX (As := [.int x]) (rest := []) X hml hl.1 hM (k_K_networkAnswer l hst D dA base M ad hw x) c_K_213 cx_K_213 v_K_networkAnswer kc_K rfl (w_k hw) rfl (Nat.le_of_ble_eq_true rfl) ⟨rfl, rfl, Nat.le_of_ble_eq_true rfl, Nat.le_of_ble_eq_true rfl⟩ ⟨Nat.le_of_ble_eq_true rfl, Nat.le_of_ble_eq_true rfl⟩ d_K_fetch_44 (fun E ce q H locs hPx hM hy1 hy2 hy3 => m_out hM hlk hno (Or.inr (Or.inr ⟨by have hup := hPx.1; first | exact absurd hup h75 | exact absurd h75 hup | simp [ftF, ftK, ftN, hp, hck.1, hck.2.1, hc0, hcl, h20, h39, hup], hPx.2⟩)) hy1 hy2 hy3 ⟨Nat.le_of_ble_eq_true rfl, Nat.le_of_ble_eq_true rfl⟩) ?_
      intro rv M1 ad1 H locs hP hM hE
      obtain ⟨hup, e1, e2, e3⟩ := hP
      subst rv; subst M1; subst ad1
      show W _ _ _ _ _ _ _ _ _ _ _ _ _ _ _ (F0 m 47 ls [.int (gi M 0 0 2 + x)])
      have hF : ftF M k x = (0, gi M 0 0 2 + x, M) := by first | exact absurd h75 hup | exact absurd hup h75 | simp [ftF, ftK, ftN, hp, hck.1, hck.2.1, hc0, hcl, h20, h39, hup]
      refine vx_ret ?_
      exact m_iret X hr hlk hM d_K_fetch_47 ⟨Nat.le_of_ble_eq_true rfl, Nat.le_of_ble_eq_true rfl⟩ ⟨fun _ _ _ => rfl, fun _ => Nat.le_refl _⟩ ⟨by rw [hF], by rw [hF], by rw [hF], rfl⟩
  · skip
    rw [h20] at hl
    have hl : lv_has ls 8 [(3, .null), (0, .ref (ad 0 0)), (1, .int k), (2, .int x)] := hl
    refine lv_iconst (v := 0) X.1 X.2.1 d_K_fetch_23 (by decide) ?_
    refine lv_goto (tgt := 31) X.1 X.2.1 d_K_fetch_24 (by decide) ?_
    refine lv_istore (lv' := [(4, .int 0), (3, .null), (0, .ref (ad 0 0)), (1, .int k), (2, .int x)]) X.1 X.2.1 d_K_fetch_31 hl (by decide) rfl (fun ls hl => ?_)
    refine lv_aload_nN X.1 X.2.1 d_K_fetch_33 rfl (lv_at hl 1 rfl) ?_
    refine lv_ifnullN (tgt := 42) X.1 X.2.1 d_K_fetch_34 (by decide) ?_
    refine lv_aload_n X.1 X.2.1 d_K_fetch_42 rfl (lv_at hl 2 rfl) ?_
    refine lv_iload_n X.1 X.2.1 d_K_fetch_43 rfl (lv_at hl 4 rfl) ?_
    refine r_cVX (As := [.int x]) (rest := []) X hml hl.1 hM (k_K_networkAnswer l hst D dA base M ad hw x) c_K_213 cx_K_213 v_K_networkAnswer kc_K rfl (w_k hw) rfl (Nat.le_of_ble_eq_true rfl) ⟨rfl, rfl, Nat.le_of_ble_eq_true rfl, Nat.le_of_ble_eq_true rfl⟩ ⟨Nat.le_of_ble_eq_true rfl, Nat.le_of_ble_eq_true rfl⟩ d_K_fetch_44 (fun E ce q H locs hPx hM hy1 hy2 hy3 => m_out hM hlk hno (Or.inr (Or.inr ⟨by have hup := hPx.1; first | exact absurd hup h75 | exact absurd h75 hup | simp [ftF, ftK, ftN, hp, hck.1, hck.2.1, hc0, hcl, h20, hup], hPx.2⟩)) hy1 hy2 hy3 ⟨Nat.le_of_ble_eq_true rfl, Nat.le_of_ble_eq_true rfl⟩) ?_
    intro rv M1 ad1 H locs hP hM hE
    obtain ⟨hup, e1, e2, e3⟩ := hP
    subst rv; subst M1; subst ad1
    show W _ _ _ _ _ _ _ _ _ _ _ _ _ _ _ (F0 m 47 ls [.int (gi M 0 0 2 + x)])
    have hF : ftF M k x = (0, gi M 0 0 2 + x, M) := by first | exact absurd h75 hup | exact absurd hup h75 | simp [ftF, ftK, ftN, hp, hck.1, hck.2.1, hc0, hcl, h20, hup]
    refine vx_ret ?_
    exact m_iret X hr hlk hM d_K_fetch_47 ⟨Nat.le_of_ble_eq_true rfl, Nat.le_of_ble_eq_true rfl⟩ ⟨fun _ _ _ => rfl, fun _ => Nat.le_refl _⟩ ⟨by rw [hF], by rw [hF], by rw [hF], rfl⟩
end
section
/-- what stays but for a few calls: the counts of objects, the network, which scripts registrations and jobs have, the sizes of the caches -/
def kq (M M' : mM) : Prop := (∀ a, gn M' a = gn M a) ∧ (gi M' 0 0 1 = gi M 0 0 1 ∧ gi M' 0 0 2 = gi M 0 0 2) ∧ ∀ i, gi M' 5 i 1 = gi M 5 i 1 ∧ gi M' 4 i 3 = gi M 4 i 3 ∧ gi M' 6 i 2 = gi M 6 i 2
theorem kq_rf (M : mM) : kq M M := ⟨fun _ => rfl, ⟨rfl, rfl⟩, fun _ => ⟨rfl, rfl, rfl⟩⟩
theorem kq_tr {M M1 M2 : mM} (h : kq M M1) (g : kq M1 M2) : kq M M2 := ⟨fun a => (g.1 a).trans (h.1 a), ⟨g.2.1.1.trans h.2.1.1, g.2.1.2.trans h.2.1.2⟩, fun i => ⟨(g.2.2 i).1.trans (h.2.2 i).1, (g.2.2 i).2.1.trans (h.2.2 i).2.1, (g.2.2 i).2.2.trans (h.2.2 i).2.2⟩⟩
/-- the rest of the good order: caches by their workers' numbers, scripts in range, sizes of caches, the network up or not -/
def wO (M : mM) : Prop := (gn M 6 = gn M 7 ∧ gn M 15 = gn M 7 ∧ gn M 16 = gn M 7) ∧ (∀ i, i < gn M 5 → ∃ k, k < 4 ∧ gi M 5 i 1 = nI k) ∧ (∀ i, i < gn M 4 → ∃ k, k < 4 ∧ gi M 4 i 3 = nI k) ∧ (∀ i, i < gn M 7 → ∃ z, z ≤ 4 ∧ gi M 6 i 2 = nI z) ∧ (gi M 0 0 1 = 0 ∨ gi M 0 0 1 = 1)
theorem kq_o {M M' : mM} (h : kq M M') (ho : wO M) : wO M' := by
  refine ⟨⟨by rw [h.1, h.1]; exact ho.1.1, by rw [h.1, h.1]; exact ho.1.2.1, by rw [h.1, h.1]; exact ho.1.2.2⟩, fun i hi => ?_, fun i hi => ?_, fun i hi => ?_, by rw [h.2.1.1]; exact ho.2.2.2.2⟩
  · rw [(h.2.2 i).1]; rw [h.1] at hi; exact ho.2.1 i hi
  · rw [(h.2.2 i).2.1]; rw [h.1] at hi; exact ho.2.2.1 i hi
  · rw [(h.2.2 i).2.2]; rw [h.1] at hi; exact ho.2.2.2.1 i hi
/-- what the good order looks at is left as it is -/
def kp (M M' : mM) : Prop := (∀ a, gn M' a = gn M a) ∧ (∀ k j, (k = 0 ∨ k = 8 ∨ k = 9 ∨ k = 10 ∨ k = 11 ∨ k = 13) → gr M' k 0 j = gr M k 0 j) ∧ gr M' 3 0 0 = gr M 3 0 0 ∧ (gi M' 0 0 4 = gi M 0 0 4 ∧ gi M' 0 0 6 = gi M 0 0 6 ∧ gi M' 0 0 10 = gi M 0 0 10) ∧ (∀ i, gi M' 7 i 0 = gi M 7 i 0 ∧ gr M' 7 i 4 = gr M 7 i 4 ∧ gr M' 6 i 0 = gr M 6 i 0 ∧ gr M' 6 i 1 = gr M 6 i 1 ∧ gi M' 4 i 0 = gi M 4 i 0) ∧ kq M M'
theorem kp_rf (M : mM) : kp M M := ⟨fun _ => rfl, fun _ _ _ => rfl, rfl, ⟨rfl, rfl, rfl⟩, fun _ => ⟨rfl, rfl, rfl, rfl, rfl⟩, kq_rf M⟩
theorem kp_tr {M M1 M2 : mM} (h : kp M M1) (g : kp M1 M2) : kp M M2 :=
  ⟨fun a => (g.1 a).trans (h.1 a), fun k j z => (g.2.1 k j z).trans (h.2.1 k j z), g.2.2.1.trans h.2.2.1, ⟨g.2.2.2.1.1.trans h.2.2.2.1.1, g.2.2.2.1.2.1.trans h.2.2.2.1.2.1, g.2.2.2.1.2.2.trans h.2.2.2.1.2.2⟩, fun i => ⟨(g.2.2.2.2.1 i).1.trans (h.2.2.2.2.1 i).1, (g.2.2.2.2.1 i).2.1.trans (h.2.2.2.2.1 i).2.1, (g.2.2.2.2.1 i).2.2.1.trans (h.2.2.2.2.1 i).2.2.1, (g.2.2.2.2.1 i).2.2.2.1.trans (h.2.2.2.2.1 i).2.2.2.1, (g.2.2.2.2.1 i).2.2.2.2.trans (h.2.2.2.2.1 i).2.2.2.2⟩, kq_tr h.2.2.2.2.2 g.2.2.2.2.2⟩
theorem kp_q {M M' : mM} (h : kp M M') : kq M M' := h.2.2.2.2.2
theorem kp_lv {M M' : mM} (h : kp M M') {a i : Nat} (hi : i < gn M a) : i < gn M' a := by rw [h.1]; exact hi
theorem kp_lq {M M' : mM} (h : kp M M') {a : Nat} {r : Option Nat} (hi : ∀ q, r = some q → q < gn M a) : ∀ q, r = some q → q < gn M' a := fun q hq => kp_lv h (hi q hq)
theorem kp_ext {M M' : mM} (h : kp M M') (ad : Nat → Nat → Nat) : mExt M ad M' ad := ⟨fun _ _ _ => rfl, fun a => Nat.le_of_eq (h.1 a).symm⟩
theorem kp_w {M M' : mM} (h : kp M M') (hw : wK M) : wK M' := by
  have e6 : nRg M' = nRg M := by unfold nRg; rw [h.2.2.2.1.2.1]
  have er : ∀ i, rgx M' i = rgx M i := fun i => by unfold rgx; rw [h.2.1 10 i (by omega)]
  refine ⟨⟨by rw [h.1]; exact w_k hw, ?_, ?_, ?_, ?_, ?_, ?_, ?_, by rw [h.2.2.1]; exact w_3_0 hw⟩, fun i hi => by rw [h.2.1 8 i (by omega)]; exact w_sc hw hi, fun i hi => by rw [h.2.1 11 i (by omega)]; exact w_cl hw hi, ⟨?_, ?_, ?_⟩, ⟨?_, ?_, ?_⟩, ?_, ?_, ?_⟩
  · rw [h.2.1 0 0 (by omega)]; exact w_0_0 hw
  · rw [h.2.1 0 3 (by omega)]; exact w_0_3 hw
  · rw [h.2.1 0 5 (by omega)]; exact w_0_5 hw
  · rw [h.2.1 0 7 (by omega)]; exact w_0_7 hw
  · rw [h.2.1 0 8 (by omega)]; exact w_0_8 hw
  · rw [h.2.1 0 9 (by omega)]; exact w_0_9 hw
  · rw [h.2.1 0 11 (by omega)]; exact w_0_11 hw
  · rw [h.2.2.2.1.1, h.1]; exact w_nw hw
  · rw [h.1]; exact w_nwl hw
  · intro i hi
    rw [h.1] at hi
    rw [h.2.1 9 i (by omega), (h.2.2.2.2.1 i).1, (h.2.2.2.2.1 i).2.1, (h.2.2.2.2.1 i).2.2.1, (h.2.2.2.2.1 i).2.2.2.1]
    exact ⟨w_wk hw hi, w_num hw hi, w_7_4 hw hi, w_6_0 hw hi, w_6_1 hw hi⟩
  · rw [e6, h.2.2.2.1.2.1]; exact w_nr hw
  · rw [e6]; exact w_nrl hw
  · intro i hi
    rw [e6] at hi
    rw [h.2.1 10 i (by omega), er]; exact w_rg hw hi
  · rw [h.2.2.2.1.2.2, h.1]; exact w_nj hw
  · rw [h.1]; exact w_njl hw
  · intro i hi
    rw [h.1] at hi
    rw [h.2.1 13 i (by omega), (h.2.2.2.2.1 i).2.2.2.2]
    exact ⟨w_jb hw hi, w_jn hw hi⟩
theorem kp_si (M : mM) (k i j : Nat) (x : Int32) (h : ¬ ((k = 0 ∧ (j = 1 ∨ j = 2 ∨ j = 4 ∨ j = 6 ∨ j = 10)) ∨ ((k = 7 ∨ k = 4) ∧ j = 0) ∨ (k = 5 ∧ j = 1) ∨ (k = 4 ∧ j = 3) ∨ (k = 6 ∧ j = 2))) : kp M (si M k i j x) := by
  refine ⟨fun _ => rfl, fun _ _ _ => rfl, rfl, ⟨?_, ?_, ?_⟩, fun q => ⟨?_, rfl, rfl, rfl, ?_⟩, fun _ => rfl, ⟨?_, ?_⟩, fun q => ⟨?_, ?_, ?_⟩⟩ <;> rw [gi_si, if_neg (by omega)]
theorem kp_sr (M : mM) (k i j : Nat) (x : Option Nat) (h : ¬ ((k = 0 ∨ k = 8 ∨ k = 9 ∨ k = 10 ∨ k = 11 ∨ k = 13) ∨ (k = 3 ∧ j = 0) ∨ (k = 7 ∧ j = 4) ∨ (k = 6 ∧ (j = 0 ∨ j = 1)))) : kp M (sr M k i j x) := by
  refine ⟨fun _ => rfl, fun a b z => ?_, ?_, ⟨rfl, rfl, rfl⟩, fun q => ⟨rfl, ?_, ?_, ?_, rfl⟩, fun _ => rfl, ⟨rfl, rfl⟩, fun _ => ⟨rfl, rfl, rfl⟩⟩ <;> rw [gr_sr, if_neg (by omega)]
/-- the trace: how many numbers are kept; one more -/
def tsz (M : mM) : Nat := (gi M 3 0 1).toNatClampNeg
def wT (M : mM) : Prop := gi M 3 0 1 = nI (tsz M) ∧ tsz M ≤ 60
def trA (M : mM) (x : Int32) : mM := if tsz M < 60 then si (si M 14 0 (tsz M) x) 3 0 1 (nI (tsz M + 1)) else M
theorem trA_gn (M : mM) (x : Int32) (a : Nat) : gn (trA M x) a = gn M a := by unfold trA; split <;> rfl
theorem trA_gr (M : mM) (x : Int32) (k i j : Nat) : gr (trA M x) k i j = gr M k i j := by unfold trA; split <;> rfl
theorem trA_gi (M : mM) (x : Int32) (k i j : Nat) (h : k ≠ 3) (h2 : k ≠ 14) : gi (trA M x) k i j = gi M k i j := by
  unfold trA
  split
  · rw [gi_si, if_neg (by omega), gi_si, if_neg (by omega)]
  · rfl
theorem trA_kp (M : mM) (x : Int32) : kp M (trA M x) := by
  unfold trA
  split
  · exact kp_tr (kp_si _ _ _ _ _ (by omega)) (kp_si _ _ _ _ _ (by omega))
  · exact kp_rf _
theorem trA_wT {M : mM} (h : wT M) (x : Int32) : wT (trA M x) := by
  unfold trA
  split
  · rename_i hz
    have e : tsz (si (si M 14 0 (tsz M) x) 3 0 1 (nI (tsz M + 1))) = tsz M + 1 := nI_clamp (by omega)
    exact ⟨by rw [e]; rfl, by rw [e]; omega⟩
  · exact h
/-- the trace's size is left as it is -/
def kt (M M' : mM) : Prop := gi M' 3 0 1 = gi M 3 0 1
theorem kt_w {M M' : mM} (h : kt M M') (hw : wT M) : wT M' := by
  have e : tsz M' = tsz M := by unfold tsz; rw [h]
  exact ⟨by rw [e, h]; exact hw.1, by rw [e]; exact hw.2⟩
/-- a worker comes to a state; a client is controlled -/
def brM (M : mM) (r : Option Nat) (x : Int32) : mM := match r with
  | none => M
  | some w => trA (si M 7 w 5 x) (8 * gi M 7 w 0 + x)
theorem brM_kp (M : mM) (r : Option Nat) (x : Int32) : kp M (brM M r x) := by
  cases r with
  | none => exact kp_rf _
  | some w => exact kp_tr (kp_si _ _ _ _ _ (by omega)) (trA_kp _ _)
theorem brM_wT {M : mM} (h : wT M) (r : Option Nat) (x : Int32) : wT (brM M r x) := by
  cases r with
  | none => exact h
  | some w => exact trA_wT (kt_w (M := M) (M' := si M 7 w 5 x) rfl h) _
def ctM (M : mM) (i : Nat) (r : Option Nat) : mM := trA (sr M 2 i 2 r) (-(64 * nI i + num M r) - 1)
theorem ctM_kp (M : mM) (i : Nat) (r : Option Nat) : kp M (ctM M i r) := kp_tr (kp_sr _ _ _ _ _ (by omega)) (trA_kp _ _)
theorem ctM_wT {M : mM} (h : wT M) (i : Nat) (r : Option Nat) : wT (ctM M i r) := trA_wT (kt_w (M := M) (M' := sr M 2 i 2 r) rfl h) _
set_option maxHeartbeats 4000000 in
set_option maxRecDepth 100000 in
theorem k_Tr_append (l : Launch) (D : va_G) (dA : Nat → ClassId) (base : Nat) (M : mM) (ad : Nat → Nat → Nat) (h3 : 0 < gn M 3) (x : Int32) (hw : wK M) (ht : wT M) : mMet l y_Tr_append b_Tr_append 2 none ({ frames := 0, cells := 0, slots := 0, locals := 0 } : Room) 0 0 D dA base M ad [.ref (ad 3 0), .int x] (fun rv M' ad' => rv = none ∧ M' = trA M x ∧ ad' = ad) := by
  refine m_start (lvs := [(0, .ref (ad 3 0)), (1, .int x)]) (by decide) (Nat.le_of_ble_eq_true rfl) rfl ?_
  intro p e s m below meth c ls X hr hlk hin hml hM hl
  refine lv_aload_n X.1 X.2.1 d_Tr_append_0 rfl (lv_at hl 0 rfl) ?_
  refine r_geti X hM rfl h3 f_Tr_15 rfl d_Tr_append_1 ?_
  refine lv_bipush (v := 60) X.1 X.2.1 d_Tr_append_4 (by decide) ?_
  refine lv_icmp_ge (tgt := 29) X.1 X.2.1 d_Tr_append_6 (by decide) (fun h6 => ?_) (fun h6 => ?_)
  · skip
    exact m_vret X hr hlk hM d_Tr_append_29 ⟨Nat.le_of_ble_eq_true rfl, Nat.le_of_ble_eq_true rfl⟩ (mExt_rf _ _) ⟨rfl, by unfold trA; rw [if_neg (fun z => absurd h6 (by rw [ht.1]; exact nI_ge z (by decide)))], rfl⟩
  · skip
    have hz0 : tsz M < 60 := by rcases Nat.lt_or_ge (tsz M) 60 with z | z; exact z; exact absurd (by rw [ht.1]; exact nI_le z (by have := ht.2; omega)) h6
    refine lv_aload_n X.1 X.2.1 d_Tr_append_9 rfl (lv_at hl 0 rfl) ?_
    refine r_gets (q := 0) X hM rfl h3 f_Tr_9 rfl (w_3_0 hw) d_Tr_append_10 (fun hv1 => ?_)
    refine lv_aload_n X.1 X.2.1 d_Tr_append_13 rfl (lv_at hl 0 rfl) ?_
    refine r_geti X hM rfl h3 f_Tr_15 rfl d_Tr_append_14 ?_
    refine lv_iload_n X.1 X.2.1 d_Tr_append_17 rfl (lv_at hl 1 rfl) ?_
    refine r_iast X hM rfl hv1 a_numbers (fun _ => rfl) (j := (tsz M)) ht.1 hz0 d_Tr_append_18 (fun H locs hM => ?_)
    refine lv_aload_n X.1 X.2.1 d_Tr_append_19 rfl (lv_at hl 0 rfl) ?_
    refine lv_dup X.1 X.2.1 d_Tr_append_20 rfl ?_
    refine r_geti X hM rfl h3 f_Tr_15 rfl d_Tr_append_21 ?_
    refine lv_iconst (v := 1) X.1 X.2.1 d_Tr_append_24 (by decide) ?_
    refine lv_iadd X.1 X.2.1 d_Tr_append_25 ?_
    refine r_puti X hM rfl h3 p_Tr_15 rfl rfl rfl d_Tr_append_26 (fun H locs hM => ?_)
    exact m_vret X hr hlk hM d_Tr_append_29 ⟨Nat.le_of_ble_eq_true rfl, Nat.le_of_ble_eq_true rfl⟩ ⟨fun _ _ _ => rfl, fun _ => Nat.le_refl _⟩ ⟨rfl, by unfold trA; rw [if_pos hz0]; show si _ _ _ _ (gi M 3 0 1 + 1) = _; rw [ht.1, nI_1], rfl⟩
set_option maxHeartbeats 4000000 in
set_option maxRecDepth 100000 in
theorem k_Tr_workerComesTo (l : Launch) (D : va_G) (dA : Nat → ClassId) (base : Nat) (M : mM) (ad : Nat → Nat → Nat) (h3 : 0 < gn M 3) (x y : Int32) (hw : wK M) (ht : wT M) : mMet l y_Tr_workerComesTo b_Tr_workerComesTo 3 none ({ frames := 1, cells := 0, slots := 0, locals := 40 } : Room) 0 0 D dA base M ad [.ref (ad 3 0), .int x, .int y] (fun rv M' ad' => rv = none ∧ M' = trA M (8 * x + y) ∧ ad' = ad) := by
  refine m_start (lvs := [(0, .ref (ad 3 0)), (1, .int x), (2, .int y)]) (by decide) (Nat.le_of_ble_eq_true rfl) rfl ?_
  intro p e s m below meth c ls X hr hlk hin hml hM hl
  refine lv_aload_n X.1 X.2.1 d_Tr_workerComesTo_0 rfl (lv_at hl 0 rfl) ?_
  refine lv_bipush (v := 8) X.1 X.2.1 d_Tr_workerComesTo_1 (by decide) ?_
  refine lv_iload_n X.1 X.2.1 d_Tr_workerComesTo_3 rfl (lv_at hl 1 rfl) ?_
  refine lv_imul X.1 X.2.1 d_Tr_workerComesTo_4 ?_
  refine lv_iload_n X.1 X.2.1 d_Tr_workerComesTo_5 rfl (lv_at hl 2 rfl) ?_
  refine lv_iadd X.1 X.2.1 d_Tr_workerComesTo_6 ?_
  refine r_cV (As := [.int (((8) * (x)) + (y))]) (rest := []) X hml hl.1 hM (k_Tr_append l D dA base M ad h3 (8 * x + y) hw ht) c_Tr_19 v_Tr_append kc_Tr rfl h3 rfl (Nat.le_of_ble_eq_true rfl) ⟨rfl, rfl, Nat.le_of_ble_eq_true rfl, Nat.le_of_ble_eq_true rfl⟩ ⟨Nat.le_of_ble_eq_true rfl, Nat.le_of_ble_eq_true rfl⟩ d_Tr_workerComesTo_7 ?_
  intro rv M1 ad1 H locs hP hM hE
  obtain ⟨e1, e2, e3⟩ := hP
  subst rv; subst M1; subst ad1
  show W _ _ _ _ _ _ _ _ _ _ _ _ _ _ _ (F0 m 10 ls [])
  exact m_vret X hr hlk hM d_Tr_workerComesTo_10 ⟨Nat.le_of_ble_eq_true rfl, Nat.le_of_ble_eq_true rfl⟩ (kp_ext (trA_kp _ _) ad) ⟨rfl, rfl, rfl⟩
set_option maxHeartbeats 4000000 in
set_option maxRecDepth 100000 in
theorem k_Tr_clientIsControlled (l : Launch) (D : va_G) (dA : Nat → ClassId) (base : Nat) (M : mM) (ad : Nat → Nat → Nat) (h3 : 0 < gn M 3) (x y : Int32) (hw : wK M) (ht : wT M) : mMet l y_Tr_clientIsControlled b_Tr_clientIsControlled 3 none ({ frames := 1, cells := 0, slots := 0, locals := 40 } : Room) 0 0 D dA base M ad [.ref (ad 3 0), .int x, .int y] (fun rv M' ad' => rv = none ∧ M' = trA M (-(64 * x + y) - 1) ∧ ad' = ad) := by
  refine m_start (lvs := [(0, .ref (ad 3 0)), (1, .int x), (2, .int y)]) (by decide) (Nat.le_of_ble_eq_true rfl) rfl ?_
  intro p e s m below meth c ls X hr hlk hin hml hM hl
  refine lv_aload_n X.1 X.2.1 d_Tr_clientIsControlled_0 rfl (lv_at hl 0 rfl) ?_
  refine lv_bipush (v := 64) X.1 X.2.1 d_Tr_clientIsControlled_1 (by decide) ?_
  refine lv_iload_n X.1 X.2.1 d_Tr_clientIsControlled_3 rfl (lv_at hl 1 rfl) ?_
  refine lv_imul X.1 X.2.1 d_Tr_clientIsControlled_4 ?_
  refine lv_iload_n X.1 X.2.1 d_Tr_clientIsControlled_5 rfl (lv_at hl 2 rfl) ?_
  refine lv_iadd X.1 X.2.1 d_Tr_clientIsControlled_6 ?_
  refine lv_ineg X.1 X.2.1 d_Tr_clientIsControlled_7 ?_
  refine lv_iconst (v := 1) X.1 X.2.1 d_Tr_clientIsControlled_8 (by decide) ?_
  refine lv_isub X.1 X.2.1 d_Tr_clientIsControlled_9 ?_
  refine r_cV (As := [.int ((-(((64) * (x)) + (y))) - (1))]) (rest := []) X hml hl.1 hM (k_Tr_append l D dA base M ad h3 (-(64 * x + y) - 1) hw ht) c_Tr_19 v_Tr_append kc_Tr rfl h3 rfl (Nat.le_of_ble_eq_true rfl) ⟨rfl, rfl, Nat.le_of_ble_eq_true rfl, Nat.le_of_ble_eq_true rfl⟩ ⟨Nat.le_of_ble_eq_true rfl, Nat.le_of_ble_eq_true rfl⟩ d_Tr_clientIsControlled_10 ?_
  intro rv M1 ad1 H locs hP hM hE
  obtain ⟨e1, e2, e3⟩ := hP
  subst rv; subst M1; subst ad1
  show W _ _ _ _ _ _ _ _ _ _ _ _ _ _ _ (F0 m 13 ls [])
  exact m_vret X hr hlk hM d_Tr_clientIsControlled_13 ⟨Nat.le_of_ble_eq_true rfl, Nat.le_of_ble_eq_true rfl⟩ (kp_ext (trA_kp _ _) ad) ⟨rfl, rfl, rfl⟩
set_option maxHeartbeats 4000000 in
set_option maxRecDepth 100000 in
theorem k_Tr_jobEnds (l : Launch) (D : va_G) (dA : Nat → ClassId) (base : Nat) (M : mM) (ad : Nat → Nat → Nat) (h3 : 0 < gn M 3) (x : Int32) (hw : wK M) (ht : wT M) : mMet l y_Tr_jobEnds b_Tr_jobEnds 2 none ({ frames := 1, cells := 0, slots := 0, locals := 40 } : Room) 0 0 D dA base M ad [.ref (ad 3 0), .int x] (fun rv M' ad' => rv = none ∧ M' = trA M (1000 + x) ∧ ad' = ad) := by
  refine m_start (lvs := [(0, .ref (ad 3 0)), (1, .int x)]) (by decide) (Nat.le_of_ble_eq_true rfl) rfl ?_
  intro p e s m below meth c ls X hr hlk hin hml hM hl
  refine lv_aload_n X.1 X.2.1 d_Tr_jobEnds_0 rfl (lv_at hl 0 rfl) ?_
  refine lv_sipush (v := 1000) X.1 X.2.1 d_Tr_jobEnds_1 (by decide) ?_
  refine lv_iload_n X.1 X.2.1 d_Tr_jobEnds_4 rfl (lv_at hl 1 rfl) ?_
  refine lv_iadd X.1 X.2.1 d_Tr_jobEnds_5 ?_
  refine r_cV (As := [.int ((1000) + (x))]) (rest := []) X hml hl.1 hM (k_Tr_append l D dA base M ad h3 (1000 + x) hw ht) c_Tr_19 v_Tr_append kc_Tr rfl h3 rfl (Nat.le_of_ble_eq_true rfl) ⟨rfl, rfl, Nat.le_of_ble_eq_true rfl, Nat.le_of_ble_eq_true rfl⟩ ⟨Nat.le_of_ble_eq_true rfl, Nat.le_of_ble_eq_true rfl⟩ d_Tr_jobEnds_6 ?_
  intro rv M1 ad1 H locs hP hM hE
  obtain ⟨e1, e2, e3⟩ := hP
  subst rv; subst M1; subst ad1
  show W _ _ _ _ _ _ _ _ _ _ _ _ _ _ _ (F0 m 9 ls [])
  exact m_vret X hr hlk hM d_Tr_jobEnds_9 ⟨Nat.le_of_ble_eq_true rfl, Nat.le_of_ble_eq_true rfl⟩ (kp_ext (trA_kp _ _) ad) ⟨rfl, rfl, rfl⟩
set_option maxHeartbeats 4000000 in
set_option maxRecDepth 100000 in
theorem k_K_bring_s (l : Launch) (D : va_G) (dA : Nat → ClassId) (base : Nat) (M : mM) (ad : Nat → Nat → Nat) (hw : wK M) (ht : wT M) (w : Nat) (hw7 : w < gn M 7) (x : Int32) : mMet l y_K_bring b_K_bring 3 none ({ frames := 3, cells := 0, slots := 0, locals := 80 } : Room) 0 0 D dA base M ad [.ref (ad 0 0), .ref (ad 7 w), .int x] (fun rv M' ad' => rv = none ∧ M' = brM M (some w) x ∧ ad' = ad) := by
  refine m_start (lvs := [(0, .ref (ad 0 0)), (1, .ref (ad 7 w)), (2, .int x)]) (by decide) (Nat.le_of_ble_eq_true rfl) rfl ?_
  intro p e s m below meth c ls X hr hlk hin hml hM hl
  refine lv_aload_n X.1 X.2.1 d_K_bring_0 rfl (lv_at hl 1 rfl) ?_
  refine lv_ifnull X.1 X.2.1 d_K_bring_1 ?_
  refine lv_aload_n X.1 X.2.1 d_K_bring_4 rfl (lv_at hl 1 rfl) ?_
  refine lv_iload_n X.1 X.2.1 d_K_bring_5 rfl (lv_at hl 2 rfl) ?_
  refine r_puti X hM rfl hw7 p_K_248 rfl rfl rfl d_K_bring_6 (fun H locs hM => ?_)
  have ht : wT (si M 7 w 5 x) := kt_w (M := M) rfl ht
  have hw : wK (si M 7 w 5 x) := kp_w (kp_si M 7 w 5 x (by omega)) hw
  refine lv_aload_n X.1 X.2.1 d_K_bring_9 rfl (lv_at hl 0 rfl) ?_
  refine r_gets (q := 0) X hM rfl (w_k hw) f_K_62 rfl (w_0_11 hw) d_K_bring_10 (fun hv1 => ?_)
  refine lv_aload_n X.1 X.2.1 d_K_bring_13 rfl (lv_at hl 1 rfl) ?_
  refine r_geti X hM rfl hw7 f_K_211 rfl d_K_bring_14 ?_
  refine lv_iload_n X.1 X.2.1 d_K_bring_17 rfl (lv_at hl 2 rfl) ?_
  refine r_cV (As := [.int (gi (si M 7 w 5 x) 7 w 0), .int x]) (rest := []) X hml hl.1 hM (k_Tr_workerComesTo l D dA base (si M 7 w 5 x) ad hv1 (gi (si M 7 w 5 x) 7 w 0) x hw ht) c_K_346 v_Tr_workerComesTo kc_Tr rfl hv1 rfl (Nat.le_of_ble_eq_true rfl) ⟨rfl, rfl, Nat.le_of_ble_eq_true rfl, Nat.le_of_ble_eq_true rfl⟩ ⟨Nat.le_of_ble_eq_true rfl, Nat.le_of_ble_eq_true rfl⟩ d_K_bring_18 ?_
  intro rv M1 ad1 H locs hP hM hE
  obtain ⟨e1, e2, e3⟩ := hP
  subst rv; subst M1; subst ad1
  have hM : mSt D dA base (brM M (some w) x) ad s.heap H locs := by rw [gi_si, if_neg (by omega)] at hM; exact hM
  show W _ _ _ _ _ _ _ _ _ _ _ _ _ _ _ (F0 m 21 ls [])
  exact m_vret X hr hlk hM d_K_bring_21 ⟨Nat.le_of_ble_eq_true rfl, Nat.le_of_ble_eq_true rfl⟩ (kp_ext (brM_kp M (some w) x) ad) ⟨rfl, rfl, rfl⟩
set_option maxHeartbeats 4000000 in
set_option maxRecDepth 100000 in
theorem k_K_bring_n (l : Launch) (D : va_G) (dA : Nat → ClassId) (base : Nat) (M : mM) (ad : Nat → Nat → Nat) (x : Int32) : mMet l y_K_bring b_K_bring 3 none ({ frames := 3, cells := 0, slots := 0, locals := 80 } : Room) 0 0 D dA base M ad [.ref (ad 0 0), .null, .int x] (fun rv M' ad' => rv = none ∧ M' = brM M none x ∧ ad' = ad) := by
  refine m_start (lvs := [(0, .ref (ad 0 0)), (1, .null), (2, .int x)]) (by decide) (Nat.le_of_ble_eq_true rfl) rfl ?_
  intro p e s m below meth c ls X hr hlk hin hml hM hl
  refine lv_aload_nN X.1 X.2.1 d_K_bring_0 rfl (lv_at hl 1 rfl) ?_
  refine lv_ifnullN (tgt := 21) X.1 X.2.1 d_K_bring_1 (by decide) ?_
  exact m_vret X hr hlk hM d_K_bring_21 ⟨Nat.le_of_ble_eq_true rfl, Nat.le_of_ble_eq_true rfl⟩ (mExt_rf _ _) ⟨rfl, rfl, rfl⟩
theorem k_K_bring (l : Launch) (D : va_G) (dA : Nat → ClassId) (base : Nat) (M : mM) (ad : Nat → Nat → Nat) (hw : wK M) (ht : wT M) (r : Option Nat) (hr0 : ∀ q, r = some q → q < gn M 7) (x : Int32) : mMet l y_K_bring b_K_bring 3 none ({ frames := 3, cells := 0, slots := 0, locals := 80 } : Room) 0 0 D dA base M ad [.ref (ad 0 0), rfv ad 7 r, .int x] (fun rv M' ad' => rv = none ∧ M' = brM M r x ∧ ad' = ad) := by
  cases r with
  | none => exact k_K_bring_n l D dA base M ad x
  | some w => exact k_K_bring_s l D dA base M ad hw ht w (hr0 w rfl) x
set_option maxHeartbeats 4000000 in
set_option maxRecDepth 100000 in
theorem k_K_control (l : Launch) (D : va_G) (dA : Nat → ClassId) (base : Nat) (M : mM) (ad : Nat → Nat → Nat) (hw : wK M) (ht : wT M) (i : Nat) (hi : i < 8) (r : Option Nat) (hr0 : ∀ q, r = some q → q < gn M 7) : mMet l y_K_control b_K_control 3 none ({ frames := 3, cells := 0, slots := 0, locals := 80 } : Room) 0 0 D dA base M ad [.ref (ad 0 0), .int (nI i), rfv ad 7 r] (fun rv M' ad' => rv = none ∧ M' = ctM M i r ∧ ad' = ad) := by
  refine m_start (lvs := [(0, .ref (ad 0 0)), (1, .int (nI i)), (2, rfv ad 7 (r))]) (by decide) (by cases r <;> exact Nat.le_of_ble_eq_true rfl) (by cases r <;> rfl) ?_
  intro p e s m below meth c ls X hr hlk hin hml hM hl
  refine lv_aload_n X.1 X.2.1 d_K_control_0 rfl (lv_at hl 0 rfl) ?_
  refine r_gets (q := 0) X hM rfl (w_k hw) f_K_43 rfl (w_0_7 hw) d_K_control_1 (fun hv1 => ?_)
  refine lv_iload_n X.1 X.2.1 d_K_control_4 rfl (lv_at hl 1 rfl) ?_
  refine r_aalds (q := i) X hM rfl hv1 a_clients (fun _ => rfl) (j := i) rfl hi (w_cl hw hi) d_K_control_5 (fun hv2 => ?_)
  refine r_aload_n X.1 X.2.1 d_K_control_6 rfl (lv_at hl 2 rfl) ?_
  refine r_putr X hM rfl hv2 p_K_173 rfl (x := r) hr0 rfl (rfv_nar _ _ _ _) (rfv_fit _ _ _ _) d_K_control_7 (fun H locs hM => ?_)
  have ht : wT (sr M 2 i 2 r) := kt_w (M := M) rfl ht
  have hw : wK (sr M 2 i 2 r) := kp_w (kp_sr M 2 i 2 r (by omega)) hw
  refine lv_aload_n X.1 X.2.1 d_K_control_10 rfl (lv_at hl 0 rfl) ?_
  refine r_gets (q := 0) X hM rfl (w_k hw) f_K_62 rfl (w_0_11 hw) d_K_control_11 (fun hv3 => ?_)
  refine lv_iload_n X.1 X.2.1 d_K_control_14 rfl (lv_at hl 1 rfl) ?_
  refine r_aload_n X.1 X.2.1 d_K_control_15 rfl (lv_at hl 2 rfl) ?_
  refine r_cS (As := [rfv ad 7 (r)]) (rest := [.int (nI i), .ref (ad 3 0)]) X hml hl.1 hM (k_K_numberOf l D dA base (sr M 2 i 2 r) ad r hr0) c_K_183 v_K_numberOf rfl (Nat.le_of_ble_eq_true rfl) ⟨rfl, rfl, Nat.le_of_ble_eq_true rfl, Nat.le_of_ble_eq_true rfl⟩ ⟨Nat.le_of_ble_eq_true rfl, Nat.le_of_ble_eq_true rfl⟩ d_K_control_16 ?_
  intro rv M1 ad1 H locs hP hM hE
  obtain ⟨e1, e2, e3⟩ := hP
  subst rv; subst M1; subst ad1
  show W _ _ _ _ _ _ _ _ _ _ _ _ _ _ _ (F0 m 19 ls [.int (num M r), .int (nI i), .ref (ad 3 0)])
  refine r_cV (As := [.int (nI i), .int (num M r)]) (rest := []) X hml hl.1 hM (k_Tr_clientIsControlled l D dA base (sr M 2 i 2 r) ad hv3 (nI i) (num M r) hw ht) c_K_349 v_Tr_clientIsControlled kc_Tr rfl hv3 rfl (Nat.le_of_ble_eq_true rfl) ⟨rfl, rfl, Nat.le_of_ble_eq_true rfl, Nat.le_of_ble_eq_true rfl⟩ ⟨Nat.le_of_ble_eq_true rfl, Nat.le_of_ble_eq_true rfl⟩ d_K_control_19 ?_
  intro rv M1 ad1 H locs hP hM hE
  obtain ⟨e1, e2, e3⟩ := hP
  subst rv; subst M1; subst ad1
  show W _ _ _ _ _ _ _ _ _ _ _ _ _ _ _ (F0 m 22 ls [])
  exact m_vret X hr hlk hM d_K_control_22 ⟨Nat.le_of_ble_eq_true rfl, Nat.le_of_ble_eq_true rfl⟩ (kp_ext (ctM_kp M i r) ad) ⟨rfl, rfl, rfl⟩
end
section
/-- the clients of b are handed to n, the first i looked at -/
def hnd (M : mM) (b n : Nat) : Nat → mM
  | 0 => M
  | i + 1 => if gr (hnd M b n i) 2 i 2 = some b then ctM (hnd M b n i) i (some n) else hnd M b n i
theorem hnd_t {M : mM} {b n i : Nat} (h : gr (hnd M b n i) 2 i 2 = some b) : hnd M b n (i + 1) = ctM (hnd M b n i) i (some n) := if_pos h
theorem hnd_f {M : mM} {b n i : Nat} (h : ¬ gr (hnd M b n i) 2 i 2 = some b) : hnd M b n (i + 1) = hnd M b n i := if_neg h
theorem hnd_kp (M : mM) (b n i : Nat) : kp M (hnd M b n i) := by
  induction i with
  | zero => exact kp_rf _
  | succ i ih =>
    by_cases h : gr (hnd M b n i) 2 i 2 = some b
    · rw [hnd_t h]; exact kp_tr ih (ctM_kp _ _ _)
    · rw [hnd_f h]; exact ih
theorem hnd_wT {M : mM} (ht : wT M) (b n i : Nat) : wT (hnd M b n i) := by
  induction i with
  | zero => exact ht
  | succ i ih =>
    by_cases h : gr (hnd M b n i) 2 i 2 = some b
    · rw [hnd_t h]; exact ctM_wT ih _ _
    · rw [hnd_f h]; exact ih
def act0 (M : mM) (g n : Nat) : mM := sr (sr M 5 g 3 none) 5 g 4 (some n)
def act1 (M : mM) (g n : Nat) (b : Option Nat) : mM := brM (act0 (brM M b 4) g n) (some n) 3
theorem act0_kp (M : mM) (g n : Nat) : kp M (act0 M g n) := kp_tr (kp_sr _ _ _ _ _ (by omega)) (kp_sr _ _ _ _ _ (by omega))
theorem act0_wT {M : mM} (ht : wT M) (g n : Nat) : wT (act0 M g n) := kt_w (M := M) rfl ht
theorem act1_kp (M : mM) (g n : Nat) (b : Option Nat) : kp M (act1 M g n b) := kp_tr (kp_tr (brM_kp _ _ _) (act0_kp _ _ _)) (brM_kp _ _ _)
theorem act1_wT {M : mM} (ht : wT M) (g n : Nat) (b : Option Nat) : wT (act1 M g n b) := brM_wT (act0_wT (brM_wT ht _ _) _ _) _ _
def actM (M : mM) (g n : Nat) (b : Option Nat) : mM := match b with
  | none => act1 M g n none
  | some b => hnd (act1 M g n (some b)) b n 8
theorem actM_kp (M : mM) (g n : Nat) (b : Option Nat) : kp M (actM M g n b) := by
  cases b with
  | none => exact act1_kp _ _ _ _
  | some b => exact kp_tr (act1_kp _ _ _ _) (hnd_kp _ _ _ _)
theorem actM_wT {M : mM} (ht : wT M) (g n : Nat) (b : Option Nat) : wT (actM M g n b) := by
  cases b with
  | none => exact act1_wT ht _ _ _
  | some b => exact hnd_wT (act1_wT ht _ _ _) _ _ _
def taM (M : mM) (g : Nat) : mM := match gr M 5 g 3 with
  | none => M
  | some n => if gi M 7 n 6 ≠ 0 ∨ ctl M (gr M 5 g 4) = 0 then actM M g n (gr M 5 g 4) else M
theorem taM_0 {M : mM} {g : Nat} (h : gr M 5 g 3 = none) : taM M g = M := by unfold taM; rw [h]
theorem taM_y {M : mM} {g n : Nat} (h : gr M 5 g 3 = some n) (h2 : gi M 7 n 6 ≠ 0 ∨ ctl M (gr M 5 g 4) = 0) : taM M g = actM M g n (gr M 5 g 4) := by unfold taM; rw [h]; exact if_pos h2
theorem taM_n {M : mM} {g n : Nat} (h : gr M 5 g 3 = some n) (h2 : ¬ (gi M 7 n 6 ≠ 0 ∨ ctl M (gr M 5 g 4) = 0)) : taM M g = M := by unfold taM; rw [h]; exact if_neg h2
theorem taM_kp (M : mM) (g : Nat) : kp M (taM M g) := by
  cases h : gr M 5 g 3 with
  | none => rw [taM_0 h]; exact kp_rf _
  | some n =>
    by_cases h2 : gi M 7 n 6 ≠ 0 ∨ ctl M (gr M 5 g 4) = 0
    · rw [taM_y h h2]; exact actM_kp _ _ _ _
    · rw [taM_n h h2]; exact kp_rf _
theorem taM_wT {M : mM} (ht : wT M) (g : Nat) : wT (taM M g) := by
  cases h : gr M 5 g 3 with
  | none => rw [taM_0 h]; exact ht
  | some n =>
    by_cases h2 : gi M 7 n 6 ≠ 0 ∨ ctl M (gr M 5 g 4) = 0
    · rw [taM_y h h2]; exact actM_wT ht _ _ _
    · rw [taM_n h h2]; exact ht
theorem nI_z {n : Nat} (h : n < 2147483648) (h2 : nI n = 0) : n = 0 := by
  have e := nI_clamp (n := n) h
  rw [h2] at e
  exact e.symm
theorem ctl_le (M : mM) (r : Option Nat) : ctl M r ≤ 8 := cn_le _ _
set_option maxHeartbeats 4000000 in
set_option maxRecDepth 100000 in
theorem k_K_tryActivation (l : Launch) (D : va_G) (dA : Nat → ClassId) (base : Nat) (M : mM) (ad : Nat → Nat → Nat) (hw : wK M) (ht : wT M) (g : Nat) (hg : g < gn M 5) : mMet l y_K_tryActivation b_K_tryActivation 5 none ({ frames := 4, cells := 0, slots := 0, locals := 120 } : Room) 0 0 D dA base M ad [.ref (ad 0 0), .ref (ad 5 g)] (fun rv M' ad' => rv = none ∧ M' = taM M g ∧ ad' = ad) := by
  refine m_start (lvs := [(0, .ref (ad 0 0)), (1, .ref (ad 5 g))]) (by decide) (Nat.le_of_ble_eq_true rfl) rfl ?_
  intro p e s m below meth c ls X hr hlk hin hml hM hl
  refine lv_aload_n X.1 X.2.1 d_K_tryActivation_0 rfl (lv_at hl 1 rfl) ?_
  refine r_getr X hM rfl hg f_K_196 rfl d_K_tryActivation_1 (fun hv1 => ?_)
  refine r_astore_n (lv' := [(2, rfv ad 7 (gr M 5 g 3)), (0, .ref (ad 0 0)), (1, .ref (ad 5 g))]) X.1 X.2.1 d_K_tryActivation_4 rfl hl (by decide) rfl (fun ls hl => ?_)
  refine lv_aload_n X.1 X.2.1 d_K_tryActivation_5 rfl (lv_at hl 2 rfl) ?_
  refine r_getr X hM rfl hg f_K_169 rfl d_K_tryActivation_6 (fun hv2 => ?_)
  refine r_astore_n (lv' := [(3, rfv ad 7 (gr M 5 g 4)), (2, rfv ad 7 (gr M 5 g 3)), (0, .ref (ad 0 0)), (1, .ref (ad 5 g))]) X.1 X.2.1 d_K_tryActivation_9 rfl hl (by decide) (by simp only [List.filter_cons, List.filter_nil, rfv_cat]; rfl) (fun ls hl => ?_)
  refine r_aload_n X.1 X.2.1 d_K_tryActivation_10 rfl (lv_at hl 1 rfl) ?_
  refine r_ifnull (tgt := 29) X.1 X.2.1 d_K_tryActivation_11 (by decide) (fun h11 => ?_) (fun n h11 => ?_)
  · skip
    rw [h11] at hl
    have hl : lv_has ls 5 [(3, rfv ad 7 (gr M 5 g 4)), (2, .null), (0, .ref (ad 0 0)), (1, .ref (ad 5 g))] := hl
    exact m_vret X hr hlk hM d_K_tryActivation_29 ⟨Nat.le_of_ble_eq_true rfl, Nat.le_of_ble_eq_true rfl⟩ (mExt_rf _ _) ⟨rfl, (taM_0 h11).symm, rfl⟩
  · skip
    rw [h11] at hl
    have hl : lv_has ls 5 [(3, rfv ad 7 (gr M 5 g 4)), (2, .ref (ad 7 n)), (0, .ref (ad 0 0)), (1, .ref (ad 5 g))] := hl
    refine lv_aload_n X.1 X.2.1 d_K_tryActivation_14 rfl (lv_at hl 1 rfl) ?_
    refine r_geti X hM rfl (hv1 n h11) f_K_204 rfl d_K_tryActivation_15 ?_
    refine lv_if_ne (tgt := 30) X.1 X.2.1 d_K_tryActivation_18 (by decide) (fun h18 => ?_) (fun h18 => ?_)
    · skip
      have hc : gi M 7 n 6 ≠ 0 ∨ ctl M (gr M 5 g 4) = 0 := Or.inl h18
      refine lv_aload_n X.1 X.2.1 d_K_tryActivation_30 rfl (lv_at hl 2 rfl) ?_
      refine r_aload_n X.1 X.2.1 d_K_tryActivation_31 rfl (lv_at hl 0 rfl) ?_
      refine lv_iconst (v := 4) X.1 X.2.1 d_K_tryActivation_32 (by decide) ?_
      refine r_cV (As := [rfv ad 7 (gr M 5 g 4), .int 4]) (rest := []) X hml hl.1 hM (k_K_bring l D dA base M ad hw ht (gr M 5 g 4) hv2 4) c_K_334 v_K_bring kc_K rfl (w_k hw) rfl (Nat.le_of_ble_eq_true rfl) ⟨rfl, rfl, Nat.le_of_ble_eq_true rfl, Nat.le_of_ble_eq_true rfl⟩ ⟨Nat.le_of_ble_eq_true rfl, Nat.le_of_ble_eq_true rfl⟩ d_K_tryActivation_33 ?_
      intro rv M1 ad1 H locs hP hM hE
      obtain ⟨e1, e2, e3⟩ := hP
      subst rv; subst M1; subst ad1
      have hk1 := brM_kp M (gr M 5 g 4) 4
      have hw1 := kp_w hk1 hw
      have ht1 := brM_wT ht (gr M 5 g 4) 4
      show W _ _ _ _ _ _ _ _ _ _ _ _ _ _ _ (F0 m 36 ls [])
      refine lv_aload_n X.1 X.2.1 d_K_tryActivation_36 rfl (lv_at hl 3 rfl) ?_
      refine lv_null X.1 X.2.1 d_K_tryActivation_37 ?_
      refine r_putr X hM rfl (kp_lv hk1 hg) p_K_196 rfl (x := none) (fun z hz => by cases hz) rfl rfl rfl d_K_tryActivation_38 (fun H locs hM => ?_)
      refine lv_aload_n X.1 X.2.1 d_K_tryActivation_41 rfl (lv_at hl 3 rfl) ?_
      refine lv_aload_n X.1 X.2.1 d_K_tryActivation_42 rfl (lv_at hl 1 rfl) ?_
      refine r_putr X hM rfl (kp_lv hk1 hg) p_K_169 rfl (x := (some n)) (fun z hz => by cases hz; exact (kp_lv hk1 (hv1 n h11))) rfl rfl rfl d_K_tryActivation_43 (fun H locs hM => ?_)
      have hw2 := kp_w (act0_kp (brM M (gr M 5 g 4) 4) g n) hw1
      have ht2 := act0_wT ht1 g n
      refine lv_aload_n X.1 X.2.1 d_K_tryActivation_46 rfl (lv_at hl 2 rfl) ?_
      refine lv_aload_n X.1 X.2.1 d_K_tryActivation_47 rfl (lv_at hl 1 rfl) ?_
      refine lv_iconst (v := 3) X.1 X.2.1 d_K_tryActivation_48 (by decide) ?_
      refine r_cV (As := [.ref (ad 7 n), .int 3]) (rest := []) X hml hl.1 hM (k_K_bring_s l D dA base (act0 (brM M (gr M 5 g 4) 4) g n) ad hw2 ht2 n (kp_lv hk1 (hv1 n h11)) 3) c_K_334 v_K_bring kc_K rfl (kp_lv hk1 (w_k hw)) rfl (Nat.le_of_ble_eq_true rfl) ⟨rfl, rfl, Nat.le_of_ble_eq_true rfl, Nat.le_of_ble_eq_true rfl⟩ ⟨Nat.le_of_ble_eq_true rfl, Nat.le_of_ble_eq_true rfl⟩ d_K_tryActivation_49 ?_
      intro rv M1 ad1 H locs hP hM hE
      obtain ⟨e1, e2, e3⟩ := hP
      subst rv; subst M1; subst ad1
      show W _ _ _ _ _ _ _ _ _ _ _ _ _ _ _ (F0 m 52 ls [])
      refine r_aload_n X.1 X.2.1 d_K_tryActivation_52 rfl (lv_at hl 0 rfl) ?_
      refine r_ifnonnull (tgt := 57) X.1 X.2.1 d_K_tryActivation_53 (by decide) (fun b h53 => ?_) (fun h53 => ?_)
      · skip
        rw [h53] at hl
        have hl : lv_has ls 5 [(3, .ref (ad 7 b)), (2, .ref (ad 7 n)), (0, .ref (ad 0 0)), (1, .ref (ad 5 g))] := hl
        refine lv_iconst (v := 0) X.1 X.2.1 d_K_tryActivation_57 (by decide) ?_
        refine lv_istore (lv' := [(4, .int 0), (3, .ref (ad 7 b)), (2, .ref (ad 7 n)), (0, .ref (ad 0 0)), (1, .ref (ad 5 g))]) X.1 X.2.1 d_K_tryActivation_58 hl (by decide) rfl (fun ls hl => ?_)
        have hbA : b < gn (act1 M g n (gr M 5 g 4)) 7 := ((kp_lq (brM_kp (act0 (brM M (gr M 5 g 4) 4) g n) (some n) 3) (kp_lq hk1 hv2)) b h53)
        have hnA : n < gn (act1 M g n (gr M 5 g 4)) 7 := (kp_lv (brM_kp (act0 (brM M (gr M 5 g 4) 4) g n) (some n) 3) (kp_lv hk1 (hv1 n h11)))
        have hgA : g < gn (act1 M g n (gr M 5 g 4)) 5 := (kp_lv (brM_kp (act0 (brM M (gr M 5 g 4) 4) g n) (some n) 3) (kp_lv hk1 hg))
        have hkA := act1_kp M g n (gr M 5 g 4)
        have hwA := kp_w hkA hw
        have htA := act1_wT ht g n (gr M 5 g 4)
        have hR : taM M g = hnd (act1 M g n (gr M 5 g 4)) b n 8 := by rw [taM_y h11 hc, h53]; rfl
        have hM : mSt D dA base (act1 M g n (gr M 5 g 4)) ad s.heap H locs := hM
        generalize act1 M g n (gr M 5 g 4) = A at hM hbA hnA hgA hkA hwA htA hR
        refine w_upW 8 (fun ls => F0 m 60 ls []) (fun i H L ls => mSt D dA base (hnd A b n i) ad s.heap H L ∧ lv_has ls 5 [(4, .int (nI i)), (3, .ref (ad 7 b)), (2, .ref (ad 7 n)), (0, .ref (ad 0 0)), (1, .ref (ad 5 g))] ∧ True) ?_ ?_ 0 _ _ ls (by omega) ⟨hM, lv_sub hl [0, 1, 2, 3, 4] rfl, trivial⟩
        · rintro H locs ls ⟨hM, hl, hI⟩
          refine lv_iload X.1 X.2.1 d_K_tryActivation_60 (lv_at hl 0 rfl) ?_
          refine lv_bipush (v := 8) X.1 X.2.1 d_K_tryActivation_62 (by decide) ?_
          refine lv_icmp_ge (tgt := 94) X.1 X.2.1 d_K_tryActivation_64 (by decide) (fun hz55 => ?_) (fun hz55 => absurd (by decide) hz55)
          exact m_vret X hr hlk hM d_K_tryActivation_94 ⟨Nat.le_of_ble_eq_true rfl, Nat.le_of_ble_eq_true rfl⟩ (kp_ext (kp_tr hkA (hnd_kp _ _ _ _)) ad) ⟨rfl, hR.symm, rfl⟩
        · rintro i hi ih H locs ls ⟨hM, hl, hI⟩
          have hkI := hnd_kp A b n i
          have hw := kp_w hkI hwA
          have ht := hnd_wT htA b n i
          have hbI := kp_lv hkI hbA
          have hnI := kp_lv hkI hnA
          have hgI := kp_lv hkI hgA
          refine lv_iload X.1 X.2.1 d_K_tryActivation_60 (lv_at hl 0 rfl) ?_
          refine lv_bipush (v := 8) X.1 X.2.1 d_K_tryActivation_62 (by decide) ?_
          refine lv_icmp_ge (tgt := 94) X.1 X.2.1 d_K_tryActivation_64 (by decide) (fun hz55 => absurd hz55 (show ¬ (8 : Int32) ≤ nI i from nI_ge hi (by decide))) (fun hz55 => ?_)
          refine lv_aload_n X.1 X.2.1 d_K_tryActivation_67 rfl (lv_at hl 3 rfl) ?_
          refine r_gets (q := 0) X hM rfl (w_k hw) f_K_43 rfl (w_0_7 hw) d_K_tryActivation_68 (fun hv56 => ?_)
          refine lv_iload X.1 X.2.1 d_K_tryActivation_71 (lv_at hl 0 rfl) ?_
          refine r_aalds (q := i) X hM rfl hv56 a_clients (fun _ => rfl) (j := i) rfl (by omega) (w_cl hw hi) d_K_tryActivation_73 (fun hv57 => ?_)
          refine r_getr X hM rfl hv57 f_K_173 rfl d_K_tryActivation_74 (fun hv58 => ?_)
          refine lv_aload_n X.1 X.2.1 d_K_tryActivation_77 rfl (lv_at hl 1 rfl) ?_
          show W _ _ _ _ _ _ _ _ _ _ _ _ _ _ _ (F0 m 78 ls (rfv ad 7 (some b) :: rfv ad 7 (gr (hnd A b n i) 2 i 2) :: []))
          refine r_acmp_ne (tgt := 88) X.1 X.2.1 hM (k := 7) hv58 (fun z hz => by cases hz; exact hbI) d_K_tryActivation_78 (by decide) (fun hq0 => ?_) (fun hq0 => ?_)
          · skip
            obtain ⟨xi, e_xi⟩ : ∃ z : Int32, z = (nI i) + 1 := ⟨_, rfl⟩
            refine lv_iinc (v := xi) (lv' := [(4, .int xi), (3, .ref (ad 7 b)), (2, .ref (ad 7 n)), (0, .ref (ad 0 0)), (1, .ref (ad 5 g))]) X.1 X.2.1 d_K_tryActivation_88 hl (k := 0) rfl (by rw [e_xi]; rfl) (by decide) rfl (fun ls hl => ?_)
            refine lv_goto (tgt := 60) X.1 X.2.1 d_K_tryActivation_91 (by decide) ?_
            have e9 := e_xi.trans (nI_1 i)
            subst e9
            exact ih _ _ ls ⟨by rw [hnd_f hq0]; exact hM, lv_sub hl [0, 1, 2, 3, 4] rfl, trivial⟩
          · skip
            refine lv_aload_n X.1 X.2.1 d_K_tryActivation_81 rfl (lv_at hl 3 rfl) ?_
            refine lv_iload X.1 X.2.1 d_K_tryActivation_82 (lv_at hl 0 rfl) ?_
            refine lv_aload_n X.1 X.2.1 d_K_tryActivation_84 rfl (lv_at hl 2 rfl) ?_
            refine r_cV (As := [.int (nI i), .ref (ad 7 n)]) (rest := []) X hml hl.1 hM (k_K_control l D dA base (hnd A b n i) ad hw ht i hi (some n) (fun q z => by cases z; exact hnI)) c_K_192 v_K_control kc_K rfl (w_k hw) rfl (Nat.le_of_ble_eq_true rfl) ⟨rfl, rfl, Nat.le_of_ble_eq_true rfl, Nat.le_of_ble_eq_true rfl⟩ ⟨Nat.le_of_ble_eq_true rfl, Nat.le_of_ble_eq_true rfl⟩ d_K_tryActivation_85 ?_
            intro rv M1 ad1 H locs hP hM hE
            obtain ⟨e1, e2, e3⟩ := hP
            subst rv; subst M1; subst ad1
            show W _ _ _ _ _ _ _ _ _ _ _ _ _ _ _ (F0 m 88 ls [])
            obtain ⟨xi, e_xi⟩ : ∃ z : Int32, z = (nI i) + 1 := ⟨_, rfl⟩
            refine lv_iinc (v := xi) (lv' := [(4, .int xi), (3, .ref (ad 7 b)), (2, .ref (ad 7 n)), (0, .ref (ad 0 0)), (1, .ref (ad 5 g))]) X.1 X.2.1 d_K_tryActivation_88 hl (k := 0) rfl (by rw [e_xi]; rfl) (by decide) rfl (fun ls hl => ?_)
            refine lv_goto (tgt := 60) X.1 X.2.1 d_K_tryActivation_91 (by decide) ?_
            have e9 := e_xi.trans (nI_1 i)
            subst e9
            exact ih _ _ ls ⟨by rw [hnd_t hq0]; exact hM, lv_sub hl [0, 1, 2, 3, 4] rfl, trivial⟩
      · skip
        rw [h53] at hl
        have hl : lv_has ls 5 [(3, .null), (2, .ref (ad 7 n)), (0, .ref (ad 0 0)), (1, .ref (ad 5 g))] := hl
        exact m_vret X hr hlk hM d_K_tryActivation_56 ⟨Nat.le_of_ble_eq_true rfl, Nat.le_of_ble_eq_true rfl⟩ (kp_ext (act1_kp _ _ _ _) ad) ⟨rfl, by rw [taM_y h11 hc, h53]; rfl, rfl⟩
    · skip
      refine lv_aload_n X.1 X.2.1 d_K_tryActivation_21 rfl (lv_at hl 2 rfl) ?_
      refine r_aload_n X.1 X.2.1 d_K_tryActivation_22 rfl (lv_at hl 0 rfl) ?_
      refine r_cV (As := [rfv ad 7 (gr M 5 g 4)]) (rest := []) X hml hl.1 hM (k_K_controlledBy l D dA base M ad hw (gr M 5 g 4) hv2) c_K_251 v_K_controlledBy kc_K rfl (w_k hw) rfl (Nat.le_of_ble_eq_true rfl) ⟨rfl, rfl, Nat.le_of_ble_eq_true rfl, Nat.le_of_ble_eq_true rfl⟩ ⟨Nat.le_of_ble_eq_true rfl, Nat.le_of_ble_eq_true rfl⟩ d_K_tryActivation_23 ?_
      intro rv M1 ad1 H locs hP hM hE
      obtain ⟨e1, e2, e3⟩ := hP
      subst rv; subst M1; subst ad1
      show W _ _ _ _ _ _ _ _ _ _ _ _ _ _ _ (F0 m 26 ls [.int (nI (ctl M (gr M 5 g 4)))])
      refine lv_if_eq (tgt := 30) X.1 X.2.1 d_K_tryActivation_26 (by decide) (fun h26 => ?_) (fun h26 => ?_)
      · skip
        have hc : gi M 7 n 6 ≠ 0 ∨ ctl M (gr M 5 g 4) = 0 := Or.inr (by have z8 := ctl_le M (gr M 5 g 4); exact nI_z (by omega) h26)
        refine lv_aload_n X.1 X.2.1 d_K_tryActivation_30 rfl (lv_at hl 2 rfl) ?_
        refine r_aload_n X.1 X.2.1 d_K_tryActivation_31 rfl (lv_at hl 0 rfl) ?_
        refine lv_iconst (v := 4) X.1 X.2.1 d_K_tryActivation_32 (by decide) ?_
        refine r_cV (As := [rfv ad 7 (gr M 5 g 4), .int 4]) (rest := []) X hml hl.1 hM (k_K_bring l D dA base M ad hw ht (gr M 5 g 4) hv2 4) c_K_334 v_K_bring kc_K rfl (w_k hw) rfl (Nat.le_of_ble_eq_true rfl) ⟨rfl, rfl, Nat.le_of_ble_eq_true rfl, Nat.le_of_ble_eq_true rfl⟩ ⟨Nat.le_of_ble_eq_true rfl, Nat.le_of_ble_eq_true rfl⟩ d_K_tryActivation_33 ?_
        intro rv M1 ad1 H locs hP hM hE
        obtain ⟨e1, e2, e3⟩ := hP
        subst rv; subst M1; subst ad1
        have hk1 := brM_kp M (gr M 5 g 4) 4
        have hw1 := kp_w hk1 hw
        have ht1 := brM_wT ht (gr M 5 g 4) 4
        show W _ _ _ _ _ _ _ _ _ _ _ _ _ _ _ (F0 m 36 ls [])
        refine lv_aload_n X.1 X.2.1 d_K_tryActivation_36 rfl (lv_at hl 3 rfl) ?_
        refine lv_null X.1 X.2.1 d_K_tryActivation_37 ?_
        refine r_putr X hM rfl (kp_lv hk1 hg) p_K_196 rfl (x := none) (fun z hz => by cases hz) rfl rfl rfl d_K_tryActivation_38 (fun H locs hM => ?_)
        refine lv_aload_n X.1 X.2.1 d_K_tryActivation_41 rfl (lv_at hl 3 rfl) ?_
        refine lv_aload_n X.1 X.2.1 d_K_tryActivation_42 rfl (lv_at hl 1 rfl) ?_
        refine r_putr X hM rfl (kp_lv hk1 hg) p_K_169 rfl (x := (some n)) (fun z hz => by cases hz; exact (kp_lv hk1 (hv1 n h11))) rfl rfl rfl d_K_tryActivation_43 (fun H locs hM => ?_)
        have hw2 := kp_w (act0_kp (brM M (gr M 5 g 4) 4) g n) hw1
        have ht2 := act0_wT ht1 g n
        refine lv_aload_n X.1 X.2.1 d_K_tryActivation_46 rfl (lv_at hl 2 rfl) ?_
        refine lv_aload_n X.1 X.2.1 d_K_tryActivation_47 rfl (lv_at hl 1 rfl) ?_
        refine lv_iconst (v := 3) X.1 X.2.1 d_K_tryActivation_48 (by decide) ?_
        refine r_cV (As := [.ref (ad 7 n), .int 3]) (rest := []) X hml hl.1 hM (k_K_bring_s l D dA base (act0 (brM M (gr M 5 g 4) 4) g n) ad hw2 ht2 n (kp_lv hk1 (hv1 n h11)) 3) c_K_334 v_K_bring kc_K rfl (kp_lv hk1 (w_k hw)) rfl (Nat.le_of_ble_eq_true rfl) ⟨rfl, rfl, Nat.le_of_ble_eq_true rfl, Nat.le_of_ble_eq_true rfl⟩ ⟨Nat.le_of_ble_eq_true rfl, Nat.le_of_ble_eq_true rfl⟩ d_K_tryActivation_49 ?_
        intro rv M1 ad1 H locs hP hM hE
        obtain ⟨e1, e2, e3⟩ := hP
        subst rv; subst M1; subst ad1
        show W _ _ _ _ _ _ _ _ _ _ _ _ _ _ _ (F0 m 52 ls [])
        refine r_aload_n X.1 X.2.1 d_K_tryActivation_52 rfl (lv_at hl 0 rfl) ?_
        refine r_ifnonnull (tgt := 57) X.1 X.2.1 d_K_tryActivation_53 (by decide) (fun b h53 => ?_) (fun h53 => ?_)
        · skip
          rw [h53] at hl
          have hl : lv_has ls 5 [(3, .ref (ad 7 b)), (2, .ref (ad 7 n)), (0, .ref (ad 0 0)), (1, .ref (ad 5 g))] := hl
          refine lv_iconst (v := 0) X.1 X.2.1 d_K_tryActivation_57 (by decide) ?_
          refine lv_istore (lv' := [(4, .int 0), (3, .ref (ad 7 b)), (2, .ref (ad 7 n)), (0, .ref (ad 0 0)), (1, .ref (ad 5 g))]) X.1 X.2.1 d_K_tryActivation_58 hl (by decide) rfl (fun ls hl => ?_)
          have hbA : b < gn (act1 M g n (gr M 5 g 4)) 7 := ((kp_lq (brM_kp (act0 (brM M (gr M 5 g 4) 4) g n) (some n) 3) (kp_lq hk1 hv2)) b h53)
          have hnA : n < gn (act1 M g n (gr M 5 g 4)) 7 := (kp_lv (brM_kp (act0 (brM M (gr M 5 g 4) 4) g n) (some n) 3) (kp_lv hk1 (hv1 n h11)))
          have hgA : g < gn (act1 M g n (gr M 5 g 4)) 5 := (kp_lv (brM_kp (act0 (brM M (gr M 5 g 4) 4) g n) (some n) 3) (kp_lv hk1 hg))
          have hkA := act1_kp M g n (gr M 5 g 4)
          have hwA := kp_w hkA hw
          have htA := act1_wT ht g n (gr M 5 g 4)
          have hR : taM M g = hnd (act1 M g n (gr M 5 g 4)) b n 8 := by rw [taM_y h11 hc, h53]; rfl
          have hM : mSt D dA base (act1 M g n (gr M 5 g 4)) ad s.heap H locs := hM
          generalize act1 M g n (gr M 5 g 4) = A at hM hbA hnA hgA hkA hwA htA hR
          refine w_upW 8 (fun ls => F0 m 60 ls []) (fun i H L ls => mSt D dA base (hnd A b n i) ad s.heap H L ∧ lv_has ls 5 [(4, .int (nI i)), (3, .ref (ad 7 b)), (2, .ref (ad 7 n)), (0, .ref (ad 0 0)), (1, .ref (ad 5 g))] ∧ True) ?_ ?_ 0 _ _ ls (by omega) ⟨hM, lv_sub hl [0, 1, 2, 3, 4] rfl, trivial⟩
          · rintro H locs ls ⟨hM, hl, hI⟩
            refine lv_iload X.1 X.2.1 d_K_tryActivation_60 (lv_at hl 0 rfl) ?_
            refine lv_bipush (v := 8) X.1 X.2.1 d_K_tryActivation_62 (by decide) ?_
            refine lv_icmp_ge (tgt := 94) X.1 X.2.1 d_K_tryActivation_64 (by decide) (fun hz58 => ?_) (fun hz58 => absurd (by decide) hz58)
            exact m_vret X hr hlk hM d_K_tryActivation_94 ⟨Nat.le_of_ble_eq_true rfl, Nat.le_of_ble_eq_true rfl⟩ (kp_ext (kp_tr hkA (hnd_kp _ _ _ _)) ad) ⟨rfl, hR.symm, rfl⟩
          · rintro i hi ih H locs ls ⟨hM, hl, hI⟩
            have hkI := hnd_kp A b n i
            have hw := kp_w hkI hwA
            have ht := hnd_wT htA b n i
            have hbI := kp_lv hkI hbA
            have hnI := kp_lv hkI hnA
            have hgI := kp_lv hkI hgA
            refine lv_iload X.1 X.2.1 d_K_tryActivation_60 (lv_at hl 0 rfl) ?_
            refine lv_bipush (v := 8) X.1 X.2.1 d_K_tryActivation_62 (by decide) ?_
            refine lv_icmp_ge (tgt := 94) X.1 X.2.1 d_K_tryActivation_64 (by decide) (fun hz58 => absurd hz58 (show ¬ (8 : Int32) ≤ nI i from nI_ge hi (by decide))) (fun hz58 => ?_)
            refine lv_aload_n X.1 X.2.1 d_K_tryActivation_67 rfl (lv_at hl 3 rfl) ?_
            refine r_gets (q := 0) X hM rfl (w_k hw) f_K_43 rfl (w_0_7 hw) d_K_tryActivation_68 (fun hv59 => ?_)
            refine lv_iload X.1 X.2.1 d_K_tryActivation_71 (lv_at hl 0 rfl) ?_
            refine r_aalds (q := i) X hM rfl hv59 a_clients (fun _ => rfl) (j := i) rfl (by omega) (w_cl hw hi) d_K_tryActivation_73 (fun hv60 => ?_)
            refine r_getr X hM rfl hv60 f_K_173 rfl d_K_tryActivation_74 (fun hv61 => ?_)
            refine lv_aload_n X.1 X.2.1 d_K_tryActivation_77 rfl (lv_at hl 1 rfl) ?_
            show W _ _ _ _ _ _ _ _ _ _ _ _ _ _ _ (F0 m 78 ls (rfv ad 7 (some b) :: rfv ad 7 (gr (hnd A b n i) 2 i 2) :: []))
            refine r_acmp_ne (tgt := 88) X.1 X.2.1 hM (k := 7) hv61 (fun z hz => by cases hz; exact hbI) d_K_tryActivation_78 (by decide) (fun hq0 => ?_) (fun hq0 => ?_)
            · skip
              obtain ⟨xi, e_xi⟩ : ∃ z : Int32, z = (nI i) + 1 := ⟨_, rfl⟩
              refine lv_iinc (v := xi) (lv' := [(4, .int xi), (3, .ref (ad 7 b)), (2, .ref (ad 7 n)), (0, .ref (ad 0 0)), (1, .ref (ad 5 g))]) X.1 X.2.1 d_K_tryActivation_88 hl (k := 0) rfl (by rw [e_xi]; rfl) (by decide) rfl (fun ls hl => ?_)
              refine lv_goto (tgt := 60) X.1 X.2.1 d_K_tryActivation_91 (by decide) ?_
              have e9 := e_xi.trans (nI_1 i)
              subst e9
              exact ih _ _ ls ⟨by rw [hnd_f hq0]; exact hM, lv_sub hl [0, 1, 2, 3, 4] rfl, trivial⟩
            · skip
              refine lv_aload_n X.1 X.2.1 d_K_tryActivation_81 rfl (lv_at hl 3 rfl) ?_
              refine lv_iload X.1 X.2.1 d_K_tryActivation_82 (lv_at hl 0 rfl) ?_
              refine lv_aload_n X.1 X.2.1 d_K_tryActivation_84 rfl (lv_at hl 2 rfl) ?_
              refine r_cV (As := [.int (nI i), .ref (ad 7 n)]) (rest := []) X hml hl.1 hM (k_K_control l D dA base (hnd A b n i) ad hw ht i hi (some n) (fun q z => by cases z; exact hnI)) c_K_192 v_K_control kc_K rfl (w_k hw) rfl (Nat.le_of_ble_eq_true rfl) ⟨rfl, rfl, Nat.le_of_ble_eq_true rfl, Nat.le_of_ble_eq_true rfl⟩ ⟨Nat.le_of_ble_eq_true rfl, Nat.le_of_ble_eq_true rfl⟩ d_K_tryActivation_85 ?_
              intro rv M1 ad1 H locs hP hM hE
              obtain ⟨e1, e2, e3⟩ := hP
              subst rv; subst M1; subst ad1
              show W _ _ _ _ _ _ _ _ _ _ _ _ _ _ _ (F0 m 88 ls [])
              obtain ⟨xi, e_xi⟩ : ∃ z : Int32, z = (nI i) + 1 := ⟨_, rfl⟩
              refine lv_iinc (v := xi) (lv' := [(4, .int xi), (3, .ref (ad 7 b)), (2, .ref (ad 7 n)), (0, .ref (ad 0 0)), (1, .ref (ad 5 g))]) X.1 X.2.1 d_K_tryActivation_88 hl (k := 0) rfl (by rw [e_xi]; rfl) (by decide) rfl (fun ls hl => ?_)
              refine lv_goto (tgt := 60) X.1 X.2.1 d_K_tryActivation_91 (by decide) ?_
              have e9 := e_xi.trans (nI_1 i)
              subst e9
              exact ih _ _ ls ⟨by rw [hnd_t hq0]; exact hM, lv_sub hl [0, 1, 2, 3, 4] rfl, trivial⟩
        · skip
          rw [h53] at hl
          have hl : lv_has ls 5 [(3, .null), (2, .ref (ad 7 n)), (0, .ref (ad 0 0)), (1, .ref (ad 5 g))] := hl
          exact m_vret X hr hlk hM d_K_tryActivation_56 ⟨Nat.le_of_ble_eq_true rfl, Nat.le_of_ble_eq_true rfl⟩ (kp_ext (act1_kp _ _ _ _) ad) ⟨rfl, by rw [taM_y h11 hc, h53]; rfl, rfl⟩
      · skip
        exact m_vret X hr hlk hM d_K_tryActivation_29 ⟨Nat.le_of_ble_eq_true rfl, Nat.le_of_ble_eq_true rfl⟩ (mExt_rf _ _) ⟨rfl, (taM_n h11 (by rintro (z | z); exact z h18; exact h26 (by rw [z]; rfl))).symm, rfl⟩
end
section
/-- the registrations without g, the first i looked at; how many are kept -/
def rmL (M : mM) (g : Nat) : Nat → mM × Nat
  | 0 => (M, 0)
  | i + 1 => if gr (rmL M g i).1 10 0 i = some g then rmL M g i else (sr (rmL M g i).1 10 0 (rmL M g i).2 (gr (rmL M g i).1 10 0 i), (rmL M g i).2 + 1)
theorem rmL_t {M : mM} {g i : Nat} (h : gr (rmL M g i).1 10 0 i = some g) : rmL M g (i + 1) = rmL M g i := if_pos h
theorem rmL_f {M : mM} {g i : Nat} (h : ¬ gr (rmL M g i).1 10 0 i = some g) : rmL M g (i + 1) = (sr (rmL M g i).1 10 0 (rmL M g i).2 (gr (rmL M g i).1 10 0 i), (rmL M g i).2 + 1) := if_neg h
theorem rmL_all (M : mM) (g i : Nat) : (rmL M g i).2 ≤ i ∧ (∀ j, i ≤ j → gr (rmL M g i).1 10 0 j = gr M 10 0 j) ∧ (∀ k a b, k ≠ 10 → gr (rmL M g i).1 k a b = gr M k a b) ∧ (∀ k a b, gi (rmL M g i).1 k a b = gi M k a b) ∧ (∀ a, gn (rmL M g i).1 a = gn M a) ∧ (∀ k a b, gl (rmL M g i).1 k a b = gl M k a b) := by
  induction i with
  | zero => exact ⟨Nat.le_refl _, fun _ _ => rfl, fun _ _ _ _ => rfl, fun _ _ _ => rfl, fun _ => rfl, fun _ _ _ => rfl⟩
  | succ i ih =>
    obtain ⟨h1, h2, h3, h4, h5, h6⟩ := ih
    by_cases h : gr (rmL M g i).1 10 0 i = some g
    · rw [rmL_t h]
      exact ⟨by omega, fun j hj => h2 j (by omega), h3, h4, h5, h6⟩
    · rw [rmL_f h]
      refine ⟨Nat.succ_le_succ h1, fun j hj => ?_, fun k a b hk => ?_, h4, h5, h6⟩
      · show gr (sr _ _ _ _ _) _ _ _ = _
        rw [gr_sr, if_neg (by omega)]; exact h2 j (by omega)
      · show gr (sr _ _ _ _ _) _ _ _ = _
        rw [gr_sr, if_neg (by omega)]; exact h3 k a b hk
theorem rmL_some {M : mM} (hw : wK M) (g : Nat) : ∀ i, i ≤ nRg M → ∀ j, j < (rmL M g i).2 → ∃ q, gr (rmL M g i).1 10 0 j = some q := by
  intro i
  induction i with
  | zero => intro _ j hj; exact absurd hj (Nat.not_lt_zero _)
  | succ i ih =>
    intro hi j hj
    by_cases h : gr (rmL M g i).1 10 0 i = some g
    · rw [rmL_t h] at hj ⊢; exact ih (by omega) j hj
    · rw [rmL_f h] at hj ⊢
      show ∃ q, gr (sr _ _ _ _ _) _ _ _ = some q
      have hj : j < (rmL M g i).2 + 1 := hj
      rw [gr_sr]
      by_cases hj2 : j = (rmL M g i).2
      · rw [if_pos ⟨rfl, rfl, hj2⟩]
        exact ⟨_, ((rmL_all M g i).2.1 i (Nat.le_refl _)).trans (w_rg hw (by omega))⟩
      · rw [if_neg (by omega)]; exact ih (by omega) j (by omega)
def rmM (M : mM) (g : Nat) : mM := si (rmL M g (nRg M)).1 0 0 6 (nI (rmL M g (nRg M)).2)
theorem rmM_w {M : mM} (hw : wK M) (g : Nat) : wK (rmM M g) := by
  obtain ⟨h1, h2, h3, h4, h5, h6⟩ := rmL_all M g (nRg M)
  have h8 := rmL_some hw g (nRg M) (Nat.le_refl _)
  have hN := w_nrl hw
  have e6 : nRg (rmM M g) = (rmL M g (nRg M)).2 := nI_clamp (by omega)
  have eg : ∀ k a b, k ≠ 0 → gi (rmM M g) k a b = gi M k a b := fun k a b hk => by
    show gi (si _ _ _ _ _) _ _ _ = _
    rw [gi_si, if_neg (by omega)]; exact h4 k a b
  have ej : ∀ b, b ≠ 6 → gi (rmM M g) 0 0 b = gi M 0 0 b := fun b hb => by
    show gi (si _ _ _ _ _) _ _ _ = _
    rw [gi_si, if_neg (by omega)]; exact h4 0 0 b
  have er : ∀ k a b, k ≠ 10 → gr (rmM M g) k a b = gr M k a b := h3
  have en : ∀ a, gn (rmM M g) a = gn M a := h5
  refine ⟨⟨by rw [en]; exact w_k hw, ?_, ?_, ?_, ?_, ?_, ?_, ?_, by rw [er _ _ _ (by decide)]; exact w_3_0 hw⟩, fun i hi => by rw [er _ _ _ (by decide)]; exact w_sc hw hi, fun i hi => by rw [er _ _ _ (by decide)]; exact w_cl hw hi, ⟨?_, ?_, ?_⟩, ⟨?_, ?_, ?_⟩, ?_, ?_, ?_⟩
  · rw [er _ _ _ (by decide)]; exact w_0_0 hw
  · rw [er _ _ _ (by decide)]; exact w_0_3 hw
  · rw [er _ _ _ (by decide)]; exact w_0_5 hw
  · rw [er _ _ _ (by decide)]; exact w_0_7 hw
  · rw [er _ _ _ (by decide)]; exact w_0_8 hw
  · rw [er _ _ _ (by decide)]; exact w_0_9 hw
  · rw [er _ _ _ (by decide)]; exact w_0_11 hw
  · rw [ej _ (by decide), en]; exact w_nw hw
  · rw [en]; exact w_nwl hw
  · intro i hi
    rw [en] at hi
    rw [er _ _ _ (by decide), er _ _ _ (by decide), er _ _ _ (by decide), er _ _ _ (by decide), eg _ _ _ (by decide)]
    exact ⟨w_wk hw hi, w_num hw hi, w_7_4 hw hi, w_6_0 hw hi, w_6_1 hw hi⟩
  · rw [e6]; rfl
  · rw [e6]; omega
  · intro i hi
    rw [e6] at hi
    obtain ⟨q, hq⟩ := h8 i hi
    have hq : gr (rmM M g) 10 0 i = some q := hq
    unfold rgx
    rw [hq]; rfl
  · rw [ej _ (by decide), en]; exact w_nj hw
  · rw [en]; exact w_njl hw
  · intro i hi
    rw [en] at hi
    rw [er _ _ _ (by decide), eg _ _ _ (by decide)]
    exact ⟨w_jb hw hi, w_jn hw hi⟩
theorem rmM_gn (M : mM) (g a : Nat) : gn (rmM M g) a = gn M a := (rmL_all M g (nRg M)).2.2.2.2.1 a
theorem rmM_kq (M : mM) (g : Nat) : kq M (rmM M g) := by
  obtain ⟨h1, h2, h3, h4, h5, h6⟩ := rmL_all M g (nRg M)
  refine ⟨h5, ⟨?_, ?_⟩, fun i => ⟨?_, ?_, ?_⟩⟩ <;> (show gi (si _ _ _ _ _) _ _ _ = _; rw [gi_si, if_neg (by omega)]; exact h4 _ _ _)
theorem rmM_wT {M : mM} (ht : wT M) (g : Nat) : wT (rmM M g) := kt_w (M := M) ((rmL_all M g (nRg M)).2.2.2.1 3 0 1) ht
/-- may g be cleared; cleared -/
def clr (M : mM) (g : Nat) : Bool := decide (gi M 5 g 5 ≠ 0 ∧ gr M 5 g 2 = none ∧ ctl M (gr M 5 g 4) = 0)
def tc1 (M : mM) (g : Nat) : mM := brM M (gr M 5 g 3) 4
def tc2 (B : mM) (g : Nat) : mM := rmM (brM B (gr B 5 g 4) 4) g
def tcM (M : mM) (g : Nat) : mM := if clr M g = true then tc2 (tc1 M g) g else M
theorem tcM_t {M : mM} {g : Nat} (h : clr M g = true) : tcM M g = tc2 (tc1 M g) g := if_pos h
theorem tcM_f {M : mM} {g : Nat} (h : ¬ clr M g = true) : tcM M g = M := if_neg h
theorem tc2_gn (B : mM) (g a : Nat) : gn (tc2 B g) a = gn B a := (rmM_gn _ _ _).trans ((brM_kp _ _ _).1 a)
theorem tcM_gn (M : mM) (g a : Nat) : gn (tcM M g) a = gn M a := by
  unfold tcM
  split
  · exact (tc2_gn _ _ _).trans ((brM_kp _ _ _).1 a)
  · rfl
theorem tcM_w {M : mM} (hw : wK M) (g : Nat) : wK (tcM M g) := by
  unfold tcM
  split
  · exact rmM_w (kp_w (brM_kp _ _ _) (kp_w (brM_kp _ _ _) hw)) g
  · exact hw
theorem tcM_kq (M : mM) (g : Nat) : kq M (tcM M g) := by
  unfold tcM
  split
  · exact kq_tr (kp_q (brM_kp _ _ _)) (kq_tr (kp_q (brM_kp _ _ _)) (rmM_kq _ g))
  · exact kq_rf _
theorem tcM_wT {M : mM} (ht : wT M) (g : Nat) : wT (tcM M g) := by
  unfold tcM
  split
  · exact rmM_wT (brM_wT (brM_wT ht _ _) _ _) g
  · exact ht
theorem gn_ext {M M' : mM} (h : ∀ a, gn M' a = gn M a) (ad : Nat → Nat → Nat) : mExt M ad M' ad := ⟨fun _ _ _ => rfl, fun a => Nat.le_of_eq (h a).symm⟩
/-- settled after a loss -/
def stM (M : mM) (r : Option Nat) : mM := match rgAct M r with
  | none => M
  | some g => if clr M g = true then tcM M g else taM M g
theorem stM_0 {M : mM} {r : Option Nat} (h : rgAct M r = none) : stM M r = M := by unfold stM; rw [h]
theorem stM_1 {M : mM} {r : Option Nat} {g : Nat} (h : rgAct M r = some g) (h2 : clr M g = true) : stM M r = tcM M g := by unfold stM; rw [h]; exact if_pos h2
theorem stM_2 {M : mM} {r : Option Nat} {g : Nat} (h : rgAct M r = some g) (h2 : ¬ clr M g = true) : stM M r = taM M g := by unfold stM; rw [h]; exact if_neg h2
theorem stM_gn (M : mM) (r : Option Nat) (a : Nat) : gn (stM M r) a = gn M a := by
  cases h : rgAct M r with
  | none => rw [stM_0 h]
  | some g =>
    by_cases h2 : clr M g = true
    · rw [stM_1 h h2]; exact tcM_gn _ _ _
    · rw [stM_2 h h2]; exact (taM_kp _ _).1 a
theorem stM_w {M : mM} (hw : wK M) (r : Option Nat) : wK (stM M r) := by
  cases h : rgAct M r with
  | none => rw [stM_0 h]; exact hw
  | some g =>
    by_cases h2 : clr M g = true
    · rw [stM_1 h h2]; exact tcM_w hw _
    · rw [stM_2 h h2]; exact kp_w (taM_kp _ _) hw
theorem stM_kq (M : mM) (r : Option Nat) : kq M (stM M r) := by
  cases h : rgAct M r with
  | none => rw [stM_0 h]; exact kq_rf _
  | some g =>
    by_cases h2 : clr M g = true
    · rw [stM_1 h h2]; exact tcM_kq _ _
    · rw [stM_2 h h2]; exact kp_q (taM_kp _ _)
theorem stM_wT {M : mM} (ht : wT M) (r : Option Nat) : wT (stM M r) := by
  cases h : rgAct M r with
  | none => rw [stM_0 h]; exact ht
  | some g =>
    by_cases h2 : clr M g = true
    · rw [stM_1 h h2]; exact tcM_wT ht _
    · rw [stM_2 h h2]; exact taM_wT ht _
theorem rgAct_lv {D : va_G} {dA : Nat → ClassId} {base : Nat} {M : mM} {ad : Nat → Nat → Nat} {H0 H : Heap} {locs : List Loc} (hM : mSt D dA base M ad H0 H locs) (hw : wK M) {r : Option Nat} : ∀ q, rgAct M r = some q → q < gn M 5 := by
  intro q h
  unfold rgAct at h
  cases hf : ff (fun i => decide (r ≠ none ∧ gr M 5 (rgx M i) 4 = r)) (nRg M) 0 with
  | none => rw [hf] at h; cases h
  | some i =>
    rw [hf] at h
    cases h
    have := ff_lt hf
    exact live_regs hM hw (by omega)
set_option maxHeartbeats 4000000 in
set_option maxRecDepth 100000 in
theorem k_K_removeRegistration (l : Launch) (D : va_G) (dA : Nat → ClassId) (base : Nat) (M : mM) (ad : Nat → Nat → Nat) (hw : wK M) (g : Nat) (hg : g < gn M 5) : mMet l y_K_removeRegistration b_K_removeRegistration 4 none ({ frames := 0, cells := 0, slots := 0, locals := 0 } : Room) 0 0 D dA base M ad [.ref (ad 0 0), .ref (ad 5 g)] (fun rv M' ad' => rv = none ∧ M' = rmM M g ∧ ad' = ad) := by
  refine m_start (lvs := [(0, .ref (ad 0 0)), (1, .ref (ad 5 g))]) (by decide) (Nat.le_of_ble_eq_true rfl) rfl ?_
  intro p e s m below meth c ls X hr hlk hin hml hM hl
  refine lv_iconst (v := 0) X.1 X.2.1 d_K_removeRegistration_0 (by decide) ?_
  refine lv_istore_n (lv' := [(2, .int 0), (0, .ref (ad 0 0)), (1, .ref (ad 5 g))]) X.1 X.2.1 d_K_removeRegistration_1 rfl hl (by decide) rfl (fun ls hl => ?_)
  refine lv_iconst (v := 0) X.1 X.2.1 d_K_removeRegistration_2 (by decide) ?_
  refine lv_istore_n (lv' := [(3, .int 0), (2, .int 0), (0, .ref (ad 0 0)), (1, .ref (ad 5 g))]) X.1 X.2.1 d_K_removeRegistration_3 rfl hl (by decide) rfl (fun ls hl => ?_)
  have hN := w_nrl hw
  refine w_upW (nRg M) (fun ls => F0 m 4 ls []) (fun i H L ls => mSt D dA base ((rmL M g i).1) ad s.heap H L ∧ lv_has ls 4 [(2, .int (nI (rmL M g i).2)), (3, .int (nI i)), (0, .ref (ad 0 0)), (1, .ref (ad 5 g))] ∧ True) ?_ ?_ 0 _ _ ls (by omega) ⟨hM, lv_sub hl [1, 0, 2, 3] rfl, trivial⟩
  · rintro H locs ls ⟨hM, hl, hI⟩
    obtain ⟨a1, a2, a3, a4, a5, a6⟩ := rmL_all M g (nRg M)
    have hk0 : 0 < gn (rmL M g (nRg M)).1 0 := by rw [a5]; exact w_k hw
    have hgI : g < gn (rmL M g (nRg M)).1 5 := by rw [a5]; exact hg
    have hr5 : gr (rmL M g (nRg M)).1 0 0 5 = some 0 := by rw [a3 _ _ _ (by decide)]; exact w_0_5 hw
    refine lv_iload_n X.1 X.2.1 d_K_removeRegistration_4 rfl (lv_at hl 1 rfl) ?_
    refine lv_aload_n X.1 X.2.1 d_K_removeRegistration_5 rfl (lv_at hl 2 rfl) ?_
    refine r_geti X hM rfl hk0 f_K_38 rfl d_K_removeRegistration_6 ?_
    refine lv_icmp_ge (tgt := 43) X.1 X.2.1 d_K_removeRegistration_9 (by decide) (fun hz51 => ?_) (fun hz51 => absurd (by rw [a4, w_nr hw]; exact Int32.le_refl _) hz51)
    refine lv_aload_n X.1 X.2.1 d_K_removeRegistration_43 rfl (lv_at hl 2 rfl) ?_
    refine lv_iload_n X.1 X.2.1 d_K_removeRegistration_44 rfl (lv_at hl 0 rfl) ?_
    refine r_puti X hM rfl hk0 p_K_38 rfl rfl rfl d_K_removeRegistration_45 (fun H locs hM => ?_)
    exact m_vret X hr hlk hM d_K_removeRegistration_48 ⟨Nat.le_of_ble_eq_true rfl, Nat.le_of_ble_eq_true rfl⟩ (gn_ext a5 ad) ⟨rfl, rfl, rfl⟩
  · rintro i hi ih H locs ls ⟨hM, hl, hI⟩
    obtain ⟨a1, a2, a3, a4, a5, a6⟩ := rmL_all M g i
    have hk0 : 0 < gn (rmL M g i).1 0 := by rw [a5]; exact w_k hw
    have hgI : g < gn (rmL M g i).1 5 := by rw [a5]; exact hg
    have hr5 : gr (rmL M g i).1 0 0 5 = some 0 := by rw [a3 _ _ _ (by decide)]; exact w_0_5 hw
    have hge : ¬ gi (rmL M g i).1 0 0 6 ≤ nI i := by rw [a4, w_nr hw]; exact nI_ge hi (by omega)
    have hrI : gr (rmL M g i).1 10 0 i = some (rgx M i) := (a2 i (Nat.le_refl _)).trans (w_rg hw hi)
    refine lv_iload_n X.1 X.2.1 d_K_removeRegistration_4 rfl (lv_at hl 1 rfl) ?_
    refine lv_aload_n X.1 X.2.1 d_K_removeRegistration_5 rfl (lv_at hl 2 rfl) ?_
    refine r_geti X hM rfl hk0 f_K_38 rfl d_K_removeRegistration_6 ?_
    refine lv_icmp_ge (tgt := 43) X.1 X.2.1 d_K_removeRegistration_9 (by decide) (fun hz51 => absurd hz51 hge) (fun hz51 => ?_)
    refine lv_aload_n X.1 X.2.1 d_K_removeRegistration_12 rfl (lv_at hl 2 rfl) ?_
    refine r_gets (q := 0) X hM rfl hk0 f_K_34 rfl hr5 d_K_removeRegistration_13 (fun hv52 => ?_)
    refine lv_iload_n X.1 X.2.1 d_K_removeRegistration_16 rfl (lv_at hl 1 rfl) ?_
    refine r_aald X hM rfl hv52 a_regs (fun _ => rfl) (j := i) rfl (by omega) d_K_removeRegistration_17 (fun hv53 => ?_)
    refine lv_aload_n X.1 X.2.1 d_K_removeRegistration_18 rfl (lv_at hl 3 rfl) ?_
    show W _ _ _ _ _ _ _ _ _ _ _ _ _ _ _ (F0 m 19 ls (rfv ad 5 (some g) :: rfv ad 5 (gr ((rmL M g i).1) 10 0 i) :: []))
    refine r_acmp_eq (tgt := 37) X.1 X.2.1 hM (k := 5) hv53 (fun z hz => by cases hz; exact hgI) d_K_removeRegistration_19 (by decide) (fun hq0 => ?_) (fun hq0 => ?_)
    · skip
      obtain ⟨xi, e_xi⟩ : ∃ z : Int32, z = (nI i) + 1 := ⟨_, rfl⟩
      refine lv_iinc (v := xi) (lv' := [(3, .int xi), (2, .int (nI (rmL M g i).2)), (0, .ref (ad 0 0)), (1, .ref (ad 5 g))]) X.1 X.2.1 d_K_removeRegistration_37 hl (k := 1) rfl (by rw [e_xi]; rfl) (by decide) rfl (fun ls hl => ?_)
      refine lv_goto (tgt := 4) X.1 X.2.1 d_K_removeRegistration_40 (by decide) ?_
      have e9 := e_xi.trans (nI_1 i)
      subst e9
      exact ih _ _ ls ⟨by rw [rmL_t hq0]; exact hM, by rw [rmL_t hq0]; exact lv_sub hl [1, 0, 2, 3] rfl, trivial⟩
    · skip
      refine lv_aload_n X.1 X.2.1 d_K_removeRegistration_22 rfl (lv_at hl 2 rfl) ?_
      refine r_gets (q := 0) X hM rfl hk0 f_K_34 rfl hr5 d_K_removeRegistration_23 (fun hv54 => ?_)
      refine lv_iload_n X.1 X.2.1 d_K_removeRegistration_26 rfl (lv_at hl 0 rfl) ?_
      refine lv_aload_n X.1 X.2.1 d_K_removeRegistration_27 rfl (lv_at hl 2 rfl) ?_
      refine r_gets (q := 0) X hM rfl hk0 f_K_34 rfl hr5 d_K_removeRegistration_28 (fun hv55 => ?_)
      refine lv_iload_n X.1 X.2.1 d_K_removeRegistration_31 rfl (lv_at hl 1 rfl) ?_
      refine r_aalds (q := (rgx M i)) X hM rfl hv55 a_regs (fun _ => rfl) (j := i) rfl (by omega) hrI d_K_removeRegistration_32 (fun hv56 => ?_)
      refine r_aast X hM rfl hv54 a_regs (fun _ => rfl) rfl rfl rfl hv56 (j := (rmL M g i).2) rfl (by omega) d_K_removeRegistration_33 (fun H locs hM => ?_)
      obtain ⟨xk, e_xk⟩ : ∃ z : Int32, z = (nI (rmL M g i).2) + 1 := ⟨_, rfl⟩
      refine lv_iinc (v := xk) (lv' := [(2, .int xk), (3, .int (nI i)), (0, .ref (ad 0 0)), (1, .ref (ad 5 g))]) X.1 X.2.1 d_K_removeRegistration_34 hl (k := 0) rfl (by rw [e_xk]; rfl) (by decide) rfl (fun ls hl => ?_)
      obtain ⟨xi, e_xi⟩ : ∃ z : Int32, z = (nI i) + 1 := ⟨_, rfl⟩
      refine lv_iinc (v := xi) (lv' := [(3, .int xi), (2, .int xk), (0, .ref (ad 0 0)), (1, .ref (ad 5 g))]) X.1 X.2.1 d_K_removeRegistration_37 hl (k := 1) rfl (by rw [e_xi]; rfl) (by decide) rfl (fun ls hl => ?_)
      refine lv_goto (tgt := 4) X.1 X.2.1 d_K_removeRegistration_40 (by decide) ?_
      have e9 := e_xi.trans (nI_1 i)
      subst e9
      have e8 := e_xk.trans (nI_1 _)
      subst e8
      exact ih _ _ ls ⟨by rw [rmL_f hq0, hrI]; exact hM, by rw [rmL_f hq0]; exact lv_sub hl [1, 0, 2, 3] rfl, trivial⟩
set_option maxHeartbeats 4000000 in
set_option maxRecDepth 100000 in
theorem k_K_tryClearing (l : Launch) (D : va_G) (dA : Nat → ClassId) (base : Nat) (M : mM) (ad : Nat → Nat → Nat) (hw : wK M) (ht : wT M) (g : Nat) (hg : g < gn M 5) : mMet l y_K_tryClearing b_K_tryClearing 2 (some FieldType.boolean) ({ frames := 4, cells := 0, slots := 0, locals := 120 } : Room) 0 0 D dA base M ad [.ref (ad 0 0), .ref (ad 5 g)] (fun rv M' ad' => rv = some (.int (if clr M g = true then 1 else 0)) ∧ M' = tcM M g ∧ ad' = ad) := by
  refine m_start (lvs := [(0, .ref (ad 0 0)), (1, .ref (ad 5 g))]) (by decide) (Nat.le_of_ble_eq_true rfl) rfl ?_
  intro p e s m below meth c ls X hr hlk hin hml hM hl
  refine lv_aload_n X.1 X.2.1 d_K_tryClearing_0 rfl (lv_at hl 1 rfl) ?_
  refine r_geti X hM rfl hg f_K_236 rfl d_K_tryClearing_1 ?_
  refine lv_if_eq (tgt := 25) X.1 X.2.1 d_K_tryClearing_4 (by decide) (fun h4 => ?_) (fun h4 => ?_)
  · skip
    refine lv_iconst (v := 0) X.1 X.2.1 d_K_tryClearing_25 (by decide) ?_
    exact m_zret X hr hlk hM (by first | rfl | decide) d_K_tryClearing_26 ⟨Nat.le_of_ble_eq_true rfl, Nat.le_of_ble_eq_true rfl⟩ (mExt_rf _ _) ⟨b0 (fun z => (of_decide_eq_true z).1 h4), (tcM_f (fun z => (of_decide_eq_true z).1 h4)).symm, rfl⟩
  · skip
    refine lv_aload_n X.1 X.2.1 d_K_tryClearing_7 rfl (lv_at hl 1 rfl) ?_
    refine r_getr X hM rfl hg f_K_199 rfl d_K_tryClearing_8 (fun hv1 => ?_)
    refine r_ifnonnull (tgt := 25) X.1 X.2.1 d_K_tryClearing_11 (by decide) (fun w2 h11 => ?_) (fun h11 => ?_)
    · skip
      refine lv_iconst (v := 0) X.1 X.2.1 d_K_tryClearing_25 (by decide) ?_
      exact m_zret X hr hlk hM (by first | rfl | decide) d_K_tryClearing_26 ⟨Nat.le_of_ble_eq_true rfl, Nat.le_of_ble_eq_true rfl⟩ (mExt_rf _ _) ⟨b0 (fun z => absurd (of_decide_eq_true z).2.1 (by rw [h11]; exact (fun u => nomatch u))), (tcM_f (fun z => absurd (of_decide_eq_true z).2.1 (by rw [h11]; exact (fun u => nomatch u)))).symm, rfl⟩
    · skip
      refine lv_aload_n X.1 X.2.1 d_K_tryClearing_14 rfl (lv_at hl 0 rfl) ?_
      refine lv_aload_n X.1 X.2.1 d_K_tryClearing_15 rfl (lv_at hl 1 rfl) ?_
      refine r_getr X hM rfl hg f_K_169 rfl d_K_tryClearing_16 (fun hv3 => ?_)
      refine r_cV (As := [rfv ad 7 (gr M 5 g 4)]) (rest := []) X hml hl.1 hM (k_K_controlledBy l D dA base M ad hw (gr M 5 g 4) hv3) c_K_251 v_K_controlledBy kc_K rfl (w_k hw) rfl (Nat.le_of_ble_eq_true rfl) ⟨rfl, rfl, Nat.le_of_ble_eq_true rfl, Nat.le_of_ble_eq_true rfl⟩ ⟨Nat.le_of_ble_eq_true rfl, Nat.le_of_ble_eq_true rfl⟩ d_K_tryClearing_19 ?_
      intro rv M1 ad1 H locs hP hM hE
      obtain ⟨e1, e2, e3⟩ := hP
      subst rv; subst M1; subst ad1
      show W _ _ _ _ _ _ _ _ _ _ _ _ _ _ _ (F0 m 22 ls [.int (nI (ctl M (gr M 5 g 4)))])
      refine lv_if_le (tgt := 27) X.1 X.2.1 d_K_tryClearing_22 (by decide) (fun h22 => ?_) (fun h22 => ?_)
      · skip
        refine lv_aload_n X.1 X.2.1 d_K_tryClearing_27 rfl (lv_at hl 0 rfl) ?_
        refine lv_aload_n X.1 X.2.1 d_K_tryClearing_28 rfl (lv_at hl 1 rfl) ?_
        refine r_getr X hM rfl hg f_K_196 rfl d_K_tryClearing_29 (fun hv5 => ?_)
        refine lv_iconst (v := 4) X.1 X.2.1 d_K_tryClearing_32 (by decide) ?_
        refine r_cV (As := [rfv ad 7 (gr M 5 g 3), .int 4]) (rest := []) X hml hl.1 hM (k_K_bring l D dA base M ad hw ht (gr M 5 g 3) hv5 4) c_K_334 v_K_bring kc_K rfl (w_k hw) rfl (Nat.le_of_ble_eq_true rfl) ⟨rfl, rfl, Nat.le_of_ble_eq_true rfl, Nat.le_of_ble_eq_true rfl⟩ ⟨Nat.le_of_ble_eq_true rfl, Nat.le_of_ble_eq_true rfl⟩ d_K_tryClearing_33 ?_
        intro rv M1 ad1 H locs hP hM hE
        obtain ⟨e1, e2, e3⟩ := hP
        subst rv; subst M1; subst ad1
        have hk1 := brM_kp M (gr M 5 g 3) 4
        have hw1 := kp_w hk1 hw
        have ht1 := brM_wT ht (gr M 5 g 3) 4
        show W _ _ _ _ _ _ _ _ _ _ _ _ _ _ _ (F0 m 36 ls [])
        refine lv_aload_n X.1 X.2.1 d_K_tryClearing_36 rfl (lv_at hl 0 rfl) ?_
        refine lv_aload_n X.1 X.2.1 d_K_tryClearing_37 rfl (lv_at hl 1 rfl) ?_
        refine r_getr X hM rfl (kp_lv hk1 hg) f_K_169 rfl d_K_tryClearing_38 (fun hv7 => ?_)
        refine lv_iconst (v := 4) X.1 X.2.1 d_K_tryClearing_41 (by decide) ?_
        refine r_cV (As := [rfv ad 7 (gr (tc1 M g) 5 g 4), .int 4]) (rest := []) X hml hl.1 hM (k_K_bring l D dA base (tc1 M g) ad hw1 ht1 (gr (tc1 M g) 5 g 4) hv7 4) c_K_334 v_K_bring kc_K rfl (kp_lv hk1 (w_k hw)) rfl (Nat.le_of_ble_eq_true rfl) ⟨rfl, rfl, Nat.le_of_ble_eq_true rfl, Nat.le_of_ble_eq_true rfl⟩ ⟨Nat.le_of_ble_eq_true rfl, Nat.le_of_ble_eq_true rfl⟩ d_K_tryClearing_42 ?_
        intro rv M1 ad1 H locs hP hM hE
        obtain ⟨e1, e2, e3⟩ := hP
        subst rv; subst M1; subst ad1
        have hk2 := brM_kp (tc1 M g) (gr (tc1 M g) 5 g 4) 4
        have hw2 := kp_w hk2 hw1
        show W _ _ _ _ _ _ _ _ _ _ _ _ _ _ _ (F0 m 45 ls [])
        refine lv_aload_n X.1 X.2.1 d_K_tryClearing_45 rfl (lv_at hl 0 rfl) ?_
        refine lv_aload_n X.1 X.2.1 d_K_tryClearing_46 rfl (lv_at hl 1 rfl) ?_
        refine r_cV (As := [.ref (ad 5 g)]) (rest := []) X hml hl.1 hM (k_K_removeRegistration l D dA base (brM (tc1 M g) (gr (tc1 M g) 5 g 4) 4) ad hw2 g (kp_lv hk2 (kp_lv hk1 hg))) c_K_339 v_K_removeRegistration kc_K rfl (kp_lv hk2 (kp_lv hk1 (w_k hw))) rfl (Nat.le_of_ble_eq_true rfl) ⟨rfl, rfl, Nat.le_of_ble_eq_true rfl, Nat.le_of_ble_eq_true rfl⟩ ⟨Nat.le_of_ble_eq_true rfl, Nat.le_of_ble_eq_true rfl⟩ d_K_tryClearing_47 ?_
        intro rv M1 ad1 H locs hP hM hE
        obtain ⟨e1, e2, e3⟩ := hP
        subst rv; subst M1; subst ad1
        show W _ _ _ _ _ _ _ _ _ _ _ _ _ _ _ (F0 m 50 ls [])
        refine lv_iconst (v := 1) X.1 X.2.1 d_K_tryClearing_50 (by decide) ?_
        have hcl : clr M g = true := decide_eq_true ⟨h4, h11, by have z8 := ctl_le M (gr M 5 g 4); exact nI_z (by omega) (Int32.le_antisymm h22 (Int32.not_lt.mp (nI_pos (by omega))))⟩
        exact m_zret X hr hlk hM (by first | rfl | decide) d_K_tryClearing_51 ⟨Nat.le_of_ble_eq_true rfl, Nat.le_of_ble_eq_true rfl⟩ (gn_ext (fun a => (tc2_gn _ _ a).trans ((brM_kp _ _ _).1 a)) ad) ⟨b1 hcl, (tcM_t hcl).symm, rfl⟩
      · skip
        refine lv_iconst (v := 0) X.1 X.2.1 d_K_tryClearing_25 (by decide) ?_
        exact m_zret X hr hlk hM (by first | rfl | decide) d_K_tryClearing_26 ⟨Nat.le_of_ble_eq_true rfl, Nat.le_of_ble_eq_true rfl⟩ (mExt_rf _ _) ⟨b0 (fun z => absurd (of_decide_eq_true z).2.2 (fun u => h22 (by rw [u]; decide))), (tcM_f (fun z => absurd (of_decide_eq_true z).2.2 (fun u => h22 (by rw [u]; decide)))).symm, rfl⟩
set_option maxHeartbeats 4000000 in
set_option maxRecDepth 100000 in
theorem k_K_settleAfterLoss (l : Launch) (D : va_G) (dA : Nat → ClassId) (base : Nat) (M : mM) (ad : Nat → Nat → Nat) (hw : wK M) (ht : wT M) (r : Option Nat) (hr0 : ∀ q, r = some q → q < gn M 7) : mMet l y_K_settleAfterLoss b_K_settleAfterLoss 3 none ({ frames := 5, cells := 0, slots := 0, locals := 160 } : Room) 0 0 D dA base M ad [.ref (ad 0 0), rfv ad 7 r] (fun rv M' ad' => rv = none ∧ M' = stM M r ∧ ad' = ad) := by
  refine m_start (lvs := [(0, .ref (ad 0 0)), (1, rfv ad 7 (r))]) (by decide) (by cases r <;> exact Nat.le_of_ble_eq_true rfl) (by cases r <;> rfl) ?_
  intro p e s m below meth c ls X hr hlk hin hml hM hl
  refine lv_aload_n X.1 X.2.1 d_K_settleAfterLoss_0 rfl (lv_at hl 0 rfl) ?_
  refine r_aload_n X.1 X.2.1 d_K_settleAfterLoss_1 rfl (lv_at hl 1 rfl) ?_
  refine r_cV (As := [rfv ad 7 (r)]) (rest := []) X hml hl.1 hM (k_K_registrationWithActive l D dA base M ad hw r hr0) c_K_342 v_K_registrationWithActive kc_K rfl (w_k hw) rfl (Nat.le_of_ble_eq_true rfl) ⟨rfl, rfl, Nat.le_of_ble_eq_true rfl, Nat.le_of_ble_eq_true rfl⟩ ⟨Nat.le_of_ble_eq_true rfl, Nat.le_of_ble_eq_true rfl⟩ d_K_settleAfterLoss_2 ?_
  intro rv M1 ad1 H locs hP hM hE
  obtain ⟨e1, e2, e3⟩ := hP
  subst rv; subst M1; subst ad1
  have hal := rgAct_lv hM hw (r := r)
  show W _ _ _ _ _ _ _ _ _ _ _ _ _ _ _ (F0 m 5 ls [rfv ad 5 (rgAct M r)])
  refine r_astore_n (lv' := [(2, rfv ad 5 (rgAct M r)), (0, .ref (ad 0 0)), (1, rfv ad 7 (r))]) X.1 X.2.1 d_K_settleAfterLoss_5 rfl hl (by decide) (by simp only [List.filter_cons, List.filter_nil, rfv_cat]; rfl) (fun ls hl => ?_)
  refine r_aload_n X.1 X.2.1 d_K_settleAfterLoss_6 rfl (lv_at hl 0 rfl) ?_
  refine r_ifnull (tgt := 23) X.1 X.2.1 d_K_settleAfterLoss_7 (by decide) (fun h7 => ?_) (fun g h7 => ?_)
  · skip
    rw [h7] at hl
    have hl : lv_has ls 3 [(2, .null), (0, .ref (ad 0 0)), (1, rfv ad 7 (r))] := hl
    exact m_vret X hr hlk hM d_K_settleAfterLoss_23 ⟨Nat.le_of_ble_eq_true rfl, Nat.le_of_ble_eq_true rfl⟩ (mExt_rf _ _) ⟨rfl, (stM_0 h7).symm, rfl⟩
  · skip
    rw [h7] at hl
    have hl : lv_has ls 3 [(2, .ref (ad 5 g)), (0, .ref (ad 0 0)), (1, rfv ad 7 (r))] := hl
    refine lv_aload_n X.1 X.2.1 d_K_settleAfterLoss_10 rfl (lv_at hl 1 rfl) ?_
    refine lv_aload_n X.1 X.2.1 d_K_settleAfterLoss_11 rfl (lv_at hl 0 rfl) ?_
    refine r_cV (As := [.ref (ad 5 g)]) (rest := []) X hml hl.1 hM (k_K_tryClearing l D dA base M ad hw ht g (hal g h7)) c_K_324 v_K_tryClearing kc_K rfl (w_k hw) rfl (Nat.le_of_ble_eq_true rfl) ⟨rfl, rfl, Nat.le_of_ble_eq_true rfl, Nat.le_of_ble_eq_true rfl⟩ ⟨Nat.le_of_ble_eq_true rfl, Nat.le_of_ble_eq_true rfl⟩ d_K_settleAfterLoss_12 ?_
    intro rv M1 ad1 H locs hP hM hE
    obtain ⟨e1, e2, e3⟩ := hP
    subst rv; subst M1; subst ad1
    show W _ _ _ _ _ _ _ _ _ _ _ _ _ _ _ (F0 m 15 ls [.int (if clr M g = true then 1 else 0)])
    refine lv_if_ne (tgt := 23) X.1 X.2.1 d_K_settleAfterLoss_15 (by decide) (fun h15 => ?_) (fun h15 => ?_)
    · skip
      exact m_vret X hr hlk hM d_K_settleAfterLoss_23 ⟨Nat.le_of_ble_eq_true rfl, Nat.le_of_ble_eq_true rfl⟩ (gn_ext (tcM_gn M g) ad) ⟨rfl, (stM_1 h7 (bn0 h15)).symm, rfl⟩
    · skip
      rw [tcM_f (be0 h15)] at hM
      refine lv_aload_n X.1 X.2.1 d_K_settleAfterLoss_18 rfl (lv_at hl 1 rfl) ?_
      refine lv_aload_n X.1 X.2.1 d_K_settleAfterLoss_19 rfl (lv_at hl 0 rfl) ?_
      refine r_cV (As := [.ref (ad 5 g)]) (rest := []) X hml hl.1 hM (k_K_tryActivation l D dA base M ad hw ht g (hal g h7)) c_K_207 v_K_tryActivation kc_K rfl (w_k hw) rfl (Nat.le_of_ble_eq_true rfl) ⟨rfl, rfl, Nat.le_of_ble_eq_true rfl, Nat.le_of_ble_eq_true rfl⟩ ⟨Nat.le_of_ble_eq_true rfl, Nat.le_of_ble_eq_true rfl⟩ d_K_settleAfterLoss_20 ?_
      intro rv M1 ad1 H locs hP hM hE
      obtain ⟨e1, e2, e3⟩ := hP
      subst rv; subst M1; subst ad1
      show W _ _ _ _ _ _ _ _ _ _ _ _ _ _ _ (F0 m 23 ls [])
      exact m_vret X hr hlk hM d_K_settleAfterLoss_23 ⟨Nat.le_of_ble_eq_true rfl, Nat.le_of_ble_eq_true rfl⟩ (kp_ext (taM_kp M g) ad) ⟨rfl, (stM_2 h7 (be0 h15)).symm, rfl⟩
end
section
theorem num_eq {M M' : mM} (hw : wK M) (hw' : wK M') (hn : gn M' 7 = gn M 7) {r : Option Nat} (hr0 : ∀ q, r = some q → q < gn M 7) : num M' r = num M r := by
  cases r with
  | none => rfl
  | some q =>
    have h := hr0 q rfl
    exact (w_num hw' (by rw [hn]; exact h)).trans (w_num hw h).symm
def cl0 (M : mM) (j : Nat) : mM := sr (si M 2 j 0 0) 2 j 2 none
theorem cl0_kp (M : mM) (j : Nat) : kp M (cl0 M j) := kp_tr (kp_si _ _ _ _ _ (by omega)) (kp_sr _ _ _ _ _ (by omega))
theorem cl0_wT {M : mM} (ht : wT M) (j : Nat) : wT (cl0 M j) := kt_w (M := M) rfl ht
def clM (M : mM) (j : Nat) : mM := stM (cl0 M j) (gr M 2 j 2)
theorem clM_w {M : mM} (hw : wK M) (j : Nat) : wK (clM M j) := stM_w (kp_w (cl0_kp M j) hw) _
theorem clM_wT {M : mM} (ht : wT M) (j : Nat) : wT (clM M j) := stM_wT (cl0_wT ht j) _
theorem clM_kq (M : mM) (j : Nat) : kq M (clM M j) := kq_tr (kp_q (cl0_kp M j)) (stM_kq _ _)
theorem clM_gn (M : mM) (j a : Nat) : gn (clM M j) a = gn M a := stM_gn _ _ _
/-- who skips -/
def skW (M : mM) (g : Nat) : Option Nat := match gr M 5 g 3 with
  | some n => some n
  | none => gr M 5 g 2
def skM (M : mM) (g w : Nat) : mM := taM (si M 7 w 6 1) g
theorem skM_kp (M : mM) (g w : Nat) : kp M (skM M g w) := kp_tr (kp_si _ _ _ _ _ (by omega)) (taM_kp _ _)
theorem skM_wT {M : mM} (ht : wT M) (g w : Nat) : wT (skM M g w) := taM_wT (kt_w (M := M) (M' := si M 7 w 6 1) rfl ht) _
/-- what skip or claim throw -/
def ndXc (M : mM) (x : Int32) (f : Nat → Option Nat) : Nat := if isP x = false then 1 else match rgOf M x with
  | none => 2
  | some g => if f g = none then 3 else 0
theorem ndXc_1 {M : mM} {x : Int32} {f : Nat → Option Nat} (h : isP x = false) : ndXc M x f = 1 := if_pos h
theorem ndXc_2 {M : mM} {x : Int32} {f : Nat → Option Nat} (h : isP x = true) (h2 : rgOf M x = none) : ndXc M x f = 2 := by
  unfold ndXc; rw [if_neg (by rw [h]; exact (fun z => nomatch z)), h2]
theorem ndXc_3 {M : mM} {x : Int32} {f : Nat → Option Nat} {g : Nat} (h : isP x = true) (h2 : rgOf M x = some g) (h3 : f g = none) : ndXc M x f = 3 := by
  unfold ndXc; rw [if_neg (by rw [h]; exact (fun z => nomatch z)), h2]; exact if_pos h3
theorem ndXc_0 {M : mM} {x : Int32} {f : Nat → Option Nat} {g : Nat} (h : isP x = true) (h2 : rgOf M x = some g) (h3 : f g ≠ none) : ndXc M x f = 0 := by
  unfold ndXc; rw [if_neg (by rw [h]; exact (fun z => nomatch z)), h2]; exact if_neg h3
def unM (M : mM) (x : Int32) : Int32 × mM := match rgOf M x with
  | none => (-2, M)
  | some g => if gi M 5 g 5 = 0 then (1, tcM (si M 5 g 5 1) g) else (-2, M)
def fi0 (M : mM) (g : Nat) : mM := sr M 5 g 2 none
theorem fi0_kp (M : mM) (g : Nat) : kp M (fi0 M g) := kp_sr _ _ _ _ _ (by omega)
theorem fi0_wT {M : mM} (ht : wT M) (g : Nat) : wT (fi0 M g) := kt_w (M := M) rfl ht
def fiA (M : mM) (g w : Nat) : mM := brM (fi0 M g) (some w) 4
def fiF (A : mM) (g : Nat) : mM := if nwst A g = none then rmM A g else A
theorem fiF_w {A : mM} (hw : wK A) (g : Nat) : wK (fiF A g) := by
  unfold fiF
  split
  · exact rmM_w hw g
  · exact hw
theorem fiF_wT {A : mM} (ht : wT A) (g : Nat) : wT (fiF A g) := by
  unfold fiF
  split
  · exact rmM_wT ht g
  · exact ht
theorem fiF_gn (A : mM) (g a : Nat) : gn (fiF A g) a = gn A a := by
  unfold fiF
  split
  · exact rmM_gn _ _ _
  · rfl
def fi1 (S : mM) (g w : Nat) : mM := sr (brM S (gr S 5 g 3) 4) 5 g 3 (some w)
theorem fi1_kp (S : mM) (g w : Nat) : kp S (fi1 S g w) := kp_tr (brM_kp _ _ _) (kp_sr _ _ _ _ _ (by omega))
theorem fi1_wT {S : mM} (ht : wT S) (g w : Nat) : wT (fi1 S g w) := kt_w (M := brM S (gr S 5 g 3) 4) rfl (brM_wT ht _ _)
def fi2 (S : mM) (g w : Nat) : mM := brM (fi1 S g w) (some w) 2
theorem fi2_kp (S : mM) (g w : Nat) : kp S (fi2 S g w) := kp_tr (fi1_kp _ _ _) (brM_kp _ _ _)
theorem fi2_wT {S : mM} (ht : wT S) (g w : Nat) : wT (fi2 S g w) := brM_wT (fi1_wT ht _ _) _ _
def fiG (M : mM) (g w : Nat) : Int32 × mM := if gi M 7 w 2 = 1 then (-3, fiF (fiA M g w) g) else (1, taM (fi2 (fi0 M g) g w) g)
def fiM (M : mM) (x : Int32) : Int32 × mM := match rgOf M x with
  | none => (-2, M)
  | some g => match gr M 5 g 2 with
    | none => (-2, M)
    | some w => fiG M g w
theorem unM_w {M : mM} (hw : wK M) (x : Int32) : wK (unM M x).2 := by
  unfold unM
  split
  · exact hw
  · split
    · exact tcM_w (kp_w (kp_si _ _ _ _ _ (by omega)) hw) _
    · exact hw
theorem unM_wT {M : mM} (ht : wT M) (x : Int32) : wT (unM M x).2 := by
  unfold unM
  split
  · exact ht
  · split
    · rename_i g _ _
      exact tcM_wT (kt_w (M := M) (M' := si M 5 g 5 1) rfl ht) _
    · exact ht
theorem unM_kq (M : mM) (x : Int32) : kq M (unM M x).2 := by
  unfold unM
  split
  · exact kq_rf _
  · split
    · exact kq_tr (kp_q (kp_si _ _ _ _ _ (by omega))) (tcM_kq _ _)
    · exact kq_rf _
theorem unM_gn (M : mM) (x : Int32) (a : Nat) : gn (unM M x).2 a = gn M a := by
  unfold unM
  split
  · rfl
  · split
    · exact tcM_gn _ _ _
    · rfl
theorem fiM_w {M : mM} (hw : wK M) (x : Int32) : wK (fiM M x).2 := by
  unfold fiM fiG
  split
  · exact hw
  · split
    · exact hw
    · split
      · exact fiF_w (kp_w (kp_tr (fi0_kp _ _) (brM_kp _ _ _)) hw) _
      · exact kp_w (kp_tr (kp_tr (fi0_kp _ _) (fi2_kp _ _ _)) (taM_kp _ _)) hw
theorem fiM_wT {M : mM} (ht : wT M) (x : Int32) : wT (fiM M x).2 := by
  unfold fiM fiG
  split
  · exact ht
  · split
    · exact ht
    · split
      · exact fiF_wT (brM_wT (fi0_wT ht _) _ _) _
      · exact taM_wT (fi2_wT (fi0_wT ht _) _ _) _
theorem fiF_kq (A : mM) (g : Nat) : kq A (fiF A g) := by
  unfold fiF
  split
  · exact rmM_kq _ _
  · exact kq_rf _
theorem fiM_kq (M : mM) (x : Int32) : kq M (fiM M x).2 := by
  unfold fiM fiG
  split
  · exact kq_rf _
  · split
    · exact kq_rf _
    · split
      · exact kq_tr (kp_q (kp_tr (fi0_kp _ _) (brM_kp _ _ _))) (fiF_kq _ _)
      · exact kp_q (kp_tr (kp_tr (fi0_kp _ _) (fi2_kp _ _ _)) (taM_kp _ _))
theorem fiM_gn (M : mM) (x : Int32) (a : Nat) : gn (fiM M x).2 a = gn M a := by
  unfold fiM fiG
  split
  · rfl
  · split
    · rfl
    · split
      · exact (fiF_gn _ _ _).trans ((brM_kp _ _ _).1 a)
      · exact (kp_tr (fi2_kp _ _ _) (taM_kp _ _)).1 a
set_option maxHeartbeats 4000000 in
set_option maxRecDepth 100000 in
theorem k_K_close (l : Launch) (hst : l.stackTraces = false) (D : va_G) (dA : Nat → ClassId) (base : Nat) (M : mM) (ad : Nat → Nat → Nat) (hw : wK M) (ht : wT M) (k : Int32) : mMetX l y_K_close b_K_close 4 (some FieldType.int) ({ frames := 7, cells := 2, slots := 12, locals := 220 } : Room) 2 12 D dA base M ad [.ref (ad 0 0), .int k] (fun rv M' ad' => cOk M k ∧ rv = some (.int (num M (gr M 2 k.toNatClampNeg 2))) ∧ M' = clM M k.toNatClampNeg ∧ ad' = ad) (fun E => ¬ cOk M k ∧ E = "java/util/NoSuchElementException") := by
  refine m_startX (lvs := [(0, .ref (ad 0 0)), (1, .int k)]) (by decide) (Nat.le_of_ble_eq_true rfl) rfl ?_
  intro p e s m below meth c ls X hr hlk hin hml hM hl hno
  have hk0 : 0 < gn M 0 := w_k hw
  refine lv_aload_n X.1 X.2.1 d_K_close_0 rfl (lv_at hl 0 rfl) ?_
  refine lv_iload_n X.1 X.2.1 d_K_close_1 rfl (lv_at hl 1 rfl) ?_
  refine r_cVX (As := [.int k]) (rest := []) X hml hl.1 hM (k_K_refuseNoClient l hst D dA base M ad hw k) c_K_176 cx_K_176 v_K_refuseNoClient kc_K rfl hk0 rfl (Nat.le_of_ble_eq_true rfl) ⟨rfl, rfl, Nat.le_of_ble_eq_true rfl, Nat.le_of_ble_eq_true rfl⟩ ⟨Nat.le_of_ble_eq_true rfl, Nat.le_of_ble_eq_true rfl⟩ d_K_close_2 (fun E ce q H locs hPx hM hy1 hy2 hy3 => m_out hM hlk hno hPx hy1 hy2 hy3 ⟨Nat.le_of_ble_eq_true rfl, Nat.le_of_ble_eq_true rfl⟩) ?_
  intro rv M1 ad1 H locs hP hM hE
  obtain ⟨hck, e1, e2, e3⟩ := hP
  subst rv; subst M1; subst ad1
  show W _ _ _ _ _ _ _ _ _ _ _ _ _ _ _ (F0 m 5 ls [])
  obtain ⟨j, hj, hxj⟩ : ∃ j : Nat, j < 8 ∧ k = nI j := by
    rcases pk_ix k (n := 8) (by omega) with u9 | u9 | ⟨j, u9, u8⟩
    · exact absurd u9 (Int32.not_lt.mpr hck.1)
    · exact absurd u9 (Int32.not_le.mpr hck.2.1)
    · exact ⟨j, u9, u8⟩
  have hcl : k.toNatClampNeg = j := by rw [hxj]; exact nI_clamp (by omega)
  refine lv_aload_n X.1 X.2.1 d_K_close_5 rfl (lv_at hl 0 rfl) ?_
  refine r_gets (q := 0) X hM rfl hk0 f_K_43 rfl (w_0_7 hw) d_K_close_6 (fun hv2 => ?_)
  refine lv_iload_n X.1 X.2.1 d_K_close_9 rfl (lv_at hl 1 rfl) ?_
  refine r_aalds (q := j) X hM rfl hv2 a_clients (fun _ => rfl) (j := j) hxj hj (w_cl hw hj) d_K_close_10 (fun hv3 => ?_)
  refine lv_astore_n (lv' := [(2, .ref (ad 2 j)), (0, .ref (ad 0 0)), (1, .int k)]) X.1 X.2.1 d_K_close_11 rfl hl (by decide) rfl (fun ls hl => ?_)
  refine lv_aload_n X.1 X.2.1 d_K_close_12 rfl (lv_at hl 0 rfl) ?_
  refine r_getr X hM rfl hv3 f_K_173 rfl d_K_close_13 (fun hv4 => ?_)
  refine r_astore_n (lv' := [(3, rfv ad 7 (gr M 2 j 2)), (2, .ref (ad 2 j)), (0, .ref (ad 0 0)), (1, .int k)]) X.1 X.2.1 d_K_close_16 rfl hl (by decide) rfl (fun ls hl => ?_)
  have hcv := hv4
  refine lv_aload_n X.1 X.2.1 d_K_close_17 rfl (lv_at hl 1 rfl) ?_
  refine lv_iconst (v := 0) X.1 X.2.1 d_K_close_18 (by decide) ?_
  refine r_puti X hM rfl hv3 p_K_163 rfl rfl rfl d_K_close_19 (fun H locs hM => ?_)
  refine lv_aload_n X.1 X.2.1 d_K_close_22 rfl (lv_at hl 1 rfl) ?_
  refine lv_null X.1 X.2.1 d_K_close_23 ?_
  refine r_putr X hM rfl hv3 p_K_173 rfl (x := none) (fun z hz => by cases hz) rfl rfl rfl d_K_close_24 (fun H locs hM => ?_)
  have hw1 := kp_w (cl0_kp M j) hw
  refine lv_aload_n X.1 X.2.1 d_K_close_27 rfl (lv_at hl 2 rfl) ?_
  refine r_aload_n X.1 X.2.1 d_K_close_28 rfl (lv_at hl 0 rfl) ?_
  refine r_cV (As := [rfv ad 7 (gr M 2 j 2)]) (rest := []) X hml hl.1 hM (k_K_settleAfterLoss l D dA base (cl0 M j) ad hw1 (cl0_wT ht j) (gr M 2 j 2) hv4) c_K_179 v_K_settleAfterLoss kc_K rfl hk0 rfl (Nat.le_of_ble_eq_true rfl) ⟨rfl, rfl, Nat.le_of_ble_eq_true rfl, Nat.le_of_ble_eq_true rfl⟩ ⟨Nat.le_of_ble_eq_true rfl, Nat.le_of_ble_eq_true rfl⟩ d_K_close_29 ?_
  intro rv M1 ad1 H locs hP hM hE
  obtain ⟨e1, e2, e3⟩ := hP
  subst rv; subst M1; subst ad1
  have hw2 := clM_w hw j
  show W _ _ _ _ _ _ _ _ _ _ _ _ _ _ _ (F0 m 32 ls [])
  refine r_aload_n X.1 X.2.1 d_K_close_32 rfl (lv_at hl 0 rfl) ?_
  refine r_cS (As := [rfv ad 7 (gr M 2 j 2)]) (rest := []) X hml hl.1 hM (k_K_numberOf l D dA base (clM M j) ad (gr M 2 j 2) (fun q z => by rw [clM_gn]; exact hcv q z)) c_K_183 v_K_numberOf rfl (Nat.le_of_ble_eq_true rfl) ⟨rfl, rfl, Nat.le_of_ble_eq_true rfl, Nat.le_of_ble_eq_true rfl⟩ ⟨Nat.le_of_ble_eq_true rfl, Nat.le_of_ble_eq_true rfl⟩ d_K_close_33 ?_
  intro rv M1 ad1 H locs hP hM hE
  obtain ⟨e1, e2, e3⟩ := hP
  subst rv; subst M1; subst ad1
  show W _ _ _ _ _ _ _ _ _ _ _ _ _ _ _ (F0 m 36 ls [.int (num (clM M j) (gr M 2 j 2))])
  refine vx_ret ?_
  exact m_iret X hr hlk hM d_K_close_36 ⟨Nat.le_of_ble_eq_true rfl, Nat.le_of_ble_eq_true rfl⟩ (gn_ext (clM_gn M j) ad) ⟨hck, by rw [num_eq hw hw2 (clM_gn M j 7) hcv, hcl], by rw [hcl], rfl⟩
set_option maxHeartbeats 4000000 in
set_option maxRecDepth 100000 in
theorem k_K_skip (l : Launch) (hst : l.stackTraces = false) (D : va_G) (dA : Nat → ClassId) (base : Nat) (M : mM) (ad : Nat → Nat → Nat) (hw : wK M) (ht : wT M) (x : Int32) : mMetX l y_K_skip b_K_skip 4 (some FieldType.int) ({ frames := 8, cells := 3, slots := 18, locals := 220 } : Room) 3 18 D dA base M ad [.ref (ad 0 0), .int x] (fun rv M' ad' => ∃ g w, ndXc M x (skW M) = 0 ∧ rgOf M x = some g ∧ skW M g = some w ∧ rv = some (.int (gi M 7 w 0)) ∧ M' = skM M g w ∧ ad' = ad) (fun E => (ndXc M x (skW M) = 1 ∧ E = "java/lang/IllegalArgumentException") ∨ (ndXc M x (skW M) = 2 ∧ E = "java/util/NoSuchElementException") ∨ (ndXc M x (skW M) = 3 ∧ E = "java/lang/IllegalStateException")) := by
  refine m_startX (lvs := [(0, .ref (ad 0 0)), (1, .int x)]) (by decide) (Nat.le_of_ble_eq_true rfl) rfl ?_
  intro p e s m below meth c ls X hr hlk hin hml hM hl hno
  have hk0 : 0 < gn M 0 := w_k hw
  refine lv_aload_n X.1 X.2.1 d_K_skip_0 rfl (lv_at hl 0 rfl) ?_
  refine lv_iload_n X.1 X.2.1 d_K_skip_1 rfl (lv_at hl 1 rfl) ?_
  refine r_cVX (As := [.int x]) (rest := []) X hml hl.1 hM (k_K_needRegistration l hst D dA base M ad hw x) c_K_187 cx_K_187 v_K_needRegistration kc_K rfl hk0 rfl (Nat.le_of_ble_eq_true rfl) ⟨rfl, rfl, Nat.le_of_ble_eq_true rfl, Nat.le_of_ble_eq_true rfl⟩ ⟨Nat.le_of_ble_eq_true rfl, Nat.le_of_ble_eq_true rfl⟩ d_K_skip_2 (fun E ce q H locs hPx hM hy1 hy2 hy3 => m_out hM hlk hno (by rcases hPx with ⟨z1, z2⟩ | ⟨z1, z2, z3⟩; exact Or.inl ⟨ndXc_1 z1, z2⟩; exact Or.inr (Or.inl ⟨ndXc_2 z1 z2, z3⟩)) hy1 hy2 hy3 ⟨Nat.le_of_ble_eq_true rfl, Nat.le_of_ble_eq_true rfl⟩) ?_
  intro rv M1 ad1 H locs hP hM hE
  obtain ⟨g, hp, hg, e1, e2, e3⟩ := hP
  subst rv; subst M1; subst ad1
  have hgl := rgOf_lv hM hw _ hg
  show W _ _ _ _ _ _ _ _ _ _ _ _ _ _ _ (F0 m 5 ls [.ref (ad 5 g)])
  refine lv_astore_n (lv' := [(2, .ref (ad 5 g)), (0, .ref (ad 0 0)), (1, .int x)]) X.1 X.2.1 d_K_skip_5 rfl hl (by decide) rfl (fun ls hl => ?_)
  refine lv_aload_n X.1 X.2.1 d_K_skip_6 rfl (lv_at hl 0 rfl) ?_
  refine r_getr X hM rfl hgl f_K_196 rfl d_K_skip_7 (fun hv2 => ?_)
  refine r_ifnull (tgt := 20) X.1 X.2.1 d_K_skip_10 (by decide) (fun h10 => ?_) (fun w h10 => ?_)
  · skip
    refine lv_aload_n X.1 X.2.1 d_K_skip_20 rfl (lv_at hl 0 rfl) ?_
    refine r_getr X hM rfl hgl f_K_199 rfl d_K_skip_21 (fun hv3 => ?_)
    refine r_astore_n (lv' := [(3, rfv ad 7 (gr M 5 g 2)), (2, .ref (ad 5 g)), (0, .ref (ad 0 0)), (1, .int x)]) X.1 X.2.1 d_K_skip_24 rfl hl (by decide) rfl (fun ls hl => ?_)
    refine r_aload_n X.1 X.2.1 d_K_skip_25 rfl (lv_at hl 0 rfl) ?_
    refine r_ifnonnull (tgt := 39) X.1 X.2.1 d_K_skip_26 (by decide) (fun w h26 => ?_) (fun h26 => ?_)
    · skip
      rw [h26] at hl
      have hl : lv_has ls 4 [(3, .ref (ad 7 w)), (2, .ref (ad 5 g)), (0, .ref (ad 0 0)), (1, .int x)] := hl
      have hsk : skW M g = some w := by unfold skW; rw [h10]; exact h26
      refine lv_aload_n X.1 X.2.1 d_K_skip_39 rfl (lv_at hl 0 rfl) ?_
      refine lv_iconst (v := 1) X.1 X.2.1 d_K_skip_40 (by decide) ?_
      refine r_puti X hM rfl (hv3 w h26) p_K_204 rfl rfl rfl d_K_skip_41 (fun H locs hM => ?_)
      refine lv_aload_n X.1 X.2.1 d_K_skip_44 rfl (lv_at hl 2 rfl) ?_
      refine lv_aload_n X.1 X.2.1 d_K_skip_45 rfl (lv_at hl 1 rfl) ?_
      refine r_cV (As := [.ref (ad 5 g)]) (rest := []) X hml hl.1 hM (k_K_tryActivation l D dA base (si M 7 w 6 1) ad (kp_w (kp_si M 7 w 6 1 (by omega)) hw) (kt_w (M := M) (M' := si M 7 w 6 1) rfl ht) g hgl) c_K_207 v_K_tryActivation kc_K rfl hk0 rfl (Nat.le_of_ble_eq_true rfl) ⟨rfl, rfl, Nat.le_of_ble_eq_true rfl, Nat.le_of_ble_eq_true rfl⟩ ⟨Nat.le_of_ble_eq_true rfl, Nat.le_of_ble_eq_true rfl⟩ d_K_skip_46 ?_
      intro rv M1 ad1 H locs hP hM hE
      obtain ⟨e1, e2, e3⟩ := hP
      subst rv; subst M1; subst ad1
      show W _ _ _ _ _ _ _ _ _ _ _ _ _ _ _ (F0 m 49 ls [])
      refine lv_aload_n X.1 X.2.1 d_K_skip_49 rfl (lv_at hl 0 rfl) ?_
      refine r_geti X hM rfl (kp_lv (taM_kp (si M 7 w 6 1) g) (hv3 w h26)) f_K_211 rfl d_K_skip_50 ?_
      refine vx_ret ?_
      exact m_iret X hr hlk hM d_K_skip_53 ⟨Nat.le_of_ble_eq_true rfl, Nat.le_of_ble_eq_true rfl⟩ (kp_ext (skM_kp M g w) ad) ⟨g, w, ndXc_0 hp hg (by rw [hsk]; exact (fun z => nomatch z)), hg, hsk, congrArg (fun z => some (Value.int z)) ((skM_kp M g w).2.2.2.2.1 w).1, rfl, rfl⟩
    · skip
      rw [h26] at hl
      have hl : lv_has ls 4 [(3, .null), (2, .ref (ad 5 g)), (0, .ref (ad 0 0)), (1, .int x)] := hl
      exact r_throw X hst hml hl.1 hM hlk hno t_K_124_202_128 d_K_skip_29 d_K_skip_32 d_K_skip_33 d_K_skip_35 d_K_skip_38 ⟨Nat.le_of_ble_eq_true rfl, Nat.le_of_ble_eq_true rfl, Nat.le_of_ble_eq_true rfl, Nat.le_of_ble_eq_true rfl⟩ ⟨Nat.le_of_ble_eq_true rfl, Nat.le_of_ble_eq_true rfl⟩ (Or.inr (Or.inr ⟨ndXc_3 hp hg (by unfold skW; rw [h10]; exact h26), rfl⟩))
  · skip
    refine lv_aload_n X.1 X.2.1 d_K_skip_13 rfl (lv_at hl 0 rfl) ?_
    refine r_gets (q := w) X hM rfl hgl f_K_196 rfl h10 d_K_skip_14 (fun hv5 => ?_)
    refine lv_goto (tgt := 24) X.1 X.2.1 d_K_skip_17 (by decide) ?_
    refine lv_astore_n (lv' := [(3, .ref (ad 7 w)), (2, .ref (ad 5 g)), (0, .ref (ad 0 0)), (1, .int x)]) X.1 X.2.1 d_K_skip_24 rfl hl (by decide) rfl (fun ls hl => ?_)
    refine lv_aload_n X.1 X.2.1 d_K_skip_25 rfl (lv_at hl 0 rfl) ?_
    refine lv_ifnonnull (tgt := 39) X.1 X.2.1 d_K_skip_26 (by decide) ?_
    have hsk : skW M g = some w := by unfold skW; rw [h10]
    refine lv_aload_n X.1 X.2.1 d_K_skip_39 rfl (lv_at hl 0 rfl) ?_
    refine lv_iconst (v := 1) X.1 X.2.1 d_K_skip_40 (by decide) ?_
    refine r_puti X hM rfl hv5 p_K_204 rfl rfl rfl d_K_skip_41 (fun H locs hM => ?_)
    refine lv_aload_n X.1 X.2.1 d_K_skip_44 rfl (lv_at hl 2 rfl) ?_
    refine lv_aload_n X.1 X.2.1 d_K_skip_45 rfl (lv_at hl 1 rfl) ?_
    refine r_cV (As := [.ref (ad 5 g)]) (rest := []) X hml hl.1 hM (k_K_tryActivation l D dA base (si M 7 w 6 1) ad (kp_w (kp_si M 7 w 6 1 (by omega)) hw) (kt_w (M := M) (M' := si M 7 w 6 1) rfl ht) g hgl) c_K_207 v_K_tryActivation kc_K rfl hk0 rfl (Nat.le_of_ble_eq_true rfl) ⟨rfl, rfl, Nat.le_of_ble_eq_true rfl, Nat.le_of_ble_eq_true rfl⟩ ⟨Nat.le_of_ble_eq_true rfl, Nat.le_of_ble_eq_true rfl⟩ d_K_skip_46 ?_
    intro rv M1 ad1 H locs hP hM hE
    obtain ⟨e1, e2, e3⟩ := hP
    subst rv; subst M1; subst ad1
    show W _ _ _ _ _ _ _ _ _ _ _ _ _ _ _ (F0 m 49 ls [])
    refine lv_aload_n X.1 X.2.1 d_K_skip_49 rfl (lv_at hl 0 rfl) ?_
    refine r_geti X hM rfl (kp_lv (taM_kp (si M 7 w 6 1) g) hv5) f_K_211 rfl d_K_skip_50 ?_
    refine vx_ret ?_
    exact m_iret X hr hlk hM d_K_skip_53 ⟨Nat.le_of_ble_eq_true rfl, Nat.le_of_ble_eq_true rfl⟩ (kp_ext (skM_kp M g w) ad) ⟨g, w, ndXc_0 hp hg (by rw [hsk]; exact (fun z => nomatch z)), hg, hsk, congrArg (fun z => some (Value.int z)) ((skM_kp M g w).2.2.2.2.1 w).1, rfl, rfl⟩
set_option maxHeartbeats 4000000 in
set_option maxRecDepth 100000 in
theorem k_K_unregister (l : Launch) (D : va_G) (dA : Nat → ClassId) (base : Nat) (M : mM) (ad : Nat → Nat → Nat) (hw : wK M) (ht : wT M) (x : Int32) : mMet l y_K_unregister b_K_unregister 3 (some FieldType.int) ({ frames := 5, cells := 0, slots := 0, locals := 160 } : Room) 0 0 D dA base M ad [.ref (ad 0 0), .int x] (fun rv M' ad' => rv = some (.int (unM M x).1) ∧ M' = (unM M x).2 ∧ ad' = ad) := by
  refine m_start (lvs := [(0, .ref (ad 0 0)), (1, .int x)]) (by decide) (Nat.le_of_ble_eq_true rfl) rfl ?_
  intro p e s m below meth c ls X hr hlk hin hml hM hl
  have hk0 : 0 < gn M 0 := w_k hw
  refine lv_aload_n X.1 X.2.1 d_K_unregister_0 rfl (lv_at hl 0 rfl) ?_
  refine lv_iload_n X.1 X.2.1 d_K_unregister_1 rfl (lv_at hl 1 rfl) ?_
  refine r_cV (As := [.int x]) (rest := []) X hml hl.1 hM (k_K_registrationOf l D dA base M ad hw x) c_K_286 v_K_registrationOf kc_K rfl hk0 rfl (Nat.le_of_ble_eq_true rfl) ⟨rfl, rfl, Nat.le_of_ble_eq_true rfl, Nat.le_of_ble_eq_true rfl⟩ ⟨Nat.le_of_ble_eq_true rfl, Nat.le_of_ble_eq_true rfl⟩ d_K_unregister_2 ?_
  intro rv M1 ad1 H locs hP hM hE
  obtain ⟨e1, e2, e3⟩ := hP
  subst rv; subst M1; subst ad1
  have hrl := rgOf_lv hM hw (x := x)
  show W _ _ _ _ _ _ _ _ _ _ _ _ _ _ _ (F0 m 5 ls [rfv ad 5 (rgOf M x)])
  refine r_astore_n (lv' := [(2, rfv ad 5 (rgOf M x)), (0, .ref (ad 0 0)), (1, .int x)]) X.1 X.2.1 d_K_unregister_5 rfl hl (by decide) rfl (fun ls hl => ?_)
  refine r_aload_n X.1 X.2.1 d_K_unregister_6 rfl (lv_at hl 0 rfl) ?_
  refine r_ifnull (tgt := 17) X.1 X.2.1 d_K_unregister_7 (by decide) (fun h7 => ?_) (fun g h7 => ?_)
  · skip
    rw [h7] at hl
    have hl : lv_has ls 3 [(2, .null), (0, .ref (ad 0 0)), (1, .int x)] := hl
    refine lv_bipush (v := (-2)) X.1 X.2.1 d_K_unregister_17 (by decide) ?_
    have hF : unM M x = (-2, M) := by unfold unM; rw [h7]
    exact m_iret X hr hlk hM d_K_unregister_19 ⟨Nat.le_of_ble_eq_true rfl, Nat.le_of_ble_eq_true rfl⟩ (mExt_rf _ _) ⟨by rw [hF], by rw [hF], rfl⟩
  · skip
    rw [h7] at hl
    have hl : lv_has ls 3 [(2, .ref (ad 5 g)), (0, .ref (ad 0 0)), (1, .int x)] := hl
    refine lv_aload_n X.1 X.2.1 d_K_unregister_10 rfl (lv_at hl 0 rfl) ?_
    refine r_geti X hM rfl (hrl g h7) f_K_236 rfl d_K_unregister_11 ?_
    refine lv_if_eq (tgt := 20) X.1 X.2.1 d_K_unregister_14 (by decide) (fun h14 => ?_) (fun h14 => ?_)
    · skip
      refine lv_aload_n X.1 X.2.1 d_K_unregister_20 rfl (lv_at hl 0 rfl) ?_
      refine lv_iconst (v := 1) X.1 X.2.1 d_K_unregister_21 (by decide) ?_
      refine r_puti X hM rfl (hrl g h7) p_K_236 rfl rfl rfl d_K_unregister_22 (fun H locs hM => ?_)
      refine lv_aload_n X.1 X.2.1 d_K_unregister_25 rfl (lv_at hl 1 rfl) ?_
      refine lv_aload_n X.1 X.2.1 d_K_unregister_26 rfl (lv_at hl 0 rfl) ?_
      refine r_cV (As := [.ref (ad 5 g)]) (rest := []) X hml hl.1 hM (k_K_tryClearing l D dA base (si M 5 g 5 1) ad (kp_w (kp_si M 5 g 5 1 (by omega)) hw) (kt_w (M := M) (M' := si M 5 g 5 1) rfl ht) g (hrl g h7)) c_K_324 v_K_tryClearing kc_K rfl hk0 rfl (Nat.le_of_ble_eq_true rfl) ⟨rfl, rfl, Nat.le_of_ble_eq_true rfl, Nat.le_of_ble_eq_true rfl⟩ ⟨Nat.le_of_ble_eq_true rfl, Nat.le_of_ble_eq_true rfl⟩ d_K_unregister_27 ?_
      intro rv M1 ad1 H locs hP hM hE
      obtain ⟨e1, e2, e3⟩ := hP
      subst rv; subst M1; subst ad1
      show W _ _ _ _ _ _ _ _ _ _ _ _ _ _ _ (F0 m 30 ls [.int (if clr (si M 5 g 5 1) g = true then 1 else 0)])
      refine lv_pop X.1 X.2.1 d_K_unregister_30 rfl ?_
      refine lv_iconst (v := 1) X.1 X.2.1 d_K_unregister_31 (by decide) ?_
      have hF : unM M x = (1, tcM (si M 5 g 5 1) g) := by unfold unM; rw [h7]; exact if_pos h14
      exact m_iret X hr hlk hM d_K_unregister_32 ⟨Nat.le_of_ble_eq_true rfl, Nat.le_of_ble_eq_true rfl⟩ (gn_ext (tcM_gn (si M 5 g 5 1) g) ad) ⟨by rw [hF], by rw [hF], rfl⟩
    · skip
      refine lv_bipush (v := (-2)) X.1 X.2.1 d_K_unregister_17 (by decide) ?_
      have hF : unM M x = (-2, M) := by unfold unM; rw [h7]; exact if_neg h14
      exact m_iret X hr hlk hM d_K_unregister_19 ⟨Nat.le_of_ble_eq_true rfl, Nat.le_of_ble_eq_true rfl⟩ (mExt_rf _ _) ⟨by rw [hF], by rw [hF], rfl⟩
set_option maxHeartbeats 4000000 in
set_option maxRecDepth 100000 in
theorem k_K_finishInstall (l : Launch) (D : va_G) (dA : Nat → ClassId) (base : Nat) (M : mM) (ad : Nat → Nat → Nat) (hw : wK M) (ht : wT M) (x : Int32) : mMet l y_K_finishInstall b_K_finishInstall 4 (some FieldType.int) ({ frames := 5, cells := 0, slots := 0, locals := 160 } : Room) 0 0 D dA base M ad [.ref (ad 0 0), .int x] (fun rv M' ad' => rv = some (.int (fiM M x).1) ∧ M' = (fiM M x).2 ∧ ad' = ad) := by
  refine m_start (lvs := [(0, .ref (ad 0 0)), (1, .int x)]) (by decide) (Nat.le_of_ble_eq_true rfl) rfl ?_
  intro p e s m below meth c ls X hr hlk hin hml hM hl
  have hk0 : 0 < gn M 0 := w_k hw
  refine lv_aload_n X.1 X.2.1 d_K_finishInstall_0 rfl (lv_at hl 0 rfl) ?_
  refine lv_iload_n X.1 X.2.1 d_K_finishInstall_1 rfl (lv_at hl 1 rfl) ?_
  refine r_cV (As := [.int x]) (rest := []) X hml hl.1 hM (k_K_registrationOf l D dA base M ad hw x) c_K_286 v_K_registrationOf kc_K rfl hk0 rfl (Nat.le_of_ble_eq_true rfl) ⟨rfl, rfl, Nat.le_of_ble_eq_true rfl, Nat.le_of_ble_eq_true rfl⟩ ⟨Nat.le_of_ble_eq_true rfl, Nat.le_of_ble_eq_true rfl⟩ d_K_finishInstall_2 ?_
  intro rv M1 ad1 H locs hP hM hE
  obtain ⟨e1, e2, e3⟩ := hP
  subst rv; subst M1; subst ad1
  have hrl := rgOf_lv hM hw (x := x)
  show W _ _ _ _ _ _ _ _ _ _ _ _ _ _ _ (F0 m 5 ls [rfv ad 5 (rgOf M x)])
  refine r_astore_n (lv' := [(2, rfv ad 5 (rgOf M x)), (0, .ref (ad 0 0)), (1, .int x)]) X.1 X.2.1 d_K_finishInstall_5 rfl hl (by decide) rfl (fun ls hl => ?_)
  refine r_aload_n X.1 X.2.1 d_K_finishInstall_6 rfl (lv_at hl 0 rfl) ?_
  refine r_ifnull (tgt := 17) X.1 X.2.1 d_K_finishInstall_7 (by decide) (fun h7 => ?_) (fun g h7 => ?_)
  · skip
    rw [h7] at hl
    have hl : lv_has ls 4 [(2, .null), (0, .ref (ad 0 0)), (1, .int x)] := hl
    refine lv_bipush (v := (-2)) X.1 X.2.1 d_K_finishInstall_17 (by decide) ?_
    have hF : fiM M x = (-2, M) := by unfold fiM; rw [h7]
    exact m_iret X hr hlk hM d_K_finishInstall_19 ⟨Nat.le_of_ble_eq_true rfl, Nat.le_of_ble_eq_true rfl⟩ (mExt_rf _ _) ⟨by rw [hF], by rw [hF], rfl⟩
  · skip
    rw [h7] at hl
    have hl : lv_has ls 4 [(2, .ref (ad 5 g)), (0, .ref (ad 0 0)), (1, .int x)] := hl
    refine lv_aload_n X.1 X.2.1 d_K_finishInstall_10 rfl (lv_at hl 0 rfl) ?_
    refine r_getr X hM rfl (hrl g h7) f_K_199 rfl d_K_finishInstall_11 (fun hv2 => ?_)
    refine r_ifnonnull (tgt := 20) X.1 X.2.1 d_K_finishInstall_14 (by decide) (fun w h14 => ?_) (fun h14 => ?_)
    · skip
      refine lv_aload_n X.1 X.2.1 d_K_finishInstall_20 rfl (lv_at hl 0 rfl) ?_
      refine r_gets (q := w) X hM rfl (hrl g h7) f_K_199 rfl h14 d_K_finishInstall_21 (fun hv3 => ?_)
      refine lv_astore_n (lv' := [(3, .ref (ad 7 w)), (2, .ref (ad 5 g)), (0, .ref (ad 0 0)), (1, .int x)]) X.1 X.2.1 d_K_finishInstall_24 rfl hl (by decide) rfl (fun ls hl => ?_)
      refine lv_aload_n X.1 X.2.1 d_K_finishInstall_25 rfl (lv_at hl 1 rfl) ?_
      refine lv_null X.1 X.2.1 d_K_finishInstall_26 ?_
      refine r_putr X hM rfl (hrl g h7) p_K_199 rfl (x := none) (fun z hz => by cases hz) rfl rfl rfl d_K_finishInstall_27 (fun H locs hM => ?_)
      have hw0 := kp_w (fi0_kp M g) hw
      have ht0 := fi0_wT ht g
      refine lv_aload_n X.1 X.2.1 d_K_finishInstall_30 rfl (lv_at hl 0 rfl) ?_
      refine r_geti X hM rfl hv3 f_K_338 rfl d_K_finishInstall_31 ?_
      refine lv_iconst (v := 1) X.1 X.2.1 d_K_finishInstall_34 (by decide) ?_
      refine lv_icmp_ne (tgt := 59) X.1 X.2.1 d_K_finishInstall_35 (by decide) (fun h35 => ?_) (fun h35 => ?_)
      · skip
        refine lv_aload_n X.1 X.2.1 d_K_finishInstall_59 rfl (lv_at hl 2 rfl) ?_
        refine lv_aload_n X.1 X.2.1 d_K_finishInstall_60 rfl (lv_at hl 1 rfl) ?_
        refine r_getr X hM rfl (hrl g h7) f_K_196 rfl d_K_finishInstall_61 (fun hv4 => ?_)
        refine lv_iconst (v := 4) X.1 X.2.1 d_K_finishInstall_64 (by decide) ?_
        refine r_cV (As := [rfv ad 7 (gr (fi0 M g) 5 g 3), .int 4]) (rest := []) X hml hl.1 hM (k_K_bring l D dA base (fi0 M g) ad hw0 ht0 (gr (fi0 M g) 5 g 3) hv4 4) c_K_334 v_K_bring kc_K rfl hk0 rfl (Nat.le_of_ble_eq_true rfl) ⟨rfl, rfl, Nat.le_of_ble_eq_true rfl, Nat.le_of_ble_eq_true rfl⟩ ⟨Nat.le_of_ble_eq_true rfl, Nat.le_of_ble_eq_true rfl⟩ d_K_finishInstall_65 ?_
        intro rv M1 ad1 H locs hP hM hE
        obtain ⟨e1, e2, e3⟩ := hP
        subst rv; subst M1; subst ad1
        have hkB := brM_kp (fi0 M g) (gr (fi0 M g) 5 g 3) 4
        show W _ _ _ _ _ _ _ _ _ _ _ _ _ _ _ (F0 m 68 ls [])
        refine lv_aload_n X.1 X.2.1 d_K_finishInstall_68 rfl (lv_at hl 1 rfl) ?_
        refine lv_aload_n X.1 X.2.1 d_K_finishInstall_69 rfl (lv_at hl 0 rfl) ?_
        refine r_putr X hM rfl (kp_lv hkB (hrl g h7)) p_K_196 rfl (x := (some w)) (fun z hz => by cases hz; exact (kp_lv hkB hv3)) rfl rfl rfl d_K_finishInstall_70 (fun H locs hM => ?_)
        have hw1 := kp_w (fi1_kp (fi0 M g) g w) hw0
        have ht1 := fi1_wT ht0 g w
        refine lv_aload_n X.1 X.2.1 d_K_finishInstall_73 rfl (lv_at hl 2 rfl) ?_
        refine lv_aload_n X.1 X.2.1 d_K_finishInstall_74 rfl (lv_at hl 0 rfl) ?_
        refine lv_iconst (v := 2) X.1 X.2.1 d_K_finishInstall_75 (by decide) ?_
        refine r_cV (As := [.ref (ad 7 w), .int 2]) (rest := []) X hml hl.1 hM (k_K_bring_s l D dA base (fi1 (fi0 M g) g w) ad hw1 ht1 w (kp_lv hkB hv3) 2) c_K_334 v_K_bring kc_K rfl (kp_lv hkB hk0) rfl (Nat.le_of_ble_eq_true rfl) ⟨rfl, rfl, Nat.le_of_ble_eq_true rfl, Nat.le_of_ble_eq_true rfl⟩ ⟨Nat.le_of_ble_eq_true rfl, Nat.le_of_ble_eq_true rfl⟩ d_K_finishInstall_76 ?_
        intro rv M1 ad1 H locs hP hM hE
        obtain ⟨e1, e2, e3⟩ := hP
        subst rv; subst M1; subst ad1
        have hkC := brM_kp (fi1 (fi0 M g) g w) (some w) 2
        have hw2 := kp_w hkC hw1
        have ht2 := brM_wT ht1 (some w) 2
        show W _ _ _ _ _ _ _ _ _ _ _ _ _ _ _ (F0 m 79 ls [])
        refine lv_aload_n X.1 X.2.1 d_K_finishInstall_79 rfl (lv_at hl 2 rfl) ?_
        refine lv_aload_n X.1 X.2.1 d_K_finishInstall_80 rfl (lv_at hl 1 rfl) ?_
        refine r_cV (As := [.ref (ad 5 g)]) (rest := []) X hml hl.1 hM (k_K_tryActivation l D dA base (fi2 (fi0 M g) g w) ad hw2 ht2 g (kp_lv hkC (kp_lv hkB (hrl g h7)))) c_K_207 v_K_tryActivation kc_K rfl (kp_lv hkC (kp_lv hkB hk0)) rfl (Nat.le_of_ble_eq_true rfl) ⟨rfl, rfl, Nat.le_of_ble_eq_true rfl, Nat.le_of_ble_eq_true rfl⟩ ⟨Nat.le_of_ble_eq_true rfl, Nat.le_of_ble_eq_true rfl⟩ d_K_finishInstall_81 ?_
        intro rv M1 ad1 H locs hP hM hE
        obtain ⟨e1, e2, e3⟩ := hP
        subst rv; subst M1; subst ad1
        show W _ _ _ _ _ _ _ _ _ _ _ _ _ _ _ (F0 m 84 ls [])
        refine lv_iconst (v := 1) X.1 X.2.1 d_K_finishInstall_84 (by decide) ?_
        have hF : fiM M x = (1, taM (fi2 (fi0 M g) g w) g) := by unfold fiM; rw [h7]; show (match gr M 5 g 2 with | none => _ | some w => _) = _; rw [h14]; show fiG M g w = _; unfold fiG; rw [if_neg (show ¬ gi M 7 w 2 = 1 from h35)]
        exact m_iret X hr hlk hM d_K_finishInstall_85 ⟨Nat.le_of_ble_eq_true rfl, Nat.le_of_ble_eq_true rfl⟩ (kp_ext (kp_tr (kp_tr (fi0_kp M g) (fi2_kp _ _ _)) (taM_kp _ _)) ad) ⟨by rw [hF], by rw [hF], rfl⟩
      · skip
        refine lv_aload_n X.1 X.2.1 d_K_finishInstall_38 rfl (lv_at hl 2 rfl) ?_
        refine lv_aload_n X.1 X.2.1 d_K_finishInstall_39 rfl (lv_at hl 0 rfl) ?_
        refine lv_iconst (v := 4) X.1 X.2.1 d_K_finishInstall_40 (by decide) ?_
        refine r_cV (As := [.ref (ad 7 w), .int 4]) (rest := []) X hml hl.1 hM (k_K_bring_s l D dA base (fi0 M g) ad hw0 ht0 w hv3 4) c_K_334 v_K_bring kc_K rfl hk0 rfl (Nat.le_of_ble_eq_true rfl) ⟨rfl, rfl, Nat.le_of_ble_eq_true rfl, Nat.le_of_ble_eq_true rfl⟩ ⟨Nat.le_of_ble_eq_true rfl, Nat.le_of_ble_eq_true rfl⟩ d_K_finishInstall_41 ?_
        intro rv M1 ad1 H locs hP hM hE
        obtain ⟨e1, e2, e3⟩ := hP
        subst rv; subst M1; subst ad1
        have hkA := brM_kp (fi0 M g) (some w) 4
        have hwA := kp_w hkA hw0
        show W _ _ _ _ _ _ _ _ _ _ _ _ _ _ _ (F0 m 44 ls [])
        refine lv_aload_n X.1 X.2.1 d_K_finishInstall_44 rfl (lv_at hl 1 rfl) ?_
        refine r_cV (As := []) (rest := []) X hml hl.1 hM (k_Rg_newest l D dA base (fiA M g w) ad g (kp_lv hkA (hrl g h7))) c_K_327 v_Rg_newest kc_Rg rfl (kp_lv hkA (hrl g h7)) rfl (Nat.le_of_ble_eq_true rfl) ⟨rfl, rfl, Nat.le_of_ble_eq_true rfl, Nat.le_of_ble_eq_true rfl⟩ ⟨Nat.le_of_ble_eq_true rfl, Nat.le_of_ble_eq_true rfl⟩ d_K_finishInstall_45 ?_
        intro rv M1 ad1 H locs hP hM hE
        obtain ⟨e1, e2, e3⟩ := hP
        subst rv; subst M1; subst ad1
        show W _ _ _ _ _ _ _ _ _ _ _ _ _ _ _ (F0 m 48 ls [rfv ad 7 (nwst (fiA M g w) g)])
        refine r_ifnonnull (tgt := 56) X.1 X.2.1 d_K_finishInstall_48 (by decide) (fun w10 h48 => ?_) (fun h48 => ?_)
        · skip
          refine lv_bipush (v := (-3)) X.1 X.2.1 d_K_finishInstall_56 (by decide) ?_
          have hF : fiM M x = (-3, fiA M g w) := by unfold fiM; rw [h7]; show (match gr M 5 g 2 with | none => _ | some w => _) = _; rw [h14]; show fiG M g w = _; unfold fiG; rw [if_pos (show gi M 7 w 2 = 1 from h35)]; unfold fiF; rw [if_neg (by rw [h48]; exact (fun z => nomatch z))]
          exact m_iret X hr hlk hM d_K_finishInstall_58 ⟨Nat.le_of_ble_eq_true rfl, Nat.le_of_ble_eq_true rfl⟩ (gn_ext (fun a => ((brM_kp (fi0 M g) (some w) 4).1 a)) ad) ⟨by rw [hF], by rw [hF], rfl⟩
        · skip
          refine lv_aload_n X.1 X.2.1 d_K_finishInstall_51 rfl (lv_at hl 2 rfl) ?_
          refine lv_aload_n X.1 X.2.1 d_K_finishInstall_52 rfl (lv_at hl 1 rfl) ?_
          refine r_cV (As := [.ref (ad 5 g)]) (rest := []) X hml hl.1 hM (k_K_removeRegistration l D dA base (fiA M g w) ad hwA g (kp_lv hkA (hrl g h7))) c_K_339 v_K_removeRegistration kc_K rfl (kp_lv hkA hk0) rfl (Nat.le_of_ble_eq_true rfl) ⟨rfl, rfl, Nat.le_of_ble_eq_true rfl, Nat.le_of_ble_eq_true rfl⟩ ⟨Nat.le_of_ble_eq_true rfl, Nat.le_of_ble_eq_true rfl⟩ d_K_finishInstall_53 ?_
          intro rv M1 ad1 H locs hP hM hE
          obtain ⟨e1, e2, e3⟩ := hP
          subst rv; subst M1; subst ad1
          show W _ _ _ _ _ _ _ _ _ _ _ _ _ _ _ (F0 m 56 ls [])
          refine lv_bipush (v := (-3)) X.1 X.2.1 d_K_finishInstall_56 (by decide) ?_
          have hF : fiM M x = (-3, rmM (fiA M g w) g) := by unfold fiM; rw [h7]; show (match gr M 5 g 2 with | none => _ | some w => _) = _; rw [h14]; show fiG M g w = _; unfold fiG; rw [if_pos (show gi M 7 w 2 = 1 from h35)]; unfold fiF; rw [if_pos h48]
          exact m_iret X hr hlk hM d_K_finishInstall_58 ⟨Nat.le_of_ble_eq_true rfl, Nat.le_of_ble_eq_true rfl⟩ (gn_ext (fun a => (rmM_gn _ _ a).trans ((brM_kp (fi0 M g) (some w) 4).1 a)) ad) ⟨by rw [hF], by rw [hF], rfl⟩
    · skip
      refine lv_bipush (v := (-2)) X.1 X.2.1 d_K_finishInstall_17 (by decide) ?_
      have hF : fiM M x = (-2, M) := by unfold fiM; rw [h7]; show (match gr M 5 g 2 with | none => _ | some w => _) = _; rw [h14]
      exact m_iret X hr hlk hM d_K_finishInstall_19 ⟨Nat.le_of_ble_eq_true rfl, Nat.le_of_ble_eq_true rfl⟩ (mExt_rf _ _) ⟨by rw [hF], by rw [hF], rfl⟩
end
section
theorem r_aastq {p : Program} {l : Launch} {e : Env} {R : Room} {s : State} {m : MethodId} {args : Array Value} {below : List Frame} {meth : Method} {c : Code} {H : Heap} {locs : List Loc} {cells slots : Nat} {Q : State → Prop} {cc : ByteArray} {pc : Nat} {ls : Array Slot} {rest : List Value} {D : va_G} {dA : Nat → ClassId} {base : Nat} {M : mM} {ad : Nat → Nat → Nat} {own : String} {H0 : Heap} (X : mCx D dA base p s m args c cc own) (hM : mSt D dA base M ad H0 H locs) {k i j a t n u ci : Nat} {r : vw_C} {o : Option Nat} (ha : ad k i = a) (hi : i < gn M k) (hA : aLk k t n (.object r.1)) (h0 : ∀ j, ft k j = u + 2) (hu : sh u = .inl ci) (hc : classes[ci]? = some r) (hq : ∀ q, o = some q → q < gn M u) {x : Int32} (hx : x = nI j) (hj : j < n) (hdg : decode cc pc = .ok (.aastore, 1))
    (kk : ∀ (H1 : Heap) (locs1 : List Loc), mSt D dA base (sr M k i j o) ad H0 H1 locs1 → W p l e R s m args below meth c H1 locs1 cells slots Q (F0 m (pc + 1) ls rest)) : W p l e R s m args below meth c H locs cells slots Q (F0 m pc ls (rfv ad u o :: .int x :: .ref a :: rest)) := by
  cases o with
  | none => exact r_aastN X hM ha hi hA h0 hx hj hdg kk
  | some q => exact r_aast X hM ha hi hA h0 hu hc rfl (hq q rfl) hx hj hdg kk
/-- a new registration, not yet in its place -/
def rgN (M : mM) (x : Int32) : mM := rgI (sn M 5) (gn M 5) x
theorem rgN_gn (M : mM) (x : Int32) (a : Nat) : gn (rgN M x) a = if a = 5 then gn M 5 + 1 else gn M a := rfl
theorem rgN_gi (M : mM) (x : Int32) {k i j : Nat} (h : ¬ (k = 5 ∧ i = gn M 5)) : gi (rgN M x) k i j = gi M k i j := by
  unfold rgN rgI
  simp only [gi_si, gi_sr, gi_sn]
  rw [if_neg (by omega), if_neg (by omega), if_neg (by omega), if_neg (by omega)]
theorem rgN_gr (M : mM) (x : Int32) {k i j : Nat} (h : ¬ (k = 5 ∧ i = gn M 5)) : gr (rgN M x) k i j = gr M k i j := by
  unfold rgN rgI
  simp only [gr_si, gr_sr, gr_sn]
  rw [if_neg (by omega), if_neg (by omega), if_neg (by omega), if_neg (by omega)]
def arM (M : mM) (x : Int32) : mM := si (sr (rgN M x) 10 0 (nRg M) (some (gn M 5))) 0 0 6 (nI (nRg M + 1))
theorem arM_gi (M : mM) (x : Int32) {k i j : Nat} (h : ¬ (k = 5 ∧ i = gn M 5)) (h2 : ¬ (k = 0 ∧ j = 6)) : gi (arM M x) k i j = gi M k i j := by
  unfold arM
  rw [gi_si, if_neg (by omega), gi_sr]; exact rgN_gi M x h
theorem arM_gr (M : mM) (x : Int32) {k i j : Nat} (h : ¬ (k = 5 ∧ i = gn M 5)) (h2 : ¬ (k = 10 ∧ j = nRg M)) : gr (arM M x) k i j = gr M k i j := by
  unfold arM
  rw [gr_si, gr_sr, if_neg (by omega)]; exact rgN_gr M x h
theorem arM_gn (M : mM) (x : Int32) (a : Nat) : gn (arM M x) a = if a = 5 then gn M 5 + 1 else gn M a := rfl
theorem arM_nRg {M : mM} (x : Int32) (h5 : nRg M < 5) : nRg (arM M x) = nRg M + 1 := nI_clamp (by omega)
theorem arM_rg (M : mM) (x : Int32) : gr (arM M x) 10 0 (nRg M) = some (gn M 5) := by
  unfold arM
  rw [gr_si, gr_sr, if_pos ⟨rfl, rfl, rfl⟩]
theorem arM_w {M : mM} (hw : wK M) (x : Int32) (h5 : nRg M < 5) : wK (arM M x) := by
  have en : ∀ a, a ≠ 5 → gn (arM M x) a = gn M a := fun a ha => by rw [arM_gn, if_neg ha]
  have e6 := arM_nRg x h5
  refine ⟨⟨by rw [en 0 (by decide)]; exact w_k hw, ?_, ?_, ?_, ?_, ?_, ?_, ?_, by rw [arM_gr M x (by omega) (by omega)]; exact w_3_0 hw⟩, fun i hi => by rw [arM_gr M x (by omega) (by omega)]; exact w_sc hw hi, fun i hi => by rw [arM_gr M x (by omega) (by omega)]; exact w_cl hw hi, ⟨?_, ?_, ?_⟩, ⟨?_, ?_, ?_⟩, ?_, ?_, ?_⟩
  · rw [arM_gr M x (by omega) (by omega)]; exact w_0_0 hw
  · rw [arM_gr M x (by omega) (by omega)]; exact w_0_3 hw
  · rw [arM_gr M x (by omega) (by omega)]; exact w_0_5 hw
  · rw [arM_gr M x (by omega) (by omega)]; exact w_0_7 hw
  · rw [arM_gr M x (by omega) (by omega)]; exact w_0_8 hw
  · rw [arM_gr M x (by omega) (by omega)]; exact w_0_9 hw
  · rw [arM_gr M x (by omega) (by omega)]; exact w_0_11 hw
  · rw [arM_gi M x (by omega) (by omega), en 7 (by decide)]; exact w_nw hw
  · rw [en 7 (by decide)]; exact w_nwl hw
  · intro i hi
    rw [en 7 (by decide)] at hi
    rw [arM_gr M x (by omega) (by omega), arM_gr M x (by omega) (by omega), arM_gr M x (by omega) (by omega), arM_gr M x (by omega) (by omega), arM_gi M x (by omega) (by omega)]
    exact ⟨w_wk hw hi, w_num hw hi, w_7_4 hw hi, w_6_0 hw hi, w_6_1 hw hi⟩
  · rw [e6]; rfl
  · rw [e6]; omega
  · intro i hi
    rw [e6] at hi
    unfold rgx
    by_cases h : i = nRg M
    · subst h; rw [arM_rg]; rfl
    · rw [arM_gr M x (by omega) (by omega), w_rg hw (by omega)]; rfl
  · rw [arM_gi M x (by omega) (by omega), en 4 (by decide)]; exact w_nj hw
  · rw [en 4 (by decide)]; exact w_njl hw
  · intro i hi
    rw [en 4 (by decide)] at hi
    rw [arM_gr M x (by omega) (by omega), arM_gi M x (by omega) (by omega)]
    exact ⟨w_jb hw hi, w_jn hw hi⟩
theorem arM_wT {M : mM} (ht : wT M) (x : Int32) : wT (arM M x) := kt_w (M := M) (arM_gi M x (by omega) (by omega)) ht
theorem arM_new (M : mM) (x : Int32) : gi (arM M x) 5 (gn M 5) 0 = x ∧ gi (arM M x) 5 (gn M 5) 1 = 0 ∧ gi (arM M x) 5 (gn M 5) 5 = 0 ∧ gr (arM M x) 5 (gn M 5) 2 = none ∧ gr (arM M x) 5 (gn M 5) 3 = none ∧ gr (arM M x) 5 (gn M 5) 4 = none := by
  unfold arM rgN rgI
  refine ⟨?_, ?_, ?_, ?_, ?_, ?_⟩ <;> simp [gi_si, gi_sr, gr_si, gr_sr]
theorem arM_o {M : mM} (ho : wO M) (x : Int32) : wO (arM M x) := by
  refine ⟨ho.1, fun i hi => ?_, fun i hi => ?_, fun i hi => ?_, by rw [arM_gi M x (by omega) (by omega)]; exact ho.2.2.2.2⟩
  · by_cases h : i = gn M 5
    · subst h; exact ⟨0, by decide, (arM_new M x).2.1⟩
    · rw [arM_gi M x (by omega) (by omega)]
      rw [arM_gn, if_pos rfl] at hi
      exact ho.2.1 i (by omega)
  · rw [arM_gi M x (by omega) (by omega)]; exact ho.2.2.1 i hi
  · rw [arM_gi M x (by omega) (by omega)]; exact ho.2.2.2.1 i hi
/-- a new worker, not yet in its place -/
def wkN (M : mM) (k : Nat) : mM := wkI (sn M 7) (gn M 7) (gi M 0 0 4 + 1) k
theorem wkN_gn (M : mM) (k a : Nat) : gn (wkN M k) a = if a = 7 ∨ a = 6 ∨ a = 15 ∨ a = 16 then gn M a + 1 else gn M a := by
  unfold wkN wkI caI
  simp only [gn_si, gn_sr, gn_sn]
  by_cases h7 : a = 7
  · subst h7; simp
  by_cases h6 : a = 6
  · subst h6; simp
  by_cases h15 : a = 15
  · subst h15; simp
  by_cases h16 : a = 16
  · subst h16; simp
  simp [h7, h6, h15, h16]
theorem wkN_gi (M : mM) (q : Nat) {k i j : Nat} (h : ¬ ((k = 7 ∨ k = 6 ∨ k = 15 ∨ k = 16) ∧ i = gn M k)) : gi (wkN M q) k i j = gi M k i j := by
  have h7 : ¬ (k = 7 ∧ i = gn M 7) := fun z => h ⟨Or.inl z.1, by rw [z.1]; exact z.2⟩
  have h6 : ¬ (k = 6 ∧ i = gn M 6) := fun z => h ⟨Or.inr (Or.inl z.1), by rw [z.1]; exact z.2⟩
  have h15 : ¬ (k = 15 ∧ i = gn M 15) := fun z => h ⟨Or.inr (Or.inr (Or.inl z.1)), by rw [z.1]; exact z.2⟩
  have h16 : ¬ (k = 16 ∧ i = gn M 16) := fun z => h ⟨Or.inr (Or.inr (Or.inr z.1)), by rw [z.1]; exact z.2⟩
  unfold wkN wkI caI
  generalize hz0 : gi M 0 0 4 + 1 = z0
  simp only [gi_si, gi_sr, gi_sn, gn_si, gn_sr, gn_sn]
  simp only [show ∀ b, (k = 7 ∧ i = gn M 7 ∧ b) = False from fun b => eq_false (fun z => h7 ⟨z.1, z.2.1⟩), show ∀ b, (k = 6 ∧ i = gn M 6 ∧ b) = False from fun b => eq_false (fun z => h6 ⟨z.1, z.2.1⟩), eq_false h7, eq_false h6, eq_false h15, eq_false h16, show ((6 : Nat) = 7) = False from eq_false (by decide), show ((15 : Nat) = 7) = False from eq_false (by decide), show ((15 : Nat) = 6) = False from eq_false (by decide), show ((16 : Nat) = 7) = False from eq_false (by decide), show ((16 : Nat) = 6) = False from eq_false (by decide), show ((16 : Nat) = 15) = False from eq_false (by decide), if_false]
theorem wkN_gr (M : mM) (q : Nat) {k i j : Nat} (h : ¬ ((k = 7 ∨ k = 6 ∨ k = 15 ∨ k = 16) ∧ i = gn M k)) : gr (wkN M q) k i j = gr M k i j := by
  have h7 : ¬ (k = 7 ∧ i = gn M 7) := fun z => h ⟨Or.inl z.1, by rw [z.1]; exact z.2⟩
  have h6 : ¬ (k = 6 ∧ i = gn M 6) := fun z => h ⟨Or.inr (Or.inl z.1), by rw [z.1]; exact z.2⟩
  have h15 : ¬ (k = 15 ∧ i = gn M 15) := fun z => h ⟨Or.inr (Or.inr (Or.inl z.1)), by rw [z.1]; exact z.2⟩
  have h16 : ¬ (k = 16 ∧ i = gn M 16) := fun z => h ⟨Or.inr (Or.inr (Or.inr z.1)), by rw [z.1]; exact z.2⟩
  unfold wkN wkI caI
  simp only [gr_si, gr_sr, gr_sn, gn_si, gn_sr, gn_sn]
  simp only [show ∀ b, (k = 7 ∧ i = gn M 7 ∧ b) = False from fun b => eq_false (fun z => h7 ⟨z.1, z.2.1⟩), show ∀ b, (k = 6 ∧ i = gn M 6 ∧ b) = False from fun b => eq_false (fun z => h6 ⟨z.1, z.2.1⟩), eq_false h7, eq_false h6, eq_false h15, eq_false h16, show ((6 : Nat) = 7) = False from eq_false (by decide), show ((15 : Nat) = 7) = False from eq_false (by decide), show ((15 : Nat) = 6) = False from eq_false (by decide), show ((16 : Nat) = 7) = False from eq_false (by decide), show ((16 : Nat) = 6) = False from eq_false (by decide), show ((16 : Nat) = 15) = False from eq_false (by decide), if_false]
theorem wkN_new (M : mM) (k : Nat) : gi (wkN M k) 7 (gn M 7) 0 = gi M 0 0 4 + 1 ∧ gi (wkN M k) 7 (gn M 7) 1 = gi M 1 k 0 ∧ gi (wkN M k) 7 (gn M 7) 2 = gi M 1 k 2 ∧ gi (wkN M k) 7 (gn M 7) 3 = gi M 1 k 3 ∧ gi (wkN M k) 7 (gn M 7) 5 = 1 ∧ gi (wkN M k) 7 (gn M 7) 6 = 0 ∧ gr (wkN M k) 7 (gn M 7) 4 = some (gn M 6) ∧ gr (wkN M k) 6 (gn M 6) 0 = some (gn M 15) ∧ gr (wkN M k) 6 (gn M 6) 1 = some (gn M 16) ∧ gi (wkN M k) 6 (gn M 6) 2 = 0 := by
  unfold wkN wkI caI
  refine ⟨?_, ?_, ?_, ?_, ?_, ?_, ?_, ?_, ?_, ?_⟩ <;> simp [gi_si, gi_sr, gi_sn, gr_si, gr_sr, gr_sn, gn_si, gn_sr, gn_sn]
def bi0 (M : mM) (g k : Nat) : mM := sr (si (sr (wkN M k) 9 0 (gn M 7) (some (gn M 7))) 0 0 4 (nI (gn M 7 + 1))) 5 g 2 (some (gn M 7))
theorem bi0_gn (M : mM) (g k a : Nat) : gn (bi0 M g k) a = if a = 7 ∨ a = 6 ∨ a = 15 ∨ a = 16 then gn M a + 1 else gn M a := wkN_gn M k a
theorem bi0_gi (M : mM) (g q : Nat) {k i j : Nat} (h : ¬ ((k = 7 ∨ k = 6 ∨ k = 15 ∨ k = 16) ∧ i = gn M k)) (h2 : ¬ (k = 0 ∧ j = 4)) : gi (bi0 M g q) k i j = gi M k i j := by
  unfold bi0
  rw [gi_sr, gi_si, if_neg (by omega), gi_sr]; exact wkN_gi M q h
theorem bi0_gr (M : mM) (g q : Nat) {k i j : Nat} (h : ¬ ((k = 7 ∨ k = 6 ∨ k = 15 ∨ k = 16) ∧ i = gn M k)) (h2 : ¬ (k = 9 ∧ j = gn M 7)) (h3 : ¬ (k = 5 ∧ i = g ∧ j = 2)) : gr (bi0 M g q) k i j = gr M k i j := by
  unfold bi0
  rw [gr_sr, if_neg (by omega), gr_si, gr_sr, if_neg (by omega)]; exact wkN_gr M q h
theorem bi0_new (M : mM) (g k : Nat) : gi (bi0 M g k) 7 (gn M 7) 0 = gi M 0 0 4 + 1 ∧ gi (bi0 M g k) 7 (gn M 7) 1 = gi M 1 k 0 ∧ gi (bi0 M g k) 7 (gn M 7) 2 = gi M 1 k 2 ∧ gi (bi0 M g k) 7 (gn M 7) 3 = gi M 1 k 3 ∧ gi (bi0 M g k) 7 (gn M 7) 5 = 1 ∧ gi (bi0 M g k) 7 (gn M 7) 6 = 0 ∧ gr (bi0 M g k) 7 (gn M 7) 4 = some (gn M 6) ∧ gr (bi0 M g k) 6 (gn M 6) 0 = some (gn M 15) ∧ gr (bi0 M g k) 6 (gn M 6) 1 = some (gn M 16) ∧ gi (bi0 M g k) 6 (gn M 6) 2 = 0 := by
  obtain ⟨h0, h1, h2, h3, h4, h5, h6, h7, h8, h9⟩ := wkN_new M k
  unfold bi0
  simp only [gi_sr, gi_si, gr_sr, gr_si]
  refine ⟨?_, ?_, ?_, ?_, ?_, ?_, ?_, ?_, ?_, ?_⟩ <;> simp [h0, h1, h2, h3, h4, h5, h6, h7, h8, h9]
theorem bi0_w {M : mM} (hw : wK M) (ho : wO M) (g k : Nat) (h40 : gn M 7 < 40) : wK (bi0 M g k) := by
  have en : ∀ a, ¬ (a = 7 ∨ a = 6 ∨ a = 15 ∨ a = 16) → gn (bi0 M g k) a = gn M a := fun a ha => by rw [bi0_gn, if_neg ha]
  have e7 : gn (bi0 M g k) 7 = gn M 7 + 1 := by rw [bi0_gn, if_pos (by omega)]
  have e6 : nRg (bi0 M g k) = nRg M := by unfold nRg; rw [bi0_gi M g k (by omega) (by omega)]
  have er : ∀ i, rgx (bi0 M g k) i = rgx M i := fun i => by unfold rgx; rw [bi0_gr M g k (by omega) (by omega) (by omega)]
  obtain ⟨n0, n1, n2, n3, n4, n5, n6, n7, n8, n9⟩ := bi0_new M g k
  refine ⟨⟨by rw [en 0 (by omega)]; exact w_k hw, ?_, ?_, ?_, ?_, ?_, ?_, ?_, by rw [bi0_gr M g k (by omega) (by omega) (by omega)]; exact w_3_0 hw⟩, fun i hi => by rw [bi0_gr M g k (by omega) (by omega) (by omega)]; exact w_sc hw hi, fun i hi => by rw [bi0_gr M g k (by omega) (by omega) (by omega)]; exact w_cl hw hi, ⟨?_, ?_, ?_⟩, ⟨?_, ?_, ?_⟩, ?_, ?_, ?_⟩
  · rw [bi0_gr M g k (by omega) (by omega) (by omega)]; exact w_0_0 hw
  · rw [bi0_gr M g k (by omega) (by omega) (by omega)]; exact w_0_3 hw
  · rw [bi0_gr M g k (by omega) (by omega) (by omega)]; exact w_0_5 hw
  · rw [bi0_gr M g k (by omega) (by omega) (by omega)]; exact w_0_7 hw
  · rw [bi0_gr M g k (by omega) (by omega) (by omega)]; exact w_0_8 hw
  · rw [bi0_gr M g k (by omega) (by omega) (by omega)]; exact w_0_9 hw
  · rw [bi0_gr M g k (by omega) (by omega) (by omega)]; exact w_0_11 hw
  · rw [e7]; rfl
  · rw [e7]; omega
  · intro i hi
    rw [e7] at hi
    by_cases h : i = gn M 7
    · have h9 : gr (bi0 M g k) 9 0 (gn M 7) = some (gn M 7) := by
        unfold bi0
        rw [gr_sr, if_neg (by omega), gr_si, gr_sr, if_pos ⟨rfl, rfl, rfl⟩]
      rw [ho.1.1] at n6 n7 n8
      rw [ho.1.2.1] at n7
      rw [ho.1.2.2] at n8
      subst h
      exact ⟨h9, by rw [n0, w_nw hw, nI_1], n6, n7, n8⟩
    · have hi : i < gn M 7 := by omega
      rw [bi0_gr M g k (k := 9) (by omega) (by omega) (by omega), bi0_gr M g k (k := 7) (by omega) (by omega) (by omega), bi0_gr M g k (k := 6) (by rw [ho.1.1]; omega) (by omega) (by omega), bi0_gr M g k (k := 6) (by rw [ho.1.1]; omega) (by omega) (by omega), bi0_gi M g k (k := 7) (by omega) (by omega)]
      exact ⟨w_wk hw hi, w_num hw hi, w_7_4 hw hi, w_6_0 hw hi, w_6_1 hw hi⟩
  · rw [e6, bi0_gi M g k (by omega) (by omega)]; exact w_nr hw
  · rw [e6]; exact w_nrl hw
  · intro i hi
    rw [e6] at hi
    rw [er, bi0_gr M g k (by omega) (by omega) (by omega)]; exact w_rg hw hi
  · rw [bi0_gi M g k (by omega) (by omega), en 4 (by omega)]; exact w_nj hw
  · rw [en 4 (by omega)]; exact w_njl hw
  · intro i hi
    rw [en 4 (by omega)] at hi
    rw [bi0_gr M g k (by omega) (by omega) (by omega), bi0_gi M g k (by omega) (by omega)]
    exact ⟨w_jb hw hi, w_jn hw hi⟩
theorem bi0_wT {M : mM} (ht : wT M) (g k : Nat) : wT (bi0 M g k) := kt_w (M := M) (bi0_gi M g k (by omega) (by omega)) ht
theorem bi0_o {M : mM} (ho : wO M) (g k : Nat) : wO (bi0 M g k) := by
  have en : ∀ a, ¬ (a = 7 ∨ a = 6 ∨ a = 15 ∨ a = 16) → gn (bi0 M g k) a = gn M a := fun a ha => by rw [bi0_gn, if_neg ha]
  have ep : ∀ a, (a = 7 ∨ a = 6 ∨ a = 15 ∨ a = 16) → gn (bi0 M g k) a = gn M a + 1 := fun a ha => by rw [bi0_gn, if_pos ha]
  refine ⟨⟨by rw [ep 6 (by omega), ep 7 (by omega), ho.1.1], by rw [ep 15 (by omega), ep 7 (by omega), ho.1.2.1], by rw [ep 16 (by omega), ep 7 (by omega), ho.1.2.2]⟩, fun i hi => ?_, fun i hi => ?_, fun i hi => ?_, by rw [bi0_gi M g k (by omega) (by omega)]; exact ho.2.2.2.2⟩
  · rw [en 5 (by omega)] at hi; rw [bi0_gi M g k (by omega) (by omega)]; exact ho.2.1 i hi
  · rw [en 4 (by omega)] at hi; rw [bi0_gi M g k (by omega) (by omega)]; exact ho.2.2.1 i hi
  · rw [ep 7 (by omega)] at hi
    by_cases h : i = gn M 7
    · subst h
      have n9 := (bi0_new M g k).2.2.2.2.2.2.2.2.2
      rw [ho.1.1] at n9
      exact ⟨0, by decide, n9⟩
    · rw [bi0_gi M g k (k := 6) (by rw [ho.1.1]; omega) (by omega)]; exact ho.2.2.2.1 i (by omega)
/-- an install begins -/
def biM (M : mM) (g k : Nat) : mM := brM (bi0 M g k) (some (gn M 7)) 1
theorem biM_w {M : mM} (hw : wK M) (ho : wO M) (g k : Nat) (h40 : gn M 7 < 40) : wK (biM M g k) := kp_w (brM_kp _ _ _) (bi0_w hw ho g k h40)
theorem biM_wT {M : mM} (ht : wT M) (g k : Nat) : wT (biM M g k) := brM_wT (bi0_wT ht g k) _ _
theorem biM_o {M : mM} (ho : wO M) (g k : Nat) : wO (biM M g k) := kq_o (kp_q (brM_kp _ _ _)) (bi0_o ho g k)
end
section
set_option maxHeartbeats 4000000 in
set_option maxRecDepth 100000 in
theorem k_K_addRegistration (l : Launch) (D : va_G) (dA : Nat → ClassId) (base : Nat) (M : mM) (ad : Nat → Nat → Nat) (hw : wK M) (x : Int32) (h5 : nRg M < 5) : mMet l y_K_addRegistration b_K_addRegistration 3 (some (FieldType.object "ScopeKeeper$Registration")) ({ frames := 2, cells := 1, slots := 6, locals := 60 } : Room) 1 6 D dA base M ad [.ref (ad 0 0), .int x] (fun rv M' ad' => rv = some (.ref (ad' 5 (gn M 5))) ∧ M' = arM M x) := by
  refine m_start (lvs := [(0, .ref (ad 0 0)), (1, .int x)]) (by decide) (Nat.le_of_ble_eq_true rfl) rfl ?_
  intro p e s m below meth c ls X hr hlk hin hml hM hl
  have hk0 : 0 < gn M 0 := w_k hw
  refine r_new (k := 5) X hM n_K_32 (Nat.le_of_ble_eq_true rfl) (Nat.le_of_ble_eq_true rfl) d_K_addRegistration_0 (fun q1 H q1ad hq1M hq1E hq1q => ?_)
  have hM := hq1M
  have hnq1 : gn M 5 < gn (sn M 5) 5 := sn_live _ _
  refine lv_dup X.1 X.2.1 d_K_addRegistration_3 rfl ?_
  refine lv_iload_n X.1 X.2.1 d_K_addRegistration_4 rfl (lv_at hl 1 rfl) ?_
  have hC9 := (k_Rg_init l D dA base (sn M 5) q1ad (gn M 5) hnq1 x)
  rw [hq1q] at hC9
  refine r_cI (As := [.int x]) (rest := [.ref q1]) X hml hl.1 hM hC9 c_K_352 v_Rg_init rfl (Nat.le_of_ble_eq_true rfl) ⟨rfl, rfl, Nat.le_of_ble_eq_true rfl, Nat.le_of_ble_eq_true rfl⟩ ⟨Nat.le_of_ble_eq_true rfl, Nat.le_of_ble_eq_true rfl⟩ d_K_addRegistration_5 ?_
  intro rv M1 ad1 H locs hP hM hE
  obtain ⟨e1, e2, e3⟩ := hP
  subst rv; subst M1; subst ad1
  have hr5 : gr (rgN M x) 0 0 5 = some 0 := by rw [rgN_gr M x (by omega)]; exact w_0_5 hw
  have hx6 : gi (rgN M x) 0 0 6 = nI (nRg M) := by rw [rgN_gi M x (by omega)]; exact w_nr hw
  show W _ _ _ _ _ _ _ _ _ _ _ _ _ _ _ (F0 m 8 ls [.ref q1])
  refine lv_astore_n (lv' := [(2, .ref q1), (0, .ref (ad 0 0)), (1, .int x)]) X.1 X.2.1 d_K_addRegistration_8 rfl hl (by decide) rfl (fun ls hl => ?_)
  refine lv_aload_n X.1 X.2.1 d_K_addRegistration_9 rfl (lv_at hl 1 rfl) ?_
  refine r_gets (q := 0) X hM (hq1E 0 0 hk0) (sn_up hk0) f_K_34 rfl hr5 d_K_addRegistration_10 (fun hv3 => ?_)
  refine lv_aload_n X.1 X.2.1 d_K_addRegistration_13 rfl (lv_at hl 1 rfl) ?_
  refine r_geti X hM (hq1E 0 0 hk0) (sn_up hk0) f_K_38 rfl d_K_addRegistration_14 ?_
  refine lv_aload_n X.1 X.2.1 d_K_addRegistration_17 rfl (lv_at hl 0 rfl) ?_
  refine r_aast X hM rfl hv3 a_regs (fun _ => rfl) rfl rfl hq1q hnq1 (j := (nRg M)) hx6 h5 d_K_addRegistration_18 (fun H locs hM => ?_)
  refine lv_aload_n X.1 X.2.1 d_K_addRegistration_19 rfl (lv_at hl 1 rfl) ?_
  refine lv_dup X.1 X.2.1 d_K_addRegistration_20 rfl ?_
  refine r_geti X hM (hq1E 0 0 hk0) (sn_up hk0) f_K_38 rfl d_K_addRegistration_21 ?_
  refine lv_iconst (v := 1) X.1 X.2.1 d_K_addRegistration_24 (by decide) ?_
  refine lv_iadd X.1 X.2.1 d_K_addRegistration_25 ?_
  refine r_puti X hM (hq1E 0 0 hk0) (sn_up hk0) p_K_38 rfl rfl rfl d_K_addRegistration_26 (fun H locs hM => ?_)
  refine lv_aload_n X.1 X.2.1 d_K_addRegistration_29 rfl (lv_at hl 0 rfl) ?_
  exact m_aret X hr hlk hM (by first | rfl | exact rfv_isRef _ _ _) d_K_addRegistration_30 ⟨Nat.le_of_ble_eq_true rfl, Nat.le_of_ble_eq_true rfl⟩ (mExt_tr (mExt_rf _ _) (mExt_new hq1E)) ⟨by rw [hq1q], by unfold arM; show si _ _ _ _ (gi (rgN M x) 0 0 6 + 1) = _; rw [hx6, nI_1]; rfl⟩
set_option maxHeartbeats 4000000 in
set_option maxRecDepth 100000 in
theorem k_K_beginInstall (l : Launch) (D : va_G) (dA : Nat → ClassId) (base : Nat) (M : mM) (ad : Nat → Nat → Nat) (hw : wK M) (ht : wT M) (ho : wO M) (g k : Nat) (hg : g < gn M 5) (hk : k < 4) (hs : gi M 5 g 1 = nI k) (h40 : gn M 7 < 40) : mMet l y_K_beginInstall b_K_beginInstall 3 none ({ frames := 4, cells := 4, slots := 20, locals := 120 } : Room) 4 20 D dA base M ad [.ref (ad 0 0), .ref (ad 5 g)] (fun rv M' ad' => rv = none ∧ M' = biM M g k) := by
  refine m_start (lvs := [(0, .ref (ad 0 0)), (1, .ref (ad 5 g))]) (by decide) (Nat.le_of_ble_eq_true rfl) rfl ?_
  intro p e s m below meth c ls X hr hlk hin hml hM hl
  have hk0 : 0 < gn M 0 := w_k hw
  refine r_new (k := 7) X hM n_K_23 (Nat.le_of_ble_eq_true rfl) (Nat.le_of_ble_eq_true rfl) d_K_beginInstall_0 (fun q1 H q1ad hq1M hq1E hq1q => ?_)
  have hM := hq1M
  have hnq1 : gn M 7 < gn (sn M 7) 7 := sn_live _ _
  refine lv_dup X.1 X.2.1 d_K_beginInstall_3 rfl ?_
  refine lv_aload_n X.1 X.2.1 d_K_beginInstall_4 rfl (lv_at hl 0 rfl) ?_
  refine r_geti X hM (hq1E 0 0 hk0) (sn_up hk0) f_K_29 rfl d_K_beginInstall_5 ?_
  refine lv_iconst (v := 1) X.1 X.2.1 d_K_beginInstall_8 (by decide) ?_
  refine lv_iadd X.1 X.2.1 d_K_beginInstall_9 ?_
  refine lv_topi (fun nw e_nw => ?_)
  have e9 : nw = gi M 0 0 4 + 1 := by rw [e_nw, gi_sn, if_neg (by omega)]
  clear e_nw
  subst e9
  refine lv_aload_n X.1 X.2.1 d_K_beginInstall_10 rfl (lv_at hl 0 rfl) ?_
  refine r_gets (q := 0) X hM (hq1E 0 0 hk0) (sn_up hk0) f_K_11 rfl (show gr (sn M 7) 0 0 0 = some 0 by rw [gr_sn, if_neg (by omega)]; exact w_0_0 hw) d_K_beginInstall_11 (fun hv2 => ?_)
  refine lv_aload_n X.1 X.2.1 d_K_beginInstall_14 rfl (lv_at hl 1 rfl) ?_
  refine r_geti X hM (hq1E 5 g hg) (sn_up hg) f_K_235 rfl d_K_beginInstall_15 ?_
  refine r_aalds (q := k) X hM rfl hv2 a_scripts (fun _ => rfl) (j := k) (show gi (sn M 7) 5 g 1 = nI k by rw [gi_sn, if_neg (by omega)]; exact hs) hk (show gr (sn M 7) 8 0 k = some k by rw [gr_sn, if_neg (by omega)]; exact w_sc hw hk) d_K_beginInstall_18 (fun hv3 => ?_)
  have hC9 := (k_Wk_init l D dA base (sn M 7) q1ad (gn M 7) k (gi M 0 0 4 + 1) hnq1 hv3)
  rw [hq1q] at hC9
  refine r_cI (As := [.int (gi M 0 0 4 + 1), .ref (q1ad 1 k)]) (rest := [.ref q1]) X hml hl.1 hM hC9 c_K_331 v_Wk_init rfl (Nat.le_of_ble_eq_true rfl) ⟨rfl, rfl, Nat.le_of_ble_eq_true rfl, Nat.le_of_ble_eq_true rfl⟩ ⟨Nat.le_of_ble_eq_true rfl, Nat.le_of_ble_eq_true rfl⟩ d_K_beginInstall_19 ?_
  intro rv M1 ad_5 H locs hP hM hE_6
  obtain ⟨e1, e2⟩ := hP
  subst rv; subst M1
  have hr9 : gr (wkN M k) 0 0 3 = some 0 := by rw [wkN_gr M k (by omega)]; exact w_0_3 hw
  have hx4 : gi (wkN M k) 0 0 4 = nI (gn M 7) := by rw [wkN_gi M k (by omega)]; exact w_nw hw
  show W _ _ _ _ _ _ _ _ _ _ _ _ _ _ _ (F0 m 22 ls [.ref q1])
  refine lv_astore_n (lv' := [(2, .ref q1), (0, .ref (ad 0 0)), (1, .ref (ad 5 g))]) X.1 X.2.1 d_K_beginInstall_22 rfl hl (by decide) rfl (fun ls hl => ?_)
  refine lv_aload_n X.1 X.2.1 d_K_beginInstall_23 rfl (lv_at hl 1 rfl) ?_
  refine r_gets (q := 0) X hM ((hE_6.1 0 0 (sn_up hk0)).trans (hq1E 0 0 hk0)) (Nat.lt_of_lt_of_le (sn_up hk0) (hE_6.2 _)) f_K_25 rfl hr9 d_K_beginInstall_24 (fun hv7 => ?_)
  refine lv_aload_n X.1 X.2.1 d_K_beginInstall_27 rfl (lv_at hl 1 rfl) ?_
  refine r_geti X hM ((hE_6.1 0 0 (sn_up hk0)).trans (hq1E 0 0 hk0)) (Nat.lt_of_lt_of_le (sn_up hk0) (hE_6.2 _)) f_K_29 rfl d_K_beginInstall_28 ?_
  refine lv_aload_n X.1 X.2.1 d_K_beginInstall_31 rfl (lv_at hl 0 rfl) ?_
  refine r_aast X hM rfl hv7 a_workers (fun _ => rfl) rfl rfl ((hE_6.1 7 (gn M 7) hnq1).trans hq1q) (Nat.lt_of_lt_of_le hnq1 (hE_6.2 _)) (j := (gn M 7)) hx4 h40 d_K_beginInstall_32 (fun H locs hM => ?_)
  refine lv_aload_n X.1 X.2.1 d_K_beginInstall_33 rfl (lv_at hl 1 rfl) ?_
  refine lv_dup X.1 X.2.1 d_K_beginInstall_34 rfl ?_
  refine r_geti X hM ((hE_6.1 0 0 (sn_up hk0)).trans (hq1E 0 0 hk0)) (Nat.lt_of_lt_of_le (sn_up hk0) (hE_6.2 _)) f_K_29 rfl d_K_beginInstall_35 ?_
  refine lv_iconst (v := 1) X.1 X.2.1 d_K_beginInstall_38 (by decide) ?_
  refine lv_iadd X.1 X.2.1 d_K_beginInstall_39 ?_
  refine r_puti X hM ((hE_6.1 0 0 (sn_up hk0)).trans (hq1E 0 0 hk0)) (Nat.lt_of_lt_of_le (sn_up hk0) (hE_6.2 _)) p_K_29 rfl rfl rfl d_K_beginInstall_40 (fun H locs hM => ?_)
  refine lv_aload_n X.1 X.2.1 d_K_beginInstall_43 rfl (lv_at hl 2 rfl) ?_
  refine lv_aload_n X.1 X.2.1 d_K_beginInstall_44 rfl (lv_at hl 0 rfl) ?_
  refine r_putr X hM ((hE_6.1 5 g (sn_up hg)).trans (hq1E 5 g hg)) (Nat.lt_of_lt_of_le (sn_up hg) (hE_6.2 _)) p_K_199 rfl (x := (some (gn M 7))) (fun z hz => by cases hz; exact (Nat.lt_of_lt_of_le hnq1 (hE_6.2 _))) (congrArg Value.ref ((hE_6.1 7 (gn M 7) hnq1).trans hq1q)) rfl rfl d_K_beginInstall_45 (fun H locs hM => ?_)
  have hB : mSt D dA base (bi0 M g k) ad_5 s.heap H locs := by unfold bi0; have hM : mSt D dA base (sr (si (sr (wkN M k) 9 0 (gn M 7) (some (gn M 7))) 0 0 4 (gi (wkN M k) 0 0 4 + 1)) 5 g 2 (some (gn M 7))) ad_5 s.heap H locs := hM; rw [hx4, nI_1] at hM; exact hM
  clear hM
  have hM := hB
  have hwB := bi0_w hw ho g k h40
  refine lv_aload_n X.1 X.2.1 d_K_beginInstall_48 rfl (lv_at hl 1 rfl) ?_
  refine lv_aload_n X.1 X.2.1 d_K_beginInstall_49 rfl (lv_at hl 0 rfl) ?_
  refine lv_iconst (v := 1) X.1 X.2.1 d_K_beginInstall_50 (by decide) ?_
  have hC9 := (k_K_bring_s l D dA base (bi0 M g k) ad_5 hwB (bi0_wT ht g k) (gn M 7) (Nat.lt_of_lt_of_le hnq1 (hE_6.2 _)) 1)
  rw [((hE_6.1 0 0 (sn_up hk0)).trans (hq1E 0 0 hk0)), ((hE_6.1 7 (gn M 7) hnq1).trans hq1q)] at hC9
  refine r_cV (As := [.ref q1, .int 1]) (rest := []) X hml hl.1 hM hC9 c_K_334 v_K_bring kc_K ((hE_6.1 0 0 (sn_up hk0)).trans (hq1E 0 0 hk0)) (Nat.lt_of_lt_of_le (sn_up hk0) (hE_6.2 _)) rfl (Nat.le_of_ble_eq_true rfl) ⟨rfl, rfl, Nat.le_of_ble_eq_true rfl, Nat.le_of_ble_eq_true rfl⟩ ⟨Nat.le_of_ble_eq_true rfl, Nat.le_of_ble_eq_true rfl⟩ d_K_beginInstall_51 ?_
  intro rv M1 ad1 H locs hP hM hE
  obtain ⟨e1, e2, e3⟩ := hP
  subst rv; subst M1; subst ad1
  show W _ _ _ _ _ _ _ _ _ _ _ _ _ _ _ (F0 m 54 ls [])
  exact m_vret X hr hlk hM d_K_beginInstall_54 ⟨Nat.le_of_ble_eq_true rfl, Nat.le_of_ble_eq_true rfl⟩ (mExt_tr (mExt_tr (mExt_tr (mExt_rf _ _) (mExt_new hq1E)) hE_6) (kp_ext (brM_kp (bi0 M g k) (some (gn M 7)) 1) _)) ⟨rfl, rfl⟩
end
section
theorem si51_w {M : mM} (hw : wK M) (g : Nat) (x : Int32) : wK (si M 5 g 1 x) := hw
theorem si51_wT {M : mM} (ht : wT M) (g : Nat) (x : Int32) : wT (si M 5 g 1 x) := kt_w (M := M) rfl ht
theorem si51_o {M : mM} (ho : wO M) (g : Nat) {k : Nat} (hk : k < 4) : wO (si M 5 g 1 (nI k)) := by
  refine ⟨ho.1, fun i hi => ?_, ho.2.2.1, ho.2.2.2.1, ho.2.2.2.2⟩
  rw [gi_si]
  by_cases h : i = g
  · rw [if_pos ⟨rfl, h, rfl⟩]; exact ⟨k, hk, rfl⟩
  · rw [if_neg (by omega)]; exact ho.2.1 i hi
def buM (M : mM) (x : Int32) : Int32 × mM := match rgOf M x with
  | none => (-2, M)
  | some g => if gi M 5 g 5 = 0 then (if gi M 0 0 1 = 0 then (-4, M) else if gn M 7 < 40 then (if upD M g = true then (2, M) else (0, biM M g (gi M 5 g 1).toNatClampNeg)) else (-5, M)) else (-2, M)
theorem buM_all {M : mM} (hw : wK M) (ht : wT M) (ho : wO M) (x : Int32) : wK (buM M x).2 ∧ wT (buM M x).2 ∧ wO (buM M x).2 ∧ gn (buM M x).2 4 = gn M 4 := by
  have h0 : wK M ∧ wT M ∧ wO M ∧ gn M 4 = gn M 4 := ⟨hw, ht, ho, rfl⟩
  unfold buM
  split
  · exact h0
  · split
    · split
      · exact h0
      · split
        · rename_i h40
          split
          · exact h0
          · exact ⟨biM_w hw ho _ _ h40, biM_wT ht _ _, biM_o ho _ _, ((brM_kp _ _ _).1 4).trans (by rw [bi0_gn]; rfl)⟩
        · exact h0
    · exact h0
def rr0 (A : mM) (g : Nat) : mM := si A 5 g 5 0
theorem rr0_kp (A : mM) (g : Nat) : kp A (rr0 A g) := kp_si _ _ _ _ _ (by omega)
theorem rr0_g (A : mM) (g : Nat) : gi (rr0 A g) 5 g 1 = gi A 5 g 1 := by
  unfold rr0; rw [gi_si, if_neg (by omega)]
def rr1 (A : mM) (g : Nat) (s : Int32) : mM := si (rr0 A g) 5 g 1 s
def rr2 (A : mM) (g : Nat) (s : Int32) : Int32 × mM := if gi A 5 g 1 = s ∧ upD (rr0 A g) g = true then (2, rr0 A g) else (0, biM (rr1 A g s) g s.toNatClampNeg)
def rrM (M : mM) (j : Nat) : Int32 × mM := if bgs (gi M 1 (gi M 4 j 3).toNatClampNeg 1) (gi M 4 j 2) = true then (if gi M 0 0 1 = 0 then (-4, M) else match rgOf M (gi M 4 j 2) with
    | none => if nRg M < 5 ∧ gn M 7 < 40 then rr2 (arM M (gi M 4 j 2)) (gn M 5) (gi M 4 j 3) else (-5, M)
    | some g => if gn M 7 < 40 then rr2 M g (gi M 4 j 3) else (-5, M)) else (-1, M)
theorem rr2_all {A : mM} (hw : wK A) (ht : wT A) (ho : wO A) (g : Nat) {k : Nat} (hk : k < 4) (h40 : gn A 7 < 40) : wK (rr2 A g (nI k)).2 ∧ wT (rr2 A g (nI k)).2 ∧ wO (rr2 A g (nI k)).2 ∧ gn (rr2 A g (nI k)).2 4 = gn A 4 := by
  have hw0 := kp_w (rr0_kp A g) hw
  have ht0 : wT (rr0 A g) := kt_w (M := A) rfl ht
  have ho0 := kq_o (kp_q (rr0_kp A g)) ho
  unfold rr2
  split
  · exact ⟨hw0, ht0, ho0, rfl⟩
  · exact ⟨biM_w (si51_w hw0 g _) (si51_o ho0 g hk) _ _ h40, biM_wT (si51_wT ht0 g _) _ _, biM_o (si51_o ho0 g hk) _ _, ((brM_kp _ _ _).1 4).trans (by rw [bi0_gn]; rfl)⟩
theorem rrM_all {M : mM} (hw : wK M) (ht : wT M) (ho : wO M) {j : Nat} (hj : j < gn M 4) : wK (rrM M j).2 ∧ wT (rrM M j).2 ∧ wO (rrM M j).2 ∧ gn (rrM M j).2 4 = gn M 4 := by
  have h0 : wK M ∧ wT M ∧ wO M ∧ gn M 4 = gn M 4 := ⟨hw, ht, ho, rfl⟩
  obtain ⟨k, hk, hs⟩ := ho.2.2.1 j hj
  unfold rrM
  rw [hs]
  split
  · split
    · exact h0
    · split
      · split
        · rename_i h
          exact rr2_all (arM_w hw _ h.1) (arM_wT ht _) (arM_o ho _) _ hk h.2
        · exact h0
      · split
        · rename_i h
          exact rr2_all hw ht ho _ hk h
        · exact h0
  · exact h0
def bjM (M : mM) (j : Nat) : Int32 × mM := if gi M 4 j 1 = 0 then rrM M j else if gi M 4 j 1 = 1 then buM M (gi M 4 j 2) else unM M (gi M 4 j 2)
theorem bjM_all {M : mM} (hw : wK M) (ht : wT M) (ho : wO M) {j : Nat} (hj : j < gn M 4) : wK (bjM M j).2 ∧ wT (bjM M j).2 ∧ wO (bjM M j).2 ∧ gn (bjM M j).2 4 = gn M 4 := by
  unfold bjM
  split
  · exact rrM_all hw ht ho hj
  · split
    · exact buM_all hw ht ho _
    · exact ⟨unM_w hw _, unM_wT ht _, kq_o (unM_kq M _) ho, unM_gn M _ 4⟩
theorem lt40 {M : mM} (hw : wK M) : gi M 0 0 4 < 40 ↔ gn M 7 < 40 := by
  have h := w_nwl hw
  rw [w_nw hw]
  exact ⟨fun z => (nI_ltI (by omega) (by decide)).mp z, fun z => nI_lt z (by decide)⟩
theorem lt5 {M : mM} (hw : wK M) : gi M 0 0 6 < 5 ↔ nRg M < 5 := by
  have h := w_nrl hw
  rw [w_nr hw]
  exact ⟨fun z => (nI_ltI (by omega) (by decide)).mp z, fun z => nI_lt z (by decide)⟩
set_option maxHeartbeats 4000000 in
set_option maxRecDepth 100000 in
theorem k_K_beginUpdate (l : Launch) (D : va_G) (dA : Nat → ClassId) (base : Nat) (M : mM) (ad : Nat → Nat → Nat) (hw : wK M) (ht : wT M) (ho : wO M) (x : Int32) : mMet l y_K_beginUpdate b_K_beginUpdate 3 (some FieldType.int) ({ frames := 5, cells := 4, slots := 20, locals := 160 } : Room) 4 20 D dA base M ad [.ref (ad 0 0), .int x] (fun rv M' ad' => rv = some (.int (buM M x).1) ∧ M' = (buM M x).2) := by
  refine m_start (lvs := [(0, .ref (ad 0 0)), (1, .int x)]) (by decide) (Nat.le_of_ble_eq_true rfl) rfl ?_
  intro p e s m below meth c ls X hr hlk hin hml hM hl
  have hk0 : 0 < gn M 0 := w_k hw
  refine lv_aload_n X.1 X.2.1 d_K_beginUpdate_0 rfl (lv_at hl 0 rfl) ?_
  refine lv_iload_n X.1 X.2.1 d_K_beginUpdate_1 rfl (lv_at hl 1 rfl) ?_
  refine r_cV (As := [.int x]) (rest := []) X hml hl.1 hM (k_K_registrationOf l D dA base M ad hw x) c_K_286 v_K_registrationOf kc_K rfl hk0 rfl (Nat.le_of_ble_eq_true rfl) ⟨rfl, rfl, Nat.le_of_ble_eq_true rfl, Nat.le_of_ble_eq_true rfl⟩ ⟨Nat.le_of_ble_eq_true rfl, Nat.le_of_ble_eq_true rfl⟩ d_K_beginUpdate_2 ?_
  intro rv M1 ad1 H locs hP hM hE
  obtain ⟨e1, e2, e3⟩ := hP
  subst rv; subst M1; subst ad1
  have hrl := rgOf_lv hM hw (x := x)
  show W _ _ _ _ _ _ _ _ _ _ _ _ _ _ _ (F0 m 5 ls [rfv ad 5 (rgOf M x)])
  refine r_astore_n (lv' := [(2, rfv ad 5 (rgOf M x)), (0, .ref (ad 0 0)), (1, .int x)]) X.1 X.2.1 d_K_beginUpdate_5 rfl hl (by decide) rfl (fun ls hl => ?_)
  refine r_aload_n X.1 X.2.1 d_K_beginUpdate_6 rfl (lv_at hl 0 rfl) ?_
  refine r_ifnull (tgt := 17) X.1 X.2.1 d_K_beginUpdate_7 (by decide) (fun h7 => ?_) (fun g h7 => ?_)
  · skip
    rw [h7] at hl
    have hl : lv_has ls 3 [(2, .null), (0, .ref (ad 0 0)), (1, .int x)] := hl
    refine lv_bipush (v := (-2)) X.1 X.2.1 d_K_beginUpdate_17 (by decide) ?_
    have hF : buM M x = (-2, M) := by unfold buM; rw [h7]
    exact m_iret X hr hlk hM d_K_beginUpdate_19 ⟨Nat.le_of_ble_eq_true rfl, Nat.le_of_ble_eq_true rfl⟩ (mExt_rf _ _) ⟨by rw [hF], by rw [hF]⟩
  · skip
    rw [h7] at hl
    have hl : lv_has ls 3 [(2, .ref (ad 5 g)), (0, .ref (ad 0 0)), (1, .int x)] := hl
    refine lv_aload_n X.1 X.2.1 d_K_beginUpdate_10 rfl (lv_at hl 0 rfl) ?_
    refine r_geti X hM rfl (hrl g h7) f_K_236 rfl d_K_beginUpdate_11 ?_
    refine lv_if_eq (tgt := 20) X.1 X.2.1 d_K_beginUpdate_14 (by decide) (fun h14 => ?_) (fun h14 => ?_)
    · skip
      refine lv_aload_n X.1 X.2.1 d_K_beginUpdate_20 rfl (lv_at hl 1 rfl) ?_
      refine r_geti X hM rfl hk0 f_K_15 rfl d_K_beginUpdate_21 ?_
      refine lv_if_ne (tgt := 30) X.1 X.2.1 d_K_beginUpdate_24 (by decide) (fun h24 => ?_) (fun h24 => ?_)
      · skip
        obtain ⟨k, hk, hs⟩ := ho.2.1 g (hrl g h7)
        refine lv_aload_n X.1 X.2.1 d_K_beginUpdate_30 rfl (lv_at hl 1 rfl) ?_
        refine r_geti X hM rfl hk0 f_K_29 rfl d_K_beginUpdate_31 ?_
        refine lv_bipush (v := 40) X.1 X.2.1 d_K_beginUpdate_34 (by decide) ?_
        refine lv_icmp_lt (tgt := 42) X.1 X.2.1 d_K_beginUpdate_36 (by decide) (fun h36 => ?_) (fun h36 => ?_)
        · skip
          refine lv_aload_n X.1 X.2.1 d_K_beginUpdate_42 rfl (lv_at hl 1 rfl) ?_
          refine lv_aload_n X.1 X.2.1 d_K_beginUpdate_43 rfl (lv_at hl 0 rfl) ?_
          refine r_cV (As := [.ref (ad 5 g)]) (rest := []) X hml hl.1 hM (k_K_isUpToDate l D dA base M ad hw g k (hrl g h7) hs hk) c_K_317 v_K_isUpToDate kc_K rfl hk0 rfl (Nat.le_of_ble_eq_true rfl) ⟨rfl, rfl, Nat.le_of_ble_eq_true rfl, Nat.le_of_ble_eq_true rfl⟩ ⟨Nat.le_of_ble_eq_true rfl, Nat.le_of_ble_eq_true rfl⟩ d_K_beginUpdate_44 ?_
          intro rv M1 ad1 H locs hP hM hE
          obtain ⟨e1, e2, e3⟩ := hP
          subst rv; subst M1; subst ad1
          show W _ _ _ _ _ _ _ _ _ _ _ _ _ _ _ (F0 m 47 ls [.int (if upD M g = true then 1 else 0)])
          refine lv_if_eq (tgt := 52) X.1 X.2.1 d_K_beginUpdate_47 (by decide) (fun h47 => ?_) (fun h47 => ?_)
          · skip
            refine lv_aload_n X.1 X.2.1 d_K_beginUpdate_52 rfl (lv_at hl 1 rfl) ?_
            refine lv_aload_n X.1 X.2.1 d_K_beginUpdate_53 rfl (lv_at hl 0 rfl) ?_
            refine r_cV (As := [.ref (ad 5 g)]) (rest := []) X hml hl.1 hM (k_K_beginInstall l D dA base M ad hw ht ho g k (hrl g h7) hk hs ((lt40 hw).mp h36)) c_K_321 v_K_beginInstall kc_K rfl hk0 rfl (Nat.le_of_ble_eq_true rfl) ⟨rfl, rfl, Nat.le_of_ble_eq_true rfl, Nat.le_of_ble_eq_true rfl⟩ ⟨Nat.le_of_ble_eq_true rfl, Nat.le_of_ble_eq_true rfl⟩ d_K_beginUpdate_54 ?_
            intro rv M1 ad_4 H locs hP hM hE_5
            obtain ⟨e1, e2⟩ := hP
            subst rv; subst M1
            show W _ _ _ _ _ _ _ _ _ _ _ _ _ _ _ (F0 m 57 ls [])
            refine lv_iconst (v := 0) X.1 X.2.1 d_K_beginUpdate_57 (by decide) ?_
            have hF : buM M x = (0, biM M g k) := by unfold buM; rw [h7]; show (if gi M 5 g 5 = 0 then _ else _) = _; rw [if_pos h14, if_neg h24, if_pos ((lt40 hw).mp h36), if_neg (be0 h47), hs, nI_clamp (by omega)]
            exact m_iret X hr hlk hM d_K_beginUpdate_58 ⟨Nat.le_of_ble_eq_true rfl, Nat.le_of_ble_eq_true rfl⟩ (mExt_tr (mExt_rf _ _) hE_5) ⟨by rw [hF], by rw [hF]⟩
          · skip
            refine lv_iconst (v := 2) X.1 X.2.1 d_K_beginUpdate_50 (by decide) ?_
            have hF : buM M x = (2, M) := by unfold buM; rw [h7]; show (if gi M 5 g 5 = 0 then _ else _) = _; rw [if_pos h14, if_neg h24, if_pos ((lt40 hw).mp h36), if_pos (bn0 h47)]
            exact m_iret X hr hlk hM d_K_beginUpdate_51 ⟨Nat.le_of_ble_eq_true rfl, Nat.le_of_ble_eq_true rfl⟩ (mExt_rf _ _) ⟨by rw [hF], by rw [hF]⟩
        · skip
          refine lv_bipush (v := (-5)) X.1 X.2.1 d_K_beginUpdate_39 (by decide) ?_
          have hF : buM M x = (-5, M) := by unfold buM; rw [h7]; show (if gi M 5 g 5 = 0 then _ else _) = _; rw [if_pos h14, if_neg h24, if_neg (fun z => h36 ((lt40 hw).mpr z))]
          exact m_iret X hr hlk hM d_K_beginUpdate_41 ⟨Nat.le_of_ble_eq_true rfl, Nat.le_of_ble_eq_true rfl⟩ (mExt_rf _ _) ⟨by rw [hF], by rw [hF]⟩
      · skip
        refine lv_bipush (v := (-4)) X.1 X.2.1 d_K_beginUpdate_27 (by decide) ?_
        have hF : buM M x = (-4, M) := by unfold buM; rw [h7]; show (if gi M 5 g 5 = 0 then _ else _) = _; rw [if_pos h14, if_pos h24]
        exact m_iret X hr hlk hM d_K_beginUpdate_29 ⟨Nat.le_of_ble_eq_true rfl, Nat.le_of_ble_eq_true rfl⟩ (mExt_rf _ _) ⟨by rw [hF], by rw [hF]⟩
    · skip
      refine lv_bipush (v := (-2)) X.1 X.2.1 d_K_beginUpdate_17 (by decide) ?_
      have hF : buM M x = (-2, M) := by unfold buM; rw [h7]; exact if_neg h14
      exact m_iret X hr hlk hM d_K_beginUpdate_19 ⟨Nat.le_of_ble_eq_true rfl, Nat.le_of_ble_eq_true rfl⟩ (mExt_rf _ _) ⟨by rw [hF], by rw [hF]⟩
set_option maxHeartbeats 4000000 in
set_option maxRecDepth 100000 in
theorem k_K_beginRegister (l : Launch) (D : va_G) (dA : Nat → ClassId) (base : Nat) (M : mM) (ad : Nat → Nat → Nat) (hw : wK M) (ht : wT M) (ho : wO M) (j : Nat) (hj : j < gn M 4) : mMet l y_K_beginRegister b_K_beginRegister 4 (some FieldType.int) ({ frames := 5, cells := 5, slots := 26, locals := 160 } : Room) 5 26 D dA base M ad [.ref (ad 0 0), .ref (ad 4 j)] (fun rv M' ad' => rv = some (.int (rrM M j).1) ∧ M' = (rrM M j).2) := by
  refine m_start (lvs := [(0, .ref (ad 0 0)), (1, .ref (ad 4 j))]) (by decide) (Nat.le_of_ble_eq_true rfl) rfl ?_
  intro p e s m below meth c ls X hr hlk hin hml hM hl
  have hk0 : 0 < gn M 0 := w_k hw
  obtain ⟨k, hk, hs⟩ := ho.2.2.1 j hj
  refine lv_aload_n X.1 X.2.1 d_K_beginRegister_0 rfl (lv_at hl 0 rfl) ?_
  refine r_gets (q := 0) X hM rfl hk0 f_K_11 rfl (w_0_0 hw) d_K_beginRegister_1 (fun hv1 => ?_)
  refine lv_aload_n X.1 X.2.1 d_K_beginRegister_4 rfl (lv_at hl 1 rfl) ?_
  refine r_geti X hM rfl hj f_K_114 rfl d_K_beginRegister_5 ?_
  refine r_aalds (q := k) X hM rfl hv1 a_scripts (fun _ => rfl) (j := k) hs hk (w_sc hw hk) d_K_beginRegister_8 (fun hv2 => ?_)
  refine r_geti X hM rfl hv2 f_K_87 rfl d_K_beginRegister_9 ?_
  refine lv_aload_n X.1 X.2.1 d_K_beginRegister_12 rfl (lv_at hl 1 rfl) ?_
  refine r_geti X hM rfl hj f_K_296 rfl d_K_beginRegister_13 ?_
  refine r_cS (As := [.int (gi M 1 k 1), .int (gi M 4 j 2)]) (rest := []) X hml hl.1 hM (k_K_begins l D dA base M ad (gi M 1 k 1) (gi M 4 j 2)) c_K_310 v_K_begins rfl (Nat.le_of_ble_eq_true rfl) ⟨rfl, rfl, Nat.le_of_ble_eq_true rfl, Nat.le_of_ble_eq_true rfl⟩ ⟨Nat.le_of_ble_eq_true rfl, Nat.le_of_ble_eq_true rfl⟩ d_K_beginRegister_16 ?_
  intro rv M1 ad1 H locs hP hM hE
  obtain ⟨e1, e2, e3⟩ := hP
  subst rv; subst M1; subst ad1
  show W _ _ _ _ _ _ _ _ _ _ _ _ _ _ _ (F0 m 19 ls [.int (if bgs (gi M 1 k 1) (gi M 4 j 2) = true then 1 else 0)])
  refine lv_if_ne (tgt := 24) X.1 X.2.1 d_K_beginRegister_19 (by decide) (fun h19 => ?_) (fun h19 => ?_)
  · skip
    refine lv_aload_n X.1 X.2.1 d_K_beginRegister_24 rfl (lv_at hl 0 rfl) ?_
    refine r_geti X hM rfl hk0 f_K_15 rfl d_K_beginRegister_25 ?_
    refine lv_if_ne (tgt := 34) X.1 X.2.1 d_K_beginRegister_28 (by decide) (fun h28 => ?_) (fun h28 => ?_)
    · skip
      refine lv_aload_n X.1 X.2.1 d_K_beginRegister_34 rfl (lv_at hl 0 rfl) ?_
      refine lv_aload_n X.1 X.2.1 d_K_beginRegister_35 rfl (lv_at hl 1 rfl) ?_
      refine r_geti X hM rfl hj f_K_296 rfl d_K_beginRegister_36 ?_
      refine r_cV (As := [.int (gi M 4 j 2)]) (rest := []) X hml hl.1 hM (k_K_registrationOf l D dA base M ad hw (gi M 4 j 2)) c_K_286 v_K_registrationOf kc_K rfl hk0 rfl (Nat.le_of_ble_eq_true rfl) ⟨rfl, rfl, Nat.le_of_ble_eq_true rfl, Nat.le_of_ble_eq_true rfl⟩ ⟨Nat.le_of_ble_eq_true rfl, Nat.le_of_ble_eq_true rfl⟩ d_K_beginRegister_39 ?_
      intro rv M1 ad1 H locs hP hM hE
      obtain ⟨e1, e2, e3⟩ := hP
      subst rv; subst M1; subst ad1
      have hrl := rgOf_lv hM hw (x := (gi M 4 j 2))
      show W _ _ _ _ _ _ _ _ _ _ _ _ _ _ _ (F0 m 42 ls [rfv ad 5 (rgOf M (gi M 4 j 2))])
      refine r_astore_n (lv' := [(2, rfv ad 5 (rgOf M (gi M 4 j 2))), (0, .ref (ad 0 0)), (1, .ref (ad 4 j))]) X.1 X.2.1 d_K_beginRegister_42 rfl hl (by decide) rfl (fun ls hl => ?_)
      refine r_aload_n X.1 X.2.1 d_K_beginRegister_43 rfl (lv_at hl 0 rfl) ?_
      refine r_ifnonnull (tgt := 59) X.1 X.2.1 d_K_beginRegister_44 (by decide) (fun g h44 => ?_) (fun h44 => ?_)
      · skip
        rw [h44] at hl
        have hl : lv_has ls 4 [(2, .ref (ad 5 g)), (0, .ref (ad 0 0)), (1, .ref (ad 4 j))] := hl
        refine lv_iconst (v := 0) X.1 X.2.1 d_K_beginRegister_59 (by decide) ?_
        refine lv_istore_n (lv' := [(3, .int 0), (2, .ref (ad 5 g)), (0, .ref (ad 0 0)), (1, .ref (ad 4 j))]) X.1 X.2.1 d_K_beginRegister_60 rfl hl (by decide) rfl (fun ls hl => ?_)
        refine lv_iload_n X.1 X.2.1 d_K_beginRegister_61 rfl (lv_at hl 0 rfl) ?_
        refine lv_if_ne (tgt := 74) X.1 X.2.1 d_K_beginRegister_62 (by decide) (fun hz5 => absurd (by decide) hz5) (fun hz5 => ?_)
        refine lv_aload_n X.1 X.2.1 d_K_beginRegister_65 rfl (lv_at hl 2 rfl) ?_
        refine r_geti X hM rfl hk0 f_K_29 rfl d_K_beginRegister_66 ?_
        refine lv_bipush (v := 40) X.1 X.2.1 d_K_beginRegister_69 (by decide) ?_
        refine lv_icmp_lt (tgt := 77) X.1 X.2.1 d_K_beginRegister_71 (by decide) (fun h71 => ?_) (fun h71 => ?_)
        · skip
          refine lv_aload_n X.1 X.2.1 d_K_beginRegister_77 rfl (lv_at hl 1 rfl) ?_
          refine lv_ifnonnull (tgt := 90) X.1 X.2.1 d_K_beginRegister_78 (by decide) ?_
          have hwA := hw
          have htA := ht
          have hoA := ho
          have hsA := hs
          have h40 := (lt40 hw).mp h71
          have hgA : g < gn (M) 5 := (hrl g h44)
          obtain ⟨k2, hk2, hs2⟩ := hoA.2.1 g hgA
          refine lv_aload_n X.1 X.2.1 d_K_beginRegister_90 rfl (lv_at hl 1 rfl) ?_
          refine lv_iconst (v := 0) X.1 X.2.1 d_K_beginRegister_91 (by decide) ?_
          refine r_puti X hM rfl hgA p_K_236 rfl rfl rfl d_K_beginRegister_92 (fun H locs hM => ?_)
          have hw0 := kp_w (rr0_kp (M) g) hwA
          have ht0 : wT (rr0 (M) g) := kt_w (M := M) rfl htA
          have ho0 := kq_o (kp_q (rr0_kp (M) g)) hoA
          have hs0 : gi (rr0 (M) g) 5 g 1 = nI k2 := by unfold rr0; rw [gi_si, if_neg (by omega)]; exact hs2
          have hs3 : gi (rr0 (M) g) 4 j 3 = nI k := hsA
          refine lv_aload_n X.1 X.2.1 d_K_beginRegister_95 rfl (lv_at hl 1 rfl) ?_
          refine r_geti X hM rfl hgA f_K_235 rfl d_K_beginRegister_96 ?_
          refine lv_aload_n X.1 X.2.1 d_K_beginRegister_99 rfl (lv_at hl 3 rfl) ?_
          refine r_geti X hM rfl hj f_K_114 rfl d_K_beginRegister_100 ?_
          refine lv_icmp_ne (tgt := 116) X.1 X.2.1 d_K_beginRegister_103 (by decide) (fun h103 => ?_) (fun h103 => ?_)
          · skip
            refine lv_aload_n X.1 X.2.1 d_K_beginRegister_116 rfl (lv_at hl 1 rfl) ?_
            refine lv_aload_n X.1 X.2.1 d_K_beginRegister_117 rfl (lv_at hl 3 rfl) ?_
            refine r_geti X hM rfl hj f_K_114 rfl d_K_beginRegister_118 ?_
            refine r_puti X hM rfl hgA p_K_235 rfl rfl rfl d_K_beginRegister_121 (fun H locs hM => ?_)
            have hB : mSt D dA base (rr1 (M) g (nI k)) ad s.heap H locs := by have hM : mSt D dA base (si (rr0 (M) g) 5 g 1 (gi (rr0 (M) g) 4 j 3)) ad s.heap H locs := hM; rw [hs3] at hM; exact hM
            clear hM
            have hM := hB
            have hw1 : wK (rr1 (M) g (nI k)) := si51_w hw0 _ _
            have ht1 : wT (rr1 (M) g (nI k)) := si51_wT ht0 _ _
            have ho1 : wO (rr1 (M) g (nI k)) := si51_o ho0 _ hk
            have hs1 : gi (rr1 (M) g (nI k)) 5 g 1 = nI k := by unfold rr1; rw [gi_si, if_pos ⟨rfl, rfl, rfl⟩]
            refine lv_aload_n X.1 X.2.1 d_K_beginRegister_124 rfl (lv_at hl 2 rfl) ?_
            refine lv_aload_n X.1 X.2.1 d_K_beginRegister_125 rfl (lv_at hl 1 rfl) ?_
            refine r_cV (As := [.ref (ad 5 g)]) (rest := []) X hml hl.1 hM (k_K_beginInstall l D dA base (rr1 (M) g (nI k)) ad hw1 ht1 ho1 g k hgA hk hs1 h40) c_K_321 v_K_beginInstall kc_K rfl hk0 rfl (Nat.le_of_ble_eq_true rfl) ⟨rfl, rfl, Nat.le_of_ble_eq_true rfl, Nat.le_of_ble_eq_true rfl⟩ ⟨Nat.le_of_ble_eq_true rfl, Nat.le_of_ble_eq_true rfl⟩ d_K_beginRegister_126 ?_
            intro rv M1 ad_7 H locs hP hM hE_8
            obtain ⟨e1, e2⟩ := hP
            subst rv; subst M1
            show W _ _ _ _ _ _ _ _ _ _ _ _ _ _ _ (F0 m 129 ls [])
            refine lv_iconst (v := 0) X.1 X.2.1 d_K_beginRegister_129 (by decide) ?_
            have hR : rr2 (M) g (nI k) = (0, biM (rr1 (M) g (nI k)) g k) := by unfold rr2; rw [if_neg (fun z => h103 (((rr0_g _ _).trans z.1).trans hs3.symm)), nI_clamp (by omega)]
            have hF : rrM M j = (0, biM (rr1 (M) g (nI k)) g k) := by unfold rrM; rw [hs, nI_clamp (by omega)]; rw [if_pos (bn0 h19), if_neg h28, h44]; exact (if_pos ((lt40 hw).mp h71)).trans hR
            exact m_iret X hr hlk hM d_K_beginRegister_130 ⟨Nat.le_of_ble_eq_true rfl, Nat.le_of_ble_eq_true rfl⟩ (mExt_tr (mExt_rf _ _) hE_8) ⟨by rw [hF], by rw [hF]⟩
          · skip
            refine lv_aload_n X.1 X.2.1 d_K_beginRegister_106 rfl (lv_at hl 2 rfl) ?_
            refine lv_aload_n X.1 X.2.1 d_K_beginRegister_107 rfl (lv_at hl 1 rfl) ?_
            refine r_cV (As := [.ref (ad 5 g)]) (rest := []) X hml hl.1 hM (k_K_isUpToDate l D dA base (rr0 (M) g) ad hw0 g k2 hgA hs0 hk2) c_K_317 v_K_isUpToDate kc_K rfl hk0 rfl (Nat.le_of_ble_eq_true rfl) ⟨rfl, rfl, Nat.le_of_ble_eq_true rfl, Nat.le_of_ble_eq_true rfl⟩ ⟨Nat.le_of_ble_eq_true rfl, Nat.le_of_ble_eq_true rfl⟩ d_K_beginRegister_108 ?_
            intro rv M1 ad1 H locs hP hM hE
            obtain ⟨e1, e2, e3⟩ := hP
            subst rv; subst M1; subst ad1
            show W _ _ _ _ _ _ _ _ _ _ _ _ _ _ _ (F0 m 111 ls [.int (if upD (rr0 (M) g) g = true then 1 else 0)])
            refine lv_if_eq (tgt := 116) X.1 X.2.1 d_K_beginRegister_111 (by decide) (fun h111 => ?_) (fun h111 => ?_)
            · skip
              refine lv_aload_n X.1 X.2.1 d_K_beginRegister_116 rfl (lv_at hl 1 rfl) ?_
              refine lv_aload_n X.1 X.2.1 d_K_beginRegister_117 rfl (lv_at hl 3 rfl) ?_
              refine r_geti X hM rfl hj f_K_114 rfl d_K_beginRegister_118 ?_
              refine r_puti X hM rfl hgA p_K_235 rfl rfl rfl d_K_beginRegister_121 (fun H locs hM => ?_)
              have hB : mSt D dA base (rr1 (M) g (nI k)) ad s.heap H locs := by have hM : mSt D dA base (si (rr0 (M) g) 5 g 1 (gi (rr0 (M) g) 4 j 3)) ad s.heap H locs := hM; rw [hs3] at hM; exact hM
              clear hM
              have hM := hB
              have hw1 : wK (rr1 (M) g (nI k)) := si51_w hw0 _ _
              have ht1 : wT (rr1 (M) g (nI k)) := si51_wT ht0 _ _
              have ho1 : wO (rr1 (M) g (nI k)) := si51_o ho0 _ hk
              have hs1 : gi (rr1 (M) g (nI k)) 5 g 1 = nI k := by unfold rr1; rw [gi_si, if_pos ⟨rfl, rfl, rfl⟩]
              refine lv_aload_n X.1 X.2.1 d_K_beginRegister_124 rfl (lv_at hl 2 rfl) ?_
              refine lv_aload_n X.1 X.2.1 d_K_beginRegister_125 rfl (lv_at hl 1 rfl) ?_
              refine r_cV (As := [.ref (ad 5 g)]) (rest := []) X hml hl.1 hM (k_K_beginInstall l D dA base (rr1 (M) g (nI k)) ad hw1 ht1 ho1 g k hgA hk hs1 h40) c_K_321 v_K_beginInstall kc_K rfl hk0 rfl (Nat.le_of_ble_eq_true rfl) ⟨rfl, rfl, Nat.le_of_ble_eq_true rfl, Nat.le_of_ble_eq_true rfl⟩ ⟨Nat.le_of_ble_eq_true rfl, Nat.le_of_ble_eq_true rfl⟩ d_K_beginRegister_126 ?_
              intro rv M1 ad_11 H locs hP hM hE_12
              obtain ⟨e1, e2⟩ := hP
              subst rv; subst M1
              show W _ _ _ _ _ _ _ _ _ _ _ _ _ _ _ (F0 m 129 ls [])
              refine lv_iconst (v := 0) X.1 X.2.1 d_K_beginRegister_129 (by decide) ?_
              have hR : rr2 (M) g (nI k) = (0, biM (rr1 (M) g (nI k)) g k) := by unfold rr2; rw [if_neg (fun z => be0 h111 z.2), nI_clamp (by omega)]
              have hF : rrM M j = (0, biM (rr1 (M) g (nI k)) g k) := by unfold rrM; rw [hs, nI_clamp (by omega)]; rw [if_pos (bn0 h19), if_neg h28, h44]; exact (if_pos ((lt40 hw).mp h71)).trans hR
              exact m_iret X hr hlk hM d_K_beginRegister_130 ⟨Nat.le_of_ble_eq_true rfl, Nat.le_of_ble_eq_true rfl⟩ (mExt_tr (mExt_rf _ _) hE_12) ⟨by rw [hF], by rw [hF]⟩
            · skip
              refine lv_iconst (v := 2) X.1 X.2.1 d_K_beginRegister_114 (by decide) ?_
              have hR : rr2 (M) g (nI k) = (2, rr0 (M) g) := if_pos ⟨(rr0_g _ _).symm.trans (h103.trans hs3), bn0 h111⟩
              have hF : rrM M j = (2, rr0 (M) g) := by unfold rrM; rw [hs, nI_clamp (by omega)]; rw [if_pos (bn0 h19), if_neg h28, h44]; exact (if_pos ((lt40 hw).mp h71)).trans hR
              exact m_iret X hr hlk hM d_K_beginRegister_115 ⟨Nat.le_of_ble_eq_true rfl, Nat.le_of_ble_eq_true rfl⟩ (mExt_rf _ _) ⟨by rw [hF], by rw [hF]⟩
        · skip
          refine lv_bipush (v := (-5)) X.1 X.2.1 d_K_beginRegister_74 (by decide) ?_
          have hF : rrM M j = (-5, M) := by unfold rrM; rw [hs, nI_clamp (by omega)]; rw [if_pos (bn0 h19), if_neg h28, h44]; exact if_neg (fun z => h71 ((lt40 hw).mpr z))
          exact m_iret X hr hlk hM d_K_beginRegister_76 ⟨Nat.le_of_ble_eq_true rfl, Nat.le_of_ble_eq_true rfl⟩ (mExt_rf _ _) ⟨by rw [hF], by rw [hF]⟩
      · skip
        rw [h44] at hl
        have hl : lv_has ls 4 [(2, .null), (0, .ref (ad 0 0)), (1, .ref (ad 4 j))] := hl
        refine lv_aload_n X.1 X.2.1 d_K_beginRegister_47 rfl (lv_at hl 1 rfl) ?_
        refine r_geti X hM rfl hk0 f_K_38 rfl d_K_beginRegister_48 ?_
        refine lv_iconst (v := 5) X.1 X.2.1 d_K_beginRegister_51 (by decide) ?_
        refine lv_icmp_lt (tgt := 59) X.1 X.2.1 d_K_beginRegister_52 (by decide) (fun h52 => ?_) (fun h52 => ?_)
        · skip
          refine lv_iconst (v := 0) X.1 X.2.1 d_K_beginRegister_59 (by decide) ?_
          refine lv_istore_n (lv' := [(3, .int 0), (2, .null), (0, .ref (ad 0 0)), (1, .ref (ad 4 j))]) X.1 X.2.1 d_K_beginRegister_60 rfl hl (by decide) rfl (fun ls hl => ?_)
          refine lv_iload_n X.1 X.2.1 d_K_beginRegister_61 rfl (lv_at hl 0 rfl) ?_
          refine lv_if_ne (tgt := 74) X.1 X.2.1 d_K_beginRegister_62 (by decide) (fun hz13 => absurd (by decide) hz13) (fun hz13 => ?_)
          refine lv_aload_n X.1 X.2.1 d_K_beginRegister_65 rfl (lv_at hl 2 rfl) ?_
          refine r_geti X hM rfl hk0 f_K_29 rfl d_K_beginRegister_66 ?_
          refine lv_bipush (v := 40) X.1 X.2.1 d_K_beginRegister_69 (by decide) ?_
          refine lv_icmp_lt (tgt := 77) X.1 X.2.1 d_K_beginRegister_71 (by decide) (fun h71 => ?_) (fun h71 => ?_)
          · skip
            refine lv_aload_nN X.1 X.2.1 d_K_beginRegister_77 rfl (lv_at hl 1 rfl) ?_
            refine lv_ifnonnullN X.1 X.2.1 d_K_beginRegister_78 ?_
            refine lv_aload_n X.1 X.2.1 d_K_beginRegister_81 rfl (lv_at hl 2 rfl) ?_
            refine lv_aload_n X.1 X.2.1 d_K_beginRegister_82 rfl (lv_at hl 3 rfl) ?_
            refine r_geti X hM rfl hj f_K_296 rfl d_K_beginRegister_83 ?_
            refine r_cV (As := [.int (gi M 4 j 2)]) (rest := []) X hml hl.1 hM (k_K_addRegistration l D dA base M ad hw (gi M 4 j 2) ((lt5 hw).mp h52)) c_K_314 v_K_addRegistration kc_K rfl hk0 rfl (Nat.le_of_ble_eq_true rfl) ⟨rfl, rfl, Nat.le_of_ble_eq_true rfl, Nat.le_of_ble_eq_true rfl⟩ ⟨Nat.le_of_ble_eq_true rfl, Nat.le_of_ble_eq_true rfl⟩ d_K_beginRegister_86 ?_
            intro rv M1 ad_15 H locs hP hM hE_16
            obtain ⟨e1, e2⟩ := hP
            subst rv; subst M1
            have hgN : gn M 5 < gn (arM M (gi M 4 j 2)) 5 := by rw [arM_gn, if_pos rfl]; omega
            show W _ _ _ _ _ _ _ _ _ _ _ _ _ _ _ (F0 m 89 ls [.ref (ad_15 5 ((gn M 5)))])
            refine lv_astore_n (lv' := [(2, .ref (ad_15 5 ((gn M 5)))), (3, .int 0), (0, .ref (ad 0 0)), (1, .ref (ad 4 j))]) X.1 X.2.1 d_K_beginRegister_89 rfl hl (by decide) rfl (fun ls hl => ?_)
            have hwA := arM_w hw (gi M 4 j 2) ((lt5 hw).mp h52)
            have htA := arM_wT ht (gi M 4 j 2)
            have hoA := arM_o ho (gi M 4 j 2)
            have hsA : gi (arM M (gi M 4 j 2)) 4 j 3 = nI k := by rw [arM_gi M _ (by omega) (by omega)]; exact hs
            have h40 : gn (arM M (gi M 4 j 2)) 7 < 40 := (lt40 hw).mp h71
            have hgA : (gn M 5) < gn (arM M (gi M 4 j 2)) 5 := hgN
            obtain ⟨k2, hk2, hs2⟩ := hoA.2.1 (gn M 5) hgA
            refine lv_aload_n X.1 X.2.1 d_K_beginRegister_90 rfl (lv_at hl 0 rfl) ?_
            refine lv_iconst (v := 0) X.1 X.2.1 d_K_beginRegister_91 (by decide) ?_
            refine r_puti X hM rfl hgA p_K_236 rfl rfl rfl d_K_beginRegister_92 (fun H locs hM => ?_)
            have hw0 := kp_w (rr0_kp (arM M (gi M 4 j 2)) (gn M 5)) hwA
            have ht0 : wT (rr0 (arM M (gi M 4 j 2)) (gn M 5)) := kt_w (M := arM M (gi M 4 j 2)) rfl htA
            have ho0 := kq_o (kp_q (rr0_kp (arM M (gi M 4 j 2)) (gn M 5))) hoA
            have hs0 : gi (rr0 (arM M (gi M 4 j 2)) (gn M 5)) 5 (gn M 5) 1 = nI k2 := by unfold rr0; rw [gi_si, if_neg (by omega)]; exact hs2
            have hs3 : gi (rr0 (arM M (gi M 4 j 2)) (gn M 5)) 4 j 3 = nI k := hsA
            refine lv_aload_n X.1 X.2.1 d_K_beginRegister_95 rfl (lv_at hl 0 rfl) ?_
            refine r_geti X hM rfl hgA f_K_235 rfl d_K_beginRegister_96 ?_
            refine lv_aload_n X.1 X.2.1 d_K_beginRegister_99 rfl (lv_at hl 3 rfl) ?_
            refine r_geti X hM (hE_16.1 4 j hj) (Nat.lt_of_lt_of_le hj (hE_16.2 _)) f_K_114 rfl d_K_beginRegister_100 ?_
            refine lv_icmp_ne (tgt := 116) X.1 X.2.1 d_K_beginRegister_103 (by decide) (fun h103 => ?_) (fun h103 => ?_)
            · skip
              refine lv_aload_n X.1 X.2.1 d_K_beginRegister_116 rfl (lv_at hl 0 rfl) ?_
              refine lv_aload_n X.1 X.2.1 d_K_beginRegister_117 rfl (lv_at hl 3 rfl) ?_
              refine r_geti X hM (hE_16.1 4 j hj) (Nat.lt_of_lt_of_le hj (hE_16.2 _)) f_K_114 rfl d_K_beginRegister_118 ?_
              refine r_puti X hM rfl hgA p_K_235 rfl rfl rfl d_K_beginRegister_121 (fun H locs hM => ?_)
              have hB : mSt D dA base (rr1 (arM M (gi M 4 j 2)) (gn M 5) (nI k)) ad_15 s.heap H locs := by have hM : mSt D dA base (si (rr0 (arM M (gi M 4 j 2)) (gn M 5)) 5 (gn M 5) 1 (gi (rr0 (arM M (gi M 4 j 2)) (gn M 5)) 4 j 3)) ad_15 s.heap H locs := hM; rw [hs3] at hM; exact hM
              clear hM
              have hM := hB
              have hw1 : wK (rr1 (arM M (gi M 4 j 2)) (gn M 5) (nI k)) := si51_w hw0 _ _
              have ht1 : wT (rr1 (arM M (gi M 4 j 2)) (gn M 5) (nI k)) := si51_wT ht0 _ _
              have ho1 : wO (rr1 (arM M (gi M 4 j 2)) (gn M 5) (nI k)) := si51_o ho0 _ hk
              have hs1 : gi (rr1 (arM M (gi M 4 j 2)) (gn M 5) (nI k)) 5 (gn M 5) 1 = nI k := by unfold rr1; rw [gi_si, if_pos ⟨rfl, rfl, rfl⟩]
              refine lv_aload_n X.1 X.2.1 d_K_beginRegister_124 rfl (lv_at hl 2 rfl) ?_
              refine lv_aload_n X.1 X.2.1 d_K_beginRegister_125 rfl (lv_at hl 0 rfl) ?_
              have hC9 := (k_K_beginInstall l D dA base (rr1 (arM M (gi M 4 j 2)) (gn M 5) (nI k)) ad_15 hw1 ht1 ho1 (gn M 5) k hgA hk hs1 h40)
              rw [(hE_16.1 0 0 hk0)] at hC9
              refine r_cV (As := [.ref (ad_15 5 ((gn M 5)))]) (rest := []) X hml hl.1 hM hC9 c_K_321 v_K_beginInstall kc_K (hE_16.1 0 0 hk0) (Nat.lt_of_lt_of_le hk0 (hE_16.2 _)) rfl (Nat.le_of_ble_eq_true rfl) ⟨rfl, rfl, Nat.le_of_ble_eq_true rfl, Nat.le_of_ble_eq_true rfl⟩ ⟨Nat.le_of_ble_eq_true rfl, Nat.le_of_ble_eq_true rfl⟩ d_K_beginRegister_126 ?_
              intro rv M1 ad_18 H locs hP hM hE_19
              obtain ⟨e1, e2⟩ := hP
              subst rv; subst M1
              show W _ _ _ _ _ _ _ _ _ _ _ _ _ _ _ (F0 m 129 ls [])
              refine lv_iconst (v := 0) X.1 X.2.1 d_K_beginRegister_129 (by decide) ?_
              have hR : rr2 (arM M (gi M 4 j 2)) (gn M 5) (nI k) = (0, biM (rr1 (arM M (gi M 4 j 2)) (gn M 5) (nI k)) (gn M 5) k) := by unfold rr2; rw [if_neg (fun z => h103 (((rr0_g _ _).trans z.1).trans hs3.symm)), nI_clamp (by omega)]
              have hF : rrM M j = (0, biM (rr1 (arM M (gi M 4 j 2)) (gn M 5) (nI k)) (gn M 5) k) := by unfold rrM; rw [hs, nI_clamp (by omega)]; rw [if_pos (bn0 h19), if_neg h28, h44]; exact (if_pos ⟨(lt5 hw).mp h52, (lt40 hw).mp h71⟩).trans hR
              exact m_iret X hr hlk hM d_K_beginRegister_130 ⟨Nat.le_of_ble_eq_true rfl, Nat.le_of_ble_eq_true rfl⟩ (mExt_tr (mExt_tr (mExt_rf _ _) hE_16) hE_19) ⟨by rw [hF], by rw [hF]⟩
            · skip
              refine lv_aload_n X.1 X.2.1 d_K_beginRegister_106 rfl (lv_at hl 2 rfl) ?_
              refine lv_aload_n X.1 X.2.1 d_K_beginRegister_107 rfl (lv_at hl 0 rfl) ?_
              have hC9 := (k_K_isUpToDate l D dA base (rr0 (arM M (gi M 4 j 2)) (gn M 5)) ad_15 hw0 (gn M 5) k2 hgA hs0 hk2)
              rw [(hE_16.1 0 0 hk0)] at hC9
              refine r_cV (As := [.ref (ad_15 5 ((gn M 5)))]) (rest := []) X hml hl.1 hM hC9 c_K_317 v_K_isUpToDate kc_K (hE_16.1 0 0 hk0) (Nat.lt_of_lt_of_le hk0 (hE_16.2 _)) rfl (Nat.le_of_ble_eq_true rfl) ⟨rfl, rfl, Nat.le_of_ble_eq_true rfl, Nat.le_of_ble_eq_true rfl⟩ ⟨Nat.le_of_ble_eq_true rfl, Nat.le_of_ble_eq_true rfl⟩ d_K_beginRegister_108 ?_
              intro rv M1 ad1 H locs hP hM hE
              obtain ⟨e1, e2, e3⟩ := hP
              subst rv; subst M1; subst ad1
              show W _ _ _ _ _ _ _ _ _ _ _ _ _ _ _ (F0 m 111 ls [.int (if upD (rr0 (arM M (gi M 4 j 2)) (gn M 5)) (gn M 5) = true then 1 else 0)])
              refine lv_if_eq (tgt := 116) X.1 X.2.1 d_K_beginRegister_111 (by decide) (fun h111 => ?_) (fun h111 => ?_)
              · skip
                refine lv_aload_n X.1 X.2.1 d_K_beginRegister_116 rfl (lv_at hl 0 rfl) ?_
                refine lv_aload_n X.1 X.2.1 d_K_beginRegister_117 rfl (lv_at hl 3 rfl) ?_
                refine r_geti X hM (hE_16.1 4 j hj) (Nat.lt_of_lt_of_le hj (hE_16.2 _)) f_K_114 rfl d_K_beginRegister_118 ?_
                refine r_puti X hM rfl hgA p_K_235 rfl rfl rfl d_K_beginRegister_121 (fun H locs hM => ?_)
                have hB : mSt D dA base (rr1 (arM M (gi M 4 j 2)) (gn M 5) (nI k)) ad_15 s.heap H locs := by have hM : mSt D dA base (si (rr0 (arM M (gi M 4 j 2)) (gn M 5)) 5 (gn M 5) 1 (gi (rr0 (arM M (gi M 4 j 2)) (gn M 5)) 4 j 3)) ad_15 s.heap H locs := hM; rw [hs3] at hM; exact hM
                clear hM
                have hM := hB
                have hw1 : wK (rr1 (arM M (gi M 4 j 2)) (gn M 5) (nI k)) := si51_w hw0 _ _
                have ht1 : wT (rr1 (arM M (gi M 4 j 2)) (gn M 5) (nI k)) := si51_wT ht0 _ _
                have ho1 : wO (rr1 (arM M (gi M 4 j 2)) (gn M 5) (nI k)) := si51_o ho0 _ hk
                have hs1 : gi (rr1 (arM M (gi M 4 j 2)) (gn M 5) (nI k)) 5 (gn M 5) 1 = nI k := by unfold rr1; rw [gi_si, if_pos ⟨rfl, rfl, rfl⟩]
                refine lv_aload_n X.1 X.2.1 d_K_beginRegister_124 rfl (lv_at hl 2 rfl) ?_
                refine lv_aload_n X.1 X.2.1 d_K_beginRegister_125 rfl (lv_at hl 0 rfl) ?_
                have hC9 := (k_K_beginInstall l D dA base (rr1 (arM M (gi M 4 j 2)) (gn M 5) (nI k)) ad_15 hw1 ht1 ho1 (gn M 5) k hgA hk hs1 h40)
                rw [(hE_16.1 0 0 hk0)] at hC9
                refine r_cV (As := [.ref (ad_15 5 ((gn M 5)))]) (rest := []) X hml hl.1 hM hC9 c_K_321 v_K_beginInstall kc_K (hE_16.1 0 0 hk0) (Nat.lt_of_lt_of_le hk0 (hE_16.2 _)) rfl (Nat.le_of_ble_eq_true rfl) ⟨rfl, rfl, Nat.le_of_ble_eq_true rfl, Nat.le_of_ble_eq_true rfl⟩ ⟨Nat.le_of_ble_eq_true rfl, Nat.le_of_ble_eq_true rfl⟩ d_K_beginRegister_126 ?_
                intro rv M1 ad_22 H locs hP hM hE_23
                obtain ⟨e1, e2⟩ := hP
                subst rv; subst M1
                show W _ _ _ _ _ _ _ _ _ _ _ _ _ _ _ (F0 m 129 ls [])
                refine lv_iconst (v := 0) X.1 X.2.1 d_K_beginRegister_129 (by decide) ?_
                have hR : rr2 (arM M (gi M 4 j 2)) (gn M 5) (nI k) = (0, biM (rr1 (arM M (gi M 4 j 2)) (gn M 5) (nI k)) (gn M 5) k) := by unfold rr2; rw [if_neg (fun z => be0 h111 z.2), nI_clamp (by omega)]
                have hF : rrM M j = (0, biM (rr1 (arM M (gi M 4 j 2)) (gn M 5) (nI k)) (gn M 5) k) := by unfold rrM; rw [hs, nI_clamp (by omega)]; rw [if_pos (bn0 h19), if_neg h28, h44]; exact (if_pos ⟨(lt5 hw).mp h52, (lt40 hw).mp h71⟩).trans hR
                exact m_iret X hr hlk hM d_K_beginRegister_130 ⟨Nat.le_of_ble_eq_true rfl, Nat.le_of_ble_eq_true rfl⟩ (mExt_tr (mExt_tr (mExt_rf _ _) hE_16) hE_23) ⟨by rw [hF], by rw [hF]⟩
              · skip
                refine lv_iconst (v := 2) X.1 X.2.1 d_K_beginRegister_114 (by decide) ?_
                have hR : rr2 (arM M (gi M 4 j 2)) (gn M 5) (nI k) = (2, rr0 (arM M (gi M 4 j 2)) (gn M 5)) := if_pos ⟨(rr0_g _ _).symm.trans (h103.trans hs3), bn0 h111⟩
                have hF : rrM M j = (2, rr0 (arM M (gi M 4 j 2)) (gn M 5)) := by unfold rrM; rw [hs, nI_clamp (by omega)]; rw [if_pos (bn0 h19), if_neg h28, h44]; exact (if_pos ⟨(lt5 hw).mp h52, (lt40 hw).mp h71⟩).trans hR
                exact m_iret X hr hlk hM d_K_beginRegister_115 ⟨Nat.le_of_ble_eq_true rfl, Nat.le_of_ble_eq_true rfl⟩ (mExt_tr (mExt_rf _ _) hE_16) ⟨by rw [hF], by rw [hF]⟩
          · skip
            refine lv_bipush (v := (-5)) X.1 X.2.1 d_K_beginRegister_74 (by decide) ?_
            have hF : rrM M j = (-5, M) := by unfold rrM; rw [hs, nI_clamp (by omega)]; rw [if_pos (bn0 h19), if_neg h28, h44]; exact if_neg (fun z => h71 ((lt40 hw).mpr z.2))
            exact m_iret X hr hlk hM d_K_beginRegister_76 ⟨Nat.le_of_ble_eq_true rfl, Nat.le_of_ble_eq_true rfl⟩ (mExt_rf _ _) ⟨by rw [hF], by rw [hF]⟩
        · skip
          refine lv_iconst (v := 1) X.1 X.2.1 d_K_beginRegister_55 (by decide) ?_
          refine lv_goto (tgt := 60) X.1 X.2.1 d_K_beginRegister_56 (by decide) ?_
          refine lv_istore_n (lv' := [(3, .int 1), (2, .null), (0, .ref (ad 0 0)), (1, .ref (ad 4 j))]) X.1 X.2.1 d_K_beginRegister_60 rfl hl (by decide) rfl (fun ls hl => ?_)
          refine lv_iload_n X.1 X.2.1 d_K_beginRegister_61 rfl (lv_at hl 0 rfl) ?_
          refine lv_if_ne (tgt := 74) X.1 X.2.1 d_K_beginRegister_62 (by decide) (fun hz24 => ?_) (fun hz24 => absurd hz24 (by decide))
          refine lv_bipush (v := (-5)) X.1 X.2.1 d_K_beginRegister_74 (by decide) ?_
          have hF : rrM M j = (-5, M) := by unfold rrM; rw [hs, nI_clamp (by omega)]; rw [if_pos (bn0 h19), if_neg h28, h44]; exact if_neg (fun z => h52 ((lt5 hw).mpr z.1))
          exact m_iret X hr hlk hM d_K_beginRegister_76 ⟨Nat.le_of_ble_eq_true rfl, Nat.le_of_ble_eq_true rfl⟩ (mExt_rf _ _) ⟨by rw [hF], by rw [hF]⟩
    · skip
      refine lv_bipush (v := (-4)) X.1 X.2.1 d_K_beginRegister_31 (by decide) ?_
      have hF : rrM M j = (-4, M) := by unfold rrM; rw [hs, nI_clamp (by omega)]; rw [if_pos (bn0 h19), if_pos h28]
      exact m_iret X hr hlk hM d_K_beginRegister_33 ⟨Nat.le_of_ble_eq_true rfl, Nat.le_of_ble_eq_true rfl⟩ (mExt_rf _ _) ⟨by rw [hF], by rw [hF]⟩
  · skip
    refine lv_iconst (v := (-1)) X.1 X.2.1 d_K_beginRegister_22 (by decide) ?_
    have hF : rrM M j = (-1, M) := by unfold rrM; rw [hs, nI_clamp (by omega)]; exact if_neg (be0 h19)
    exact m_iret X hr hlk hM d_K_beginRegister_23 ⟨Nat.le_of_ble_eq_true rfl, Nat.le_of_ble_eq_true rfl⟩ (mExt_rf _ _) ⟨by rw [hF], by rw [hF]⟩
set_option maxHeartbeats 4000000 in
set_option maxRecDepth 100000 in
theorem k_K_beginJob (l : Launch) (D : va_G) (dA : Nat → ClassId) (base : Nat) (M : mM) (ad : Nat → Nat → Nat) (hw : wK M) (ht : wT M) (ho : wO M) (j : Nat) (hj : j < gn M 4) : mMet l y_K_beginJob b_K_beginJob 2 (some FieldType.int) ({ frames := 6, cells := 5, slots := 26, locals := 200 } : Room) 5 26 D dA base M ad [.ref (ad 0 0), .ref (ad 4 j)] (fun rv M' ad' => rv = some (.int (bjM M j).1) ∧ M' = (bjM M j).2) := by
  refine m_start (lvs := [(0, .ref (ad 0 0)), (1, .ref (ad 4 j))]) (by decide) (Nat.le_of_ble_eq_true rfl) rfl ?_
  intro p e s m below meth c ls X hr hlk hin hml hM hl
  have hk0 : 0 < gn M 0 := w_k hw
  refine lv_aload_n X.1 X.2.1 d_K_beginJob_0 rfl (lv_at hl 1 rfl) ?_
  refine r_geti X hM rfl hj f_K_111 rfl d_K_beginJob_1 ?_
  by_cases hs_0 : gi M 4 j 1 = 0
  · skip
    refine W.eq (g2 := F0 m 4 ls (.int 0 :: [])) (by rw [hs_0]) ?_
    refine lv_lookup (tgt := 32) X.1 X.2.1 d_K_beginJob_4 (by decide) rfl (by decide) ?_
    refine lv_aload_n X.1 X.2.1 d_K_beginJob_32 rfl (lv_at hl 0 rfl) ?_
    refine lv_aload_n X.1 X.2.1 d_K_beginJob_33 rfl (lv_at hl 1 rfl) ?_
    refine r_cV (As := [.ref (ad 4 j)]) (rest := []) X hml hl.1 hM (k_K_beginRegister l D dA base M ad hw ht ho j hj) c_K_301 v_K_beginRegister kc_K rfl hk0 rfl (Nat.le_of_ble_eq_true rfl) ⟨rfl, rfl, Nat.le_of_ble_eq_true rfl, Nat.le_of_ble_eq_true rfl⟩ ⟨Nat.le_of_ble_eq_true rfl, Nat.le_of_ble_eq_true rfl⟩ d_K_beginJob_34 ?_
    intro rv M1 ad_2 H locs hP hM hE_3
    obtain ⟨e1, e2⟩ := hP
    subst rv; subst M1
    show W _ _ _ _ _ _ _ _ _ _ _ _ _ _ _ (F0 m 37 ls [.int ((rrM M j).1)])
    have hF : bjM M j = rrM M j := if_pos hs_0
    exact m_iret X hr hlk hM d_K_beginJob_37 ⟨Nat.le_of_ble_eq_true rfl, Nat.le_of_ble_eq_true rfl⟩ (mExt_tr (mExt_rf _ _) hE_3) ⟨by rw [hF], by rw [hF]⟩
  by_cases hs_1 : gi M 4 j 1 = 1
  · skip
    refine W.eq (g2 := F0 m 4 ls (.int 1 :: [])) (by rw [hs_1]) ?_
    refine lv_lookup (tgt := 38) X.1 X.2.1 d_K_beginJob_4 (by decide) rfl (by decide) ?_
    refine lv_aload_n X.1 X.2.1 d_K_beginJob_38 rfl (lv_at hl 0 rfl) ?_
    refine lv_aload_n X.1 X.2.1 d_K_beginJob_39 rfl (lv_at hl 1 rfl) ?_
    refine r_geti X hM rfl hj f_K_296 rfl d_K_beginJob_40 ?_
    refine r_cV (As := [.int (gi M 4 j 2)]) (rest := []) X hml hl.1 hM (k_K_beginUpdate l D dA base M ad hw ht ho (gi M 4 j 2)) c_K_304 v_K_beginUpdate kc_K rfl hk0 rfl (Nat.le_of_ble_eq_true rfl) ⟨rfl, rfl, Nat.le_of_ble_eq_true rfl, Nat.le_of_ble_eq_true rfl⟩ ⟨Nat.le_of_ble_eq_true rfl, Nat.le_of_ble_eq_true rfl⟩ d_K_beginJob_43 ?_
    intro rv M1 ad_5 H locs hP hM hE_6
    obtain ⟨e1, e2⟩ := hP
    subst rv; subst M1
    show W _ _ _ _ _ _ _ _ _ _ _ _ _ _ _ (F0 m 46 ls [.int ((buM M (gi M 4 j 2)).1)])
    have hF : bjM M j = buM M (gi M 4 j 2) := by unfold bjM; rw [if_neg hs_0, if_pos hs_1]
    exact m_iret X hr hlk hM d_K_beginJob_46 ⟨Nat.le_of_ble_eq_true rfl, Nat.le_of_ble_eq_true rfl⟩ (mExt_tr (mExt_rf _ _) hE_6) ⟨by rw [hF], by rw [hF]⟩
  refine lv_lookup (off := 43) (tgt := 47) X.1 X.2.1 d_K_beginJob_4 (by decide) ((lv_osw (a := 0) hs_0 rfl).trans ((lv_osw (a := 1) hs_1 rfl).trans (rfl))) (by decide) ?_
  refine lv_aload_n X.1 X.2.1 d_K_beginJob_47 rfl (lv_at hl 0 rfl) ?_
  refine lv_aload_n X.1 X.2.1 d_K_beginJob_48 rfl (lv_at hl 1 rfl) ?_
  refine r_geti X hM rfl hj f_K_296 rfl d_K_beginJob_49 ?_
  refine r_cV (As := [.int (gi M 4 j 2)]) (rest := []) X hml hl.1 hM (k_K_unregister l D dA base M ad hw ht (gi M 4 j 2)) c_K_307 v_K_unregister kc_K rfl hk0 rfl (Nat.le_of_ble_eq_true rfl) ⟨rfl, rfl, Nat.le_of_ble_eq_true rfl, Nat.le_of_ble_eq_true rfl⟩ ⟨Nat.le_of_ble_eq_true rfl, Nat.le_of_ble_eq_true rfl⟩ d_K_beginJob_52 ?_
  intro rv M1 ad1 H locs hP hM hE
  obtain ⟨e1, e2, e3⟩ := hP
  subst rv; subst M1; subst ad1
  show W _ _ _ _ _ _ _ _ _ _ _ _ _ _ _ (F0 m 55 ls [.int ((unM M (gi M 4 j 2)).1)])
  have hF : bjM M j = unM M (gi M 4 j 2) := by unfold bjM; rw [if_neg hs_0, if_neg hs_1]
  exact m_iret X hr hlk hM d_K_beginJob_55 ⟨Nat.le_of_ble_eq_true rfl, Nat.le_of_ble_eq_true rfl⟩ (gn_ext (unM_gn M (gi M 4 j 2)) ad) ⟨by rw [hF], by rw [hF]⟩
end
section
theorem fstR_lv {M : mM} {x : Int32} {j : Nat} (h : fstR M x = some j) : j < gn M 4 := by
  have := ff_lt h
  omega
theorem fl_lt {p : Nat → Bool} : ∀ {n q : Nat}, fl p n = some q → q < n ∧ p q = true := by
  intro n
  induction n with
  | zero => intro q h; cases h
  | succ n ih =>
    intro q h
    by_cases hp : p n = true
    · rw [fl_t hp] at h; cases h; exact ⟨Nat.lt_succ_self _, hp⟩
    · rw [fl_f hp] at h; have := ih h; exact ⟨by omega, this.2⟩
theorem lstR_lv {M : mM} {x : Int32} {j : Nat} (h : lstR M x = some j) : j < gn M 4 := (fl_lt h).1
def stR (M : mM) (x : Int32) (j : Nat) : Int32 × mM := if gi M 4 j 4 = 0 then bjM M j else fiM M x
theorem stR_all {M : mM} (hw : wK M) (ht : wT M) (ho : wO M) (x : Int32) {j : Nat} (hj : j < gn M 4) : wK (stR M x j).2 ∧ wT (stR M x j).2 ∧ wO (stR M x j).2 ∧ gn (stR M x j).2 4 = gn M 4 := by
  unfold stR
  split
  · exact bjM_all hw ht ho hj
  · exact ⟨fiM_w hw x, fiM_wT ht x, kq_o (fiM_kq M x) ho, fiM_gn M x 4⟩
def st1 (R : mM) (j : Nat) : mM := si R 4 j 4 1
def st2 (R : mM) (j : Nat) (y : Int32) : mM := si (st1 R j) 4 j 5 y
theorem st1_kp (R : mM) (j : Nat) : kp R (st1 R j) := kp_si _ _ _ _ _ (by omega)
theorem st2_kp (R : mM) (j : Nat) (y : Int32) : kp R (st2 R j y) := kp_tr (st1_kp R j) (kp_si _ _ _ _ _ (by omega))
def stE (R : mM) (j : Nat) (y : Int32) : mM := if y = 0 then st1 R j else trA (st2 R j y) (1000 + nI j)
theorem stE_kp (R : mM) (j : Nat) (y : Int32) : kp R (stE R j y) := by
  unfold stE
  split
  · exact st1_kp R j
  · exact kp_tr (st2_kp R j y) (trA_kp _ _)
theorem stE_wT {R : mM} (ht : wT R) (j : Nat) (y : Int32) : wT (stE R j y) := by
  unfold stE
  split
  · exact kt_w (M := R) (M' := st1 R j) rfl ht
  · exact trA_wT (kt_w (M := R) (M' := st2 R j y) rfl ht) _
def spM (M : mM) (x : Int32) (j : Nat) : mM := stE (stR M x j).2 j (stR M x j).1
theorem spM_all {M : mM} (hw : wK M) (ht : wT M) (ho : wO M) (x : Int32) {j : Nat} (hj : j < gn M 4) : wK (spM M x j) ∧ wT (spM M x j) ∧ wO (spM M x j) ∧ gn (spM M x j) 4 = gn M 4 := by
  obtain ⟨h1, h2, h3, h4⟩ := stR_all hw ht ho x hj
  exact ⟨kp_w (stE_kp _ _ _) h1, stE_wT h2 _ _, kq_o (kp_q (stE_kp _ _ _)) h3, ((stE_kp _ _ _).1 4).trans h4⟩
def spXc (M : mM) (x : Int32) : Nat := if isP x = false then 1 else if fstR M x = none then 2 else 0
/-- a job's own script -/
def own0 (kd s : Int32) : Int32 := if kd = 0 then s else 0
/-- the job that is there already -/
def jsm (M : mM) (kd x o : Int32) : Option Nat := match lstR M x with
  | none => none
  | some q => if gi M 4 q 4 = 0 ∧ gi M 4 q 1 = kd ∧ gi M 4 q 3 = o then some q else none
def jb0 (M : mM) (kd x o : Int32) : mM := jbI (sn M 4) (gn M 4) (gi M 0 0 10) kd x o
theorem jb0_gn (M : mM) (kd x o : Int32) (a : Nat) : gn (jb0 M kd x o) a = if a = 4 then gn M 4 + 1 else gn M a := rfl
theorem jb0_gi (M : mM) (kd x o : Int32) {k i j : Nat} (h : ¬ (k = 4 ∧ i = gn M 4)) : gi (jb0 M kd x o) k i j = gi M k i j := by
  unfold jb0 jbI
  simp only [gi_si, gi_sn]
  rw [if_neg (by omega), if_neg (by omega), if_neg (by omega), if_neg (by omega), if_neg (by omega), if_neg (by omega), if_neg (by omega)]
theorem jb0_gr (M : mM) (kd x o : Int32) {k i j : Nat} (h : ¬ (k = 4 ∧ i = gn M 4)) : gr (jb0 M kd x o) k i j = gr M k i j := by
  unfold jb0 jbI
  simp only [gr_si, gr_sn]
  rw [if_neg (by omega)]
theorem jb0_new (M : mM) (kd x o : Int32) : gi (jb0 M kd x o) 4 (gn M 4) 0 = gi M 0 0 10 ∧ gi (jb0 M kd x o) 4 (gn M 4) 1 = kd ∧ gi (jb0 M kd x o) 4 (gn M 4) 2 = x ∧ gi (jb0 M kd x o) 4 (gn M 4) 3 = o ∧ gi (jb0 M kd x o) 4 (gn M 4) 4 = 0 ∧ gi (jb0 M kd x o) 4 (gn M 4) 5 = 0 := by
  unfold jb0 jbI
  refine ⟨?_, ?_, ?_, ?_, ?_, ?_⟩ <;> simp [gi_si]
/-- a new job in its place -/
def jnM (M : mM) (kd x o : Int32) : mM := si (sr (jb0 M kd x o) 13 0 (gn M 4) (some (gn M 4))) 0 0 10 (nI (gn M 4 + 1))
theorem jnM_gn (M : mM) (kd x o : Int32) (a : Nat) : gn (jnM M kd x o) a = if a = 4 then gn M 4 + 1 else gn M a := rfl
theorem jnM_gi (M : mM) (kd x o : Int32) {k i j : Nat} (h : ¬ (k = 4 ∧ i = gn M 4)) (h2 : ¬ (k = 0 ∧ j = 10)) : gi (jnM M kd x o) k i j = gi M k i j := by
  unfold jnM
  rw [gi_si, if_neg (by omega), gi_sr]; exact jb0_gi M kd x o h
theorem jnM_gr (M : mM) (kd x o : Int32) {k i j : Nat} (h : ¬ (k = 4 ∧ i = gn M 4)) (h2 : ¬ (k = 13 ∧ j = gn M 4)) : gr (jnM M kd x o) k i j = gr M k i j := by
  unfold jnM
  rw [gr_si, gr_sr, if_neg (by omega)]; exact jb0_gr M kd x o h
theorem jnM_new {M : mM} (hw : wK M) (kd x o : Int32) : gi (jnM M kd x o) 4 (gn M 4) 0 = nI (gn M 4) ∧ gi (jnM M kd x o) 4 (gn M 4) 1 = kd ∧ gi (jnM M kd x o) 4 (gn M 4) 2 = x ∧ gi (jnM M kd x o) 4 (gn M 4) 3 = o ∧ gi (jnM M kd x o) 4 (gn M 4) 4 = 0 ∧ gi (jnM M kd x o) 4 (gn M 4) 5 = 0 ∧ gr (jnM M kd x o) 13 0 (gn M 4) = some (gn M 4) := by
  obtain ⟨h0, h1, h2, h3, h4, h5⟩ := jb0_new M kd x o
  have e : ∀ j, gi (jnM M kd x o) 4 (gn M 4) j = gi (jb0 M kd x o) 4 (gn M 4) j := fun j => by
    unfold jnM
    rw [gi_si, if_neg (by omega), gi_sr]
  refine ⟨by rw [e, h0]; exact w_nj hw, by rw [e, h1], by rw [e, h2], by rw [e, h3], by rw [e, h4], by rw [e, h5], ?_⟩
  unfold jnM
  rw [gr_si, gr_sr, if_pos ⟨rfl, rfl, rfl⟩]
theorem jnM_w {M : mM} (hw : wK M) (kd x o : Int32) (h60 : gn M 4 < 60) : wK (jnM M kd x o) := by
  have en : ∀ a, a ≠ 4 → gn (jnM M kd x o) a = gn M a := fun a ha => by rw [jnM_gn, if_neg ha]
  have e4 : gn (jnM M kd x o) 4 = gn M 4 + 1 := rfl
  have e6 : nRg (jnM M kd x o) = nRg M := by unfold nRg; rw [jnM_gi M kd x o (by omega) (by omega)]
  have er : ∀ i, rgx (jnM M kd x o) i = rgx M i := fun i => by unfold rgx; rw [jnM_gr M kd x o (by omega) (by omega)]
  have g : ∀ {k i j : Nat}, ¬ (k = 4 ∧ i = gn M 4) → ¬ (k = 0 ∧ j = 10) → gi (jnM M kd x o) k i j = gi M k i j := fun h h2 => jnM_gi M kd x o h h2
  have r : ∀ {k i j : Nat}, ¬ (k = 4 ∧ i = gn M 4) → ¬ (k = 13 ∧ j = gn M 4) → gr (jnM M kd x o) k i j = gr M k i j := fun h h2 => jnM_gr M kd x o h h2
  refine ⟨⟨by rw [en 0 (by omega)]; exact w_k hw, ?_, ?_, ?_, ?_, ?_, ?_, ?_, by rw [r (by omega) (by omega)]; exact w_3_0 hw⟩, fun i hi => by rw [r (by omega) (by omega)]; exact w_sc hw hi, fun i hi => by rw [r (by omega) (by omega)]; exact w_cl hw hi, ⟨?_, ?_, ?_⟩, ⟨?_, ?_, ?_⟩, ?_, ?_, ?_⟩
  · rw [r (by omega) (by omega)]; exact w_0_0 hw
  · rw [r (by omega) (by omega)]; exact w_0_3 hw
  · rw [r (by omega) (by omega)]; exact w_0_5 hw
  · rw [r (by omega) (by omega)]; exact w_0_7 hw
  · rw [r (by omega) (by omega)]; exact w_0_8 hw
  · rw [r (by omega) (by omega)]; exact w_0_9 hw
  · rw [r (by omega) (by omega)]; exact w_0_11 hw
  · rw [g (by omega) (by omega), en 7 (by omega)]; exact w_nw hw
  · rw [en 7 (by omega)]; exact w_nwl hw
  · intro i hi
    rw [en 7 (by omega)] at hi
    rw [r (k := 9) (by omega) (by omega), r (k := 7) (by omega) (by omega), r (k := 6) (by omega) (by omega), r (k := 6) (by omega) (by omega), g (k := 7) (by omega) (by omega)]
    exact ⟨w_wk hw hi, w_num hw hi, w_7_4 hw hi, w_6_0 hw hi, w_6_1 hw hi⟩
  · rw [e6, g (by omega) (by omega)]; exact w_nr hw
  · rw [e6]; exact w_nrl hw
  · intro i hi
    rw [e6] at hi
    rw [er, r (by omega) (by omega)]; exact w_rg hw hi
  · rw [e4]; rfl
  · rw [e4]; omega
  · intro i hi
    rw [e4] at hi
    by_cases h : i = gn M 4
    · subst h
      obtain ⟨n0, -, -, -, -, -, n6⟩ := jnM_new hw kd x o
      exact ⟨n6, n0⟩
    · rw [r (k := 13) (by omega) (by omega), g (k := 4) (by omega) (by omega)]
      exact ⟨w_jb hw (by omega), w_jn hw (by omega)⟩
theorem jnM_wT {M : mM} (ht : wT M) (kd x o : Int32) : wT (jnM M kd x o) := kt_w (M := M) (jnM_gi M kd x o (by omega) (by omega)) ht
theorem jnM_o {M : mM} (hw : wK M) (ho : wO M) (kd x : Int32) {k : Nat} (hk : k < 4) : wO (jnM M kd x (nI k)) := by
  refine ⟨ho.1, fun i hi => ?_, fun i hi => ?_, fun i hi => ?_, by rw [jnM_gi M kd x _ (by omega) (by omega)]; exact ho.2.2.2.2⟩
  · rw [jnM_gi M kd x _ (by omega) (by omega)]; exact ho.2.1 i hi
  · by_cases h : i = gn M 4
    · subst h; exact ⟨k, hk, (jnM_new hw kd x (nI k)).2.2.2.1⟩
    · rw [jnM_gn, if_pos rfl] at hi
      rw [jnM_gi M kd x _ (by omega) (by omega)]; exact ho.2.2.1 i (by omega)
  · rw [jnM_gi M kd x _ (by omega) (by omega)]; exact ho.2.2.2.1 i hi
def jbXc (M : mM) (kd x s : Int32) : Nat := if ¬ (0 ≤ kd ∧ kd ≤ 2) ∨ isP x = false ∨ (kd = 0 ∧ ¬ (0 ≤ s ∧ s < 4)) then 1 else if jsm M kd x (own0 kd s) ≠ none then 0 else if lenR M x < 4 ∧ gn M 4 < 60 then 0 else 2
def jbM (M : mM) (kd x s : Int32) : Int32 × mM := match jsm M kd x (own0 kd s) with
  | some q => (nI q, M)
  | none => (nI (gn M 4), jnM M kd x (own0 kd s))
theorem lt60 {M : mM} (hw : wK M) : gi M 0 0 10 < 60 ↔ gn M 4 < 60 := by
  have h := w_njl hw
  rw [w_nj hw]
  exact ⟨fun z => (nI_ltI (by omega) (by decide)).mp z, fun z => nI_lt z (by decide)⟩
theorem ltR4 {M : mM} (hw : wK M) (x : Int32) : 4 ≤ nI (lenR M x) ↔ ¬ lenR M x < 4 := by
  have h := w_njl hw
  have h2 : lenR M x ≤ gn M 4 := cn_le _ _
  exact ⟨fun z u => nI_ge u (by decide) z, fun z => nI_le (Nat.not_lt.mp z) (by omega)⟩
theorem gn_ext9 {M : mM} {x : Int32} {j : Nat} (h : stR M x j = fiM M x) {ad : Nat → Nat → Nat} : mExt M ad (stR M x j).2 ad := gn_ext (fun a => by rw [h]; exact fiM_gn M x a) ad
set_option maxHeartbeats 4000000 in
set_option maxRecDepth 100000 in
theorem k_K_step (l : Launch) (hst : l.stackTraces = false) (D : va_G) (dA : Nat → ClassId) (base : Nat) (M : mM) (ad : Nat → Nat → Nat) (hw : wK M) (ht : wT M) (ho : wO M) (x : Int32) : mMetX l y_K_step b_K_step 4 (some FieldType.int) ({ frames := 8, cells := 6, slots := 32, locals := 260 } : Room) 6 32 D dA base M ad [.ref (ad 0 0), .int x] (fun rv M' ad' => ∃ j, spXc M x = 0 ∧ fstR M x = some j ∧ rv = some (.int (nI j)) ∧ M' = spM M x j) (fun E => (spXc M x = 1 ∧ E = "java/lang/IllegalArgumentException") ∨ (spXc M x = 2 ∧ E = "java/util/NoSuchElementException")) := by
  refine m_startX (lvs := [(0, .ref (ad 0 0)), (1, .int x)]) (by decide) (Nat.le_of_ble_eq_true rfl) rfl ?_
  intro p e s m below meth c ls X hr hlk hin hml hM hl hno
  have hk0 : 0 < gn M 0 := w_k hw
  refine lv_iload_n X.1 X.2.1 d_K_step_0 rfl (lv_at hl 1 rfl) ?_
  refine r_cSX (As := [.int x]) (rest := []) X hml hl.1 hM (k_K_refuseNoPath l hst D dA base M ad x) c_K_98 cx_K_98 v_K_refuseNoPath rfl (Nat.le_of_ble_eq_true rfl) ⟨rfl, rfl, Nat.le_of_ble_eq_true rfl, Nat.le_of_ble_eq_true rfl⟩ ⟨Nat.le_of_ble_eq_true rfl, Nat.le_of_ble_eq_true rfl⟩ d_K_step_1 (fun E ce q H locs hPx hM hy1 hy2 hy3 => m_out hM hlk hno (Or.inl ⟨if_pos hPx.1, hPx.2⟩) hy1 hy2 hy3 ⟨Nat.le_of_ble_eq_true rfl, Nat.le_of_ble_eq_true rfl⟩) ?_
  intro rv M1 ad1 H locs hP hM hE
  obtain ⟨hp, e1, e2, e3⟩ := hP
  subst rv; subst M1; subst ad1
  show W _ _ _ _ _ _ _ _ _ _ _ _ _ _ _ (F0 m 4 ls [])
  refine lv_aload_n X.1 X.2.1 d_K_step_4 rfl (lv_at hl 0 rfl) ?_
  refine lv_iload_n X.1 X.2.1 d_K_step_5 rfl (lv_at hl 1 rfl) ?_
  refine r_cV (As := [.int x]) (rest := []) X hml hl.1 hM (k_K_firstOfRow l D dA base M ad hw x) c_K_132 v_K_firstOfRow kc_K rfl hk0 rfl (Nat.le_of_ble_eq_true rfl) ⟨rfl, rfl, Nat.le_of_ble_eq_true rfl, Nat.le_of_ble_eq_true rfl⟩ ⟨Nat.le_of_ble_eq_true rfl, Nat.le_of_ble_eq_true rfl⟩ d_K_step_6 ?_
  intro rv M1 ad1 H locs hP hM hE
  obtain ⟨e1, e2, e3⟩ := hP
  subst rv; subst M1; subst ad1
  show W _ _ _ _ _ _ _ _ _ _ _ _ _ _ _ (F0 m 9 ls [rfv ad 4 (fstR M x)])
  refine r_astore_n (lv' := [(2, rfv ad 4 (fstR M x)), (0, .ref (ad 0 0)), (1, .int x)]) X.1 X.2.1 d_K_step_9 rfl hl (by decide) rfl (fun ls hl => ?_)
  refine r_aload_n X.1 X.2.1 d_K_step_10 rfl (lv_at hl 0 rfl) ?_
  refine r_ifnonnull (tgt := 24) X.1 X.2.1 d_K_step_11 (by decide) (fun j h11 => ?_) (fun h11 => ?_)
  · skip
    rw [h11] at hl
    have hl : lv_has ls 4 [(2, .ref (ad 4 j)), (0, .ref (ad 0 0)), (1, .int x)] := hl
    have hX : spXc M x = 0 := by unfold spXc; rw [if_neg (by rw [hp]; exact (fun z => nomatch z)), if_neg (by rw [h11]; exact (fun z => nomatch z))]
    refine lv_aload_n X.1 X.2.1 d_K_step_24 rfl (lv_at hl 0 rfl) ?_
    refine r_geti X hM rfl ((fun q z => fstR_lv z) j h11) f_K_108 rfl d_K_step_25 ?_
    refine lv_if_eq (tgt := 39) X.1 X.2.1 d_K_step_28 (by decide) (fun h28 => ?_) (fun h28 => ?_)
    · skip
      refine lv_aload_n X.1 X.2.1 d_K_step_39 rfl (lv_at hl 1 rfl) ?_
      refine lv_aload_n X.1 X.2.1 d_K_step_40 rfl (lv_at hl 0 rfl) ?_
      refine r_cV (As := [.ref (ad 4 j)]) (rest := []) X hml hl.1 hM (k_K_beginJob l D dA base M ad hw ht ho j (fstR_lv h11)) c_K_143 v_K_beginJob kc_K rfl hk0 rfl (Nat.le_of_ble_eq_true rfl) ⟨rfl, rfl, Nat.le_of_ble_eq_true rfl, Nat.le_of_ble_eq_true rfl⟩ ⟨Nat.le_of_ble_eq_true rfl, Nat.le_of_ble_eq_true rfl⟩ d_K_step_41 ?_
      intro rv M1 ad_4 H locs hP hM hE_5
      obtain ⟨e1, e2⟩ := hP
      have hS : stR M x j = bjM M j := if_pos h28
      rw [← hS] at e1 e2
      subst rv; subst M1
      show W _ _ _ _ _ _ _ _ _ _ _ _ _ _ _ (F0 m 44 ls [.int ((stR M x j).1)])
      obtain ⟨hwR, htR, hoR, hnR⟩ := stR_all hw ht ho x (fstR_lv h11)
      have hjR : j < gn (stR M x j).2 4 := by rw [hnR]; exact fstR_lv h11
      have hkR : 0 < gn (stR M x j).2 0 := w_k hwR
      refine lv_istore_n (lv' := [(3, .int ((stR M x j).1)), (2, .ref (ad 4 j)), (0, .ref (ad 0 0)), (1, .int x)]) X.1 X.2.1 d_K_step_44 rfl hl (by decide) rfl (fun ls hl => ?_)
      refine lv_aload_n X.1 X.2.1 d_K_step_45 rfl (lv_at hl 1 rfl) ?_
      refine lv_iconst (v := 1) X.1 X.2.1 d_K_step_46 (by decide) ?_
      refine r_puti X hM (hE_5.1 4 j ((fun q z => fstR_lv z) j h11)) hjR p_K_108 rfl rfl rfl d_K_step_47 (fun H locs hM => ?_)
      refine lv_iload_n X.1 X.2.1 d_K_step_50 rfl (lv_at hl 0 rfl) ?_
      refine lv_if_eq (tgt := 70) X.1 X.2.1 d_K_step_51 (by decide) (fun h51 => ?_) (fun h51 => ?_)
      · skip
        refine lv_aload_n X.1 X.2.1 d_K_step_70 rfl (lv_at hl 1 rfl) ?_
        refine r_geti X hM (hE_5.1 4 j ((fun q z => fstR_lv z) j h11)) hjR f_K_117 rfl d_K_step_71 ?_
        refine vx_ret ?_
        exact m_iret X hr hlk hM d_K_step_74 ⟨Nat.le_of_ble_eq_true rfl, Nat.le_of_ble_eq_true rfl⟩ (mExt_tr (mExt_tr (mExt_rf _ _) hE_5) (kp_ext (st1_kp _ _) _)) ⟨j, hX, h11, congrArg (fun z => some (Value.int z)) (w_jn (kp_w (st1_kp (stR M x j).2 j) hwR) hjR), (if_pos h51).symm⟩
      · skip
        refine lv_aload_n X.1 X.2.1 d_K_step_54 rfl (lv_at hl 1 rfl) ?_
        refine lv_iload_n X.1 X.2.1 d_K_step_55 rfl (lv_at hl 0 rfl) ?_
        refine r_puti X hM (hE_5.1 4 j ((fun q z => fstR_lv z) j h11)) hjR p_K_147 rfl rfl rfl d_K_step_56 (fun H locs hM => ?_)
        have hw2 := kp_w (st2_kp (stR M x j).2 j (stR M x j).1) hwR
        have ht2 : wT (st2 (stR M x j).2 j (stR M x j).1) := kt_w (M := (stR M x j).2) rfl htR
        have hn2 : gi (st2 (stR M x j).2 j (stR M x j).1) 4 j 0 = nI j := w_jn hw2 hjR
        have hM : mSt D dA base (st2 (stR M x j).2 j (stR M x j).1) ad_4 s.heap H locs := hM
        refine lv_aload_n X.1 X.2.1 d_K_step_59 rfl (lv_at hl 2 rfl) ?_
        refine r_gets (q := 0) X hM (hE_5.1 0 0 hk0) hkR f_K_62 rfl (show gr (stR M x j).2 0 0 11 = some 0 from w_0_11 hwR) d_K_step_60 (fun hv6 => ?_)
        refine lv_aload_n X.1 X.2.1 d_K_step_63 rfl (lv_at hl 1 rfl) ?_
        refine r_geti X hM (hE_5.1 4 j ((fun q z => fstR_lv z) j h11)) hjR f_K_117 rfl d_K_step_64 ?_
        refine r_cV (As := [.int (gi (st2 (stR M x j).2 j (stR M x j).1) 4 j 0)]) (rest := []) X hml hl.1 hM (k_Tr_jobEnds l D dA base (st2 (stR M x j).2 j (stR M x j).1) ad_4 hv6 (gi (st2 (stR M x j).2 j (stR M x j).1) 4 j 0) hw2 ht2) c_K_150 v_Tr_jobEnds kc_Tr rfl hv6 rfl (Nat.le_of_ble_eq_true rfl) ⟨rfl, rfl, Nat.le_of_ble_eq_true rfl, Nat.le_of_ble_eq_true rfl⟩ ⟨Nat.le_of_ble_eq_true rfl, Nat.le_of_ble_eq_true rfl⟩ d_K_step_67 ?_
        intro rv M1 ad1 H locs hP hM hE
        obtain ⟨e1, e2, e3⟩ := hP
        subst rv; subst M1; subst ad1
        rw [hn2] at hM
        have hZ : spM M x j = trA (st2 (stR M x j).2 j (stR M x j).1) (1000 + nI j) := if_neg h51
        show W _ _ _ _ _ _ _ _ _ _ _ _ _ _ _ (F0 m 70 ls [])
        refine lv_aload_n X.1 X.2.1 d_K_step_70 rfl (lv_at hl 1 rfl) ?_
        refine r_geti X hM (hE_5.1 4 j ((fun q z => fstR_lv z) j h11)) (kp_lv (trA_kp (st2 (stR M x j).2 j (stR M x j).1) (1000 + nI j)) hjR) f_K_117 rfl d_K_step_71 ?_
        refine vx_ret ?_
        exact m_iret X hr hlk hM d_K_step_74 ⟨Nat.le_of_ble_eq_true rfl, Nat.le_of_ble_eq_true rfl⟩ (mExt_tr (mExt_tr (mExt_rf _ _) hE_5) (kp_ext (kp_tr (st2_kp _ _ _) (trA_kp (st2 (stR M x j).2 j (stR M x j).1) (1000 + nI j))) _)) ⟨j, hX, h11, congrArg (fun z => some (Value.int z)) (w_jn (kp_w (trA_kp _ _) hw2) (kp_lv (trA_kp (st2 (stR M x j).2 j (stR M x j).1) (1000 + nI j)) hjR)), hZ.symm⟩
    · skip
      refine lv_aload_n X.1 X.2.1 d_K_step_31 rfl (lv_at hl 1 rfl) ?_
      refine lv_iload_n X.1 X.2.1 d_K_step_32 rfl (lv_at hl 2 rfl) ?_
      refine r_cV (As := [.int x]) (rest := []) X hml hl.1 hM (k_K_finishInstall l D dA base M ad hw ht x) c_K_140 v_K_finishInstall kc_K rfl hk0 rfl (Nat.le_of_ble_eq_true rfl) ⟨rfl, rfl, Nat.le_of_ble_eq_true rfl, Nat.le_of_ble_eq_true rfl⟩ ⟨Nat.le_of_ble_eq_true rfl, Nat.le_of_ble_eq_true rfl⟩ d_K_step_33 ?_
      intro rv M1 ad1 H locs hP hM hE
      obtain ⟨e1, e2, e3⟩ := hP
      have hS : stR M x j = fiM M x := if_neg h28
      rw [← hS] at e1 e2
      subst rv; subst M1; subst ad1
      show W _ _ _ _ _ _ _ _ _ _ _ _ _ _ _ (F0 m 36 ls [.int ((stR M x j).1)])
      refine lv_goto (tgt := 44) X.1 X.2.1 d_K_step_36 (by decide) ?_
      obtain ⟨hwR, htR, hoR, hnR⟩ := stR_all hw ht ho x (fstR_lv h11)
      have hjR : j < gn (stR M x j).2 4 := by rw [hnR]; exact fstR_lv h11
      have hkR : 0 < gn (stR M x j).2 0 := w_k hwR
      refine lv_istore_n (lv' := [(3, .int ((stR M x j).1)), (2, .ref (ad 4 j)), (0, .ref (ad 0 0)), (1, .int x)]) X.1 X.2.1 d_K_step_44 rfl hl (by decide) rfl (fun ls hl => ?_)
      refine lv_aload_n X.1 X.2.1 d_K_step_45 rfl (lv_at hl 1 rfl) ?_
      refine lv_iconst (v := 1) X.1 X.2.1 d_K_step_46 (by decide) ?_
      refine r_puti X hM rfl hjR p_K_108 rfl rfl rfl d_K_step_47 (fun H locs hM => ?_)
      refine lv_iload_n X.1 X.2.1 d_K_step_50 rfl (lv_at hl 0 rfl) ?_
      refine lv_if_eq (tgt := 70) X.1 X.2.1 d_K_step_51 (by decide) (fun h51 => ?_) (fun h51 => ?_)
      · skip
        refine lv_aload_n X.1 X.2.1 d_K_step_70 rfl (lv_at hl 1 rfl) ?_
        refine r_geti X hM rfl hjR f_K_117 rfl d_K_step_71 ?_
        refine vx_ret ?_
        exact m_iret X hr hlk hM d_K_step_74 ⟨Nat.le_of_ble_eq_true rfl, Nat.le_of_ble_eq_true rfl⟩ (mExt_tr (gn_ext9 hS) (kp_ext (st1_kp _ _) _)) ⟨j, hX, h11, congrArg (fun z => some (Value.int z)) (w_jn (kp_w (st1_kp (stR M x j).2 j) hwR) hjR), (if_pos h51).symm⟩
      · skip
        refine lv_aload_n X.1 X.2.1 d_K_step_54 rfl (lv_at hl 1 rfl) ?_
        refine lv_iload_n X.1 X.2.1 d_K_step_55 rfl (lv_at hl 0 rfl) ?_
        refine r_puti X hM rfl hjR p_K_147 rfl rfl rfl d_K_step_56 (fun H locs hM => ?_)
        have hw2 := kp_w (st2_kp (stR M x j).2 j (stR M x j).1) hwR
        have ht2 : wT (st2 (stR M x j).2 j (stR M x j).1) := kt_w (M := (stR M x j).2) rfl htR
        have hn2 : gi (st2 (stR M x j).2 j (stR M x j).1) 4 j 0 = nI j := w_jn hw2 hjR
        have hM : mSt D dA base (st2 (stR M x j).2 j (stR M x j).1) ad s.heap H locs := hM
        refine lv_aload_n X.1 X.2.1 d_K_step_59 rfl (lv_at hl 2 rfl) ?_
        refine r_gets (q := 0) X hM rfl hkR f_K_62 rfl (show gr (stR M x j).2 0 0 11 = some 0 from w_0_11 hwR) d_K_step_60 (fun hv9 => ?_)
        refine lv_aload_n X.1 X.2.1 d_K_step_63 rfl (lv_at hl 1 rfl) ?_
        refine r_geti X hM rfl hjR f_K_117 rfl d_K_step_64 ?_
        refine r_cV (As := [.int (gi (st2 (stR M x j).2 j (stR M x j).1) 4 j 0)]) (rest := []) X hml hl.1 hM (k_Tr_jobEnds l D dA base (st2 (stR M x j).2 j (stR M x j).1) ad hv9 (gi (st2 (stR M x j).2 j (stR M x j).1) 4 j 0) hw2 ht2) c_K_150 v_Tr_jobEnds kc_Tr rfl hv9 rfl (Nat.le_of_ble_eq_true rfl) ⟨rfl, rfl, Nat.le_of_ble_eq_true rfl, Nat.le_of_ble_eq_true rfl⟩ ⟨Nat.le_of_ble_eq_true rfl, Nat.le_of_ble_eq_true rfl⟩ d_K_step_67 ?_
        intro rv M1 ad1 H locs hP hM hE
        obtain ⟨e1, e2, e3⟩ := hP
        subst rv; subst M1; subst ad1
        rw [hn2] at hM
        have hZ : spM M x j = trA (st2 (stR M x j).2 j (stR M x j).1) (1000 + nI j) := if_neg h51
        show W _ _ _ _ _ _ _ _ _ _ _ _ _ _ _ (F0 m 70 ls [])
        refine lv_aload_n X.1 X.2.1 d_K_step_70 rfl (lv_at hl 1 rfl) ?_
        refine r_geti X hM rfl (kp_lv (trA_kp (st2 (stR M x j).2 j (stR M x j).1) (1000 + nI j)) hjR) f_K_117 rfl d_K_step_71 ?_
        refine vx_ret ?_
        exact m_iret X hr hlk hM d_K_step_74 ⟨Nat.le_of_ble_eq_true rfl, Nat.le_of_ble_eq_true rfl⟩ (mExt_tr (gn_ext9 hS) (kp_ext (kp_tr (st2_kp _ _ _) (trA_kp (st2 (stR M x j).2 j (stR M x j).1) (1000 + nI j))) _)) ⟨j, hX, h11, congrArg (fun z => some (Value.int z)) (w_jn (kp_w (trA_kp _ _) hw2) (kp_lv (trA_kp (st2 (stR M x j).2 j (stR M x j).1) (1000 + nI j)) hjR)), hZ.symm⟩
  · skip
    rw [h11] at hl
    have hl : lv_has ls 4 [(2, .null), (0, .ref (ad 0 0)), (1, .int x)] := hl
    exact r_throwN X hst hml hl.1 hM hlk hno t_K_135_137_139 d_K_step_14 d_K_step_17 d_K_step_18 d_K_step_20 d_K_step_23 ⟨Nat.le_of_ble_eq_true rfl, Nat.le_of_ble_eq_true rfl, Nat.le_of_ble_eq_true rfl, Nat.le_of_ble_eq_true rfl⟩ ⟨Nat.le_of_ble_eq_true rfl, Nat.le_of_ble_eq_true rfl⟩ (Or.inr ⟨by unfold spXc; rw [if_neg (by rw [hp]; exact (fun z => nomatch z)), if_pos h11], rfl⟩)
end
section
theorem jsm_0 {M : mM} {kd x o : Int32} (h : lstR M x = none) : jsm M kd x o = none := by unfold jsm; rw [h]
theorem jsm_n {M : mM} {kd x o : Int32} {q : Nat} (h : lstR M x = some q) (h2 : ¬ (gi M 4 q 4 = 0 ∧ gi M 4 q 1 = kd ∧ gi M 4 q 3 = o)) : jsm M kd x o = none := by unfold jsm; rw [h]; exact if_neg h2
theorem jsm_y {M : mM} {kd x o : Int32} {q : Nat} (h : lstR M x = some q) (h2 : gi M 4 q 4 = 0 ∧ gi M 4 q 1 = kd ∧ gi M 4 q 3 = o) : jsm M kd x o = some q := by unfold jsm; rw [h]; exact if_pos h2
set_option maxHeartbeats 4000000 in
set_option maxRecDepth 100000 in
theorem k_K_job (l : Launch) (hst : l.stackTraces = false) (D : va_G) (dA : Nat → ClassId) (base : Nat) (M : mM) (ad : Nat → Nat → Nat) (hw : wK M) (kd x s0 : Int32) : mMetX l y_K_job b_K_job 7 (some FieldType.int) ({ frames := 7, cells := 3, slots := 18, locals := 140 } : Room) 3 18 D dA base M ad [.ref (ad 0 0), .int kd, .int x, .int s0] (fun rv M' ad' => jbXc M kd x s0 = 0 ∧ rv = some (.int (jbM M kd x s0).1) ∧ M' = (jbM M kd x s0).2) (fun E => (jbXc M kd x s0 = 1 ∧ E = "java/lang/IllegalArgumentException") ∨ (jbXc M kd x s0 = 2 ∧ E = "java/lang/IllegalStateException")) := by
  refine m_startX (lvs := [(0, .ref (ad 0 0)), (1, .int kd), (2, .int x), (3, .int s0)]) (by decide) (Nat.le_of_ble_eq_true rfl) rfl ?_
  intro p e s m below meth c ls X hr hlk hin hml hM hl hno
  have hk0 : 0 < gn M 0 := w_k hw
  refine lv_iload_n X.1 X.2.1 d_K_job_0 rfl (lv_at hl 1 rfl) ?_
  refine lv_if_lt (tgt := 9) X.1 X.2.1 d_K_job_1 (by decide) (fun h1 => ?_) (fun h1 => ?_)
  · skip
    exact r_throw X hst hml hl.1 hM hlk hno t_K_75_96_79 d_K_job_9 d_K_job_12 d_K_job_13 d_K_job_15 d_K_job_18 ⟨Nat.le_of_ble_eq_true rfl, Nat.le_of_ble_eq_true rfl, Nat.le_of_ble_eq_true rfl, Nat.le_of_ble_eq_true rfl⟩ ⟨Nat.le_of_ble_eq_true rfl, Nat.le_of_ble_eq_true rfl⟩ (Or.inl ⟨if_pos (Or.inl (fun z => absurd h1 (Int32.not_lt.mpr z.1))), rfl⟩)
  · skip
    refine lv_iload_n X.1 X.2.1 d_K_job_4 rfl (lv_at hl 1 rfl) ?_
    refine lv_iconst (v := 2) X.1 X.2.1 d_K_job_5 (by decide) ?_
    refine lv_icmp_le (tgt := 19) X.1 X.2.1 d_K_job_6 (by decide) (fun h6 => ?_) (fun h6 => ?_)
    · skip
      refine lv_iload_n X.1 X.2.1 d_K_job_19 rfl (lv_at hl 2 rfl) ?_
      refine r_cSX (As := [.int x]) (rest := []) X hml hl.1 hM (k_K_refuseNoPath l hst D dA base M ad x) c_K_98 cx_K_98 v_K_refuseNoPath rfl (Nat.le_of_ble_eq_true rfl) ⟨rfl, rfl, Nat.le_of_ble_eq_true rfl, Nat.le_of_ble_eq_true rfl⟩ ⟨Nat.le_of_ble_eq_true rfl, Nat.le_of_ble_eq_true rfl⟩ d_K_job_20 (fun E ce q H locs hPx hM hy1 hy2 hy3 => m_out hM hlk hno (Or.inl ⟨if_pos (Or.inr (Or.inl hPx.1)), hPx.2⟩) hy1 hy2 hy3 ⟨Nat.le_of_ble_eq_true rfl, Nat.le_of_ble_eq_true rfl⟩) ?_
      intro rv M1 ad1 H locs hP hM hE
      obtain ⟨hp, e1, e2, e3⟩ := hP
      subst rv; subst M1; subst ad1
      show W _ _ _ _ _ _ _ _ _ _ _ _ _ _ _ (F0 m 23 ls [])
      refine lv_iload_n X.1 X.2.1 d_K_job_23 rfl (lv_at hl 1 rfl) ?_
      refine lv_if_ne (tgt := 44) X.1 X.2.1 d_K_job_24 (by decide) (fun h24 => ?_) (fun h24 => ?_)
      · skip
        have hb : ¬ (¬ (0 ≤ kd ∧ kd ≤ 2) ∨ isP x = false ∨ (kd = 0 ∧ ¬ (0 ≤ s0 ∧ s0 < 4))) := by
          rintro (z | z | z)
          · exact z ⟨Int32.not_lt.mp h1, h6⟩
          · rw [hp] at z; cases z
          · exact h24 z.1
        have eo : own0 kd s0 = 0 := if_neg h24
        refine lv_iload_n X.1 X.2.1 d_K_job_44 rfl (lv_at hl 1 rfl) ?_
        refine lv_if_ne (tgt := 52) X.1 X.2.1 d_K_job_45 (by decide) (fun hz2 => ?_) (fun hz2 => absurd hz2 h24)
        refine lv_iconst (v := 0) X.1 X.2.1 d_K_job_52 (by decide) ?_
        refine lv_istore (lv' := [(4, .int 0), (0, .ref (ad 0 0)), (1, .int kd), (2, .int x), (3, .int s0)]) X.1 X.2.1 d_K_job_53 hl (by decide) rfl (fun ls hl => ?_)
        refine lv_aload_n X.1 X.2.1 d_K_job_55 rfl (lv_at hl 1 rfl) ?_
        refine lv_iload_n X.1 X.2.1 d_K_job_56 rfl (lv_at hl 3 rfl) ?_
        refine r_cV (As := [.int x]) (rest := []) X hml hl.1 hM (k_K_lastOfRow l D dA base M ad hw x) c_K_104 v_K_lastOfRow kc_K rfl hk0 rfl (Nat.le_of_ble_eq_true rfl) ⟨rfl, rfl, Nat.le_of_ble_eq_true rfl, Nat.le_of_ble_eq_true rfl⟩ ⟨Nat.le_of_ble_eq_true rfl, Nat.le_of_ble_eq_true rfl⟩ d_K_job_57 ?_
        intro rv M1 ad1 H locs hP hM hE
        obtain ⟨e1, e2, e3⟩ := hP
        subst rv; subst M1; subst ad1
        show W _ _ _ _ _ _ _ _ _ _ _ _ _ _ _ (F0 m 60 ls [rfv ad 4 (lstR M x)])
        refine r_astore (lv' := [(5, rfv ad 4 (lstR M x)), (4, .int 0), (0, .ref (ad 0 0)), (1, .int kd), (2, .int x), (3, .int s0)]) X.1 X.2.1 d_K_job_60 hl (by decide) rfl (fun ls hl => ?_)
        refine r_aload X.1 X.2.1 d_K_job_62 (lv_at hl 0 rfl) ?_
        refine r_ifnull (tgt := 100) X.1 X.2.1 d_K_job_64 (by decide) (fun h64 => ?_) (fun q h64 => ?_)
        · skip
          rw [h64] at hl
          have hl : lv_has ls 7 [(5, .null), (4, .int 0), (0, .ref (ad 0 0)), (1, .int kd), (2, .int x), (3, .int s0)] := hl
          have hj0 : jsm M kd x (own0 kd s0) = none := by rw [eo]; exact jsm_0 h64
          refine lv_aload_n X.1 X.2.1 d_K_job_100 rfl (lv_at hl 2 rfl) ?_
          refine lv_iload_n X.1 X.2.1 d_K_job_101 rfl (lv_at hl 4 rfl) ?_
          refine r_cV (As := [.int x]) (rest := []) X hml hl.1 hM (k_K_rowLength l D dA base M ad hw x) c_K_120 v_K_rowLength kc_K rfl hk0 rfl (Nat.le_of_ble_eq_true rfl) ⟨rfl, rfl, Nat.le_of_ble_eq_true rfl, Nat.le_of_ble_eq_true rfl⟩ ⟨Nat.le_of_ble_eq_true rfl, Nat.le_of_ble_eq_true rfl⟩ d_K_job_102 ?_
          intro rv M1 ad1 H locs hP hM hE
          obtain ⟨e1, e2, e3⟩ := hP
          subst rv; subst M1; subst ad1
          show W _ _ _ _ _ _ _ _ _ _ _ _ _ _ _ (F0 m 105 ls [.int (nI (lenR M x))])
          refine lv_iconst (v := 4) X.1 X.2.1 d_K_job_105 (by decide) ?_
          refine lv_icmp_ge (tgt := 118) X.1 X.2.1 d_K_job_106 (by decide) (fun h106 => ?_) (fun h106 => ?_)
          · skip
            exact r_throw X hst hml hl.1 hM hlk hno t_K_124_126_128 d_K_job_118 d_K_job_121 d_K_job_122 d_K_job_124 d_K_job_127 ⟨Nat.le_of_ble_eq_true rfl, Nat.le_of_ble_eq_true rfl, Nat.le_of_ble_eq_true rfl, Nat.le_of_ble_eq_true rfl⟩ ⟨Nat.le_of_ble_eq_true rfl, Nat.le_of_ble_eq_true rfl⟩ (Or.inr ⟨by unfold jbXc; rw [if_neg hb, if_neg (by rw [hj0]; exact (fun z => z rfl)), if_neg (fun z => (ltR4 hw x).mp h106 z.1)], rfl⟩)
          · skip
            refine lv_aload_n X.1 X.2.1 d_K_job_109 rfl (lv_at hl 2 rfl) ?_
            refine r_geti X hM rfl hk0 f_K_56 rfl d_K_job_110 ?_
            refine lv_bipush (v := 60) X.1 X.2.1 d_K_job_113 (by decide) ?_
            refine lv_icmp_lt (tgt := 128) X.1 X.2.1 d_K_job_115 (by decide) (fun h115 => ?_) (fun h115 => ?_)
            · skip
              have hX : jbXc M kd x s0 = 0 := by unfold jbXc; rw [if_neg hb, if_neg (by rw [hj0]; exact (fun z => z rfl)), if_pos ⟨Classical.not_not.mp (fun z => h106 ((ltR4 hw x).mpr z)), (lt60 hw).mp h115⟩]
              refine r_new (k := 4) X hM n_K_50 (Nat.le_of_ble_eq_true rfl) (Nat.le_of_ble_eq_true rfl) d_K_job_128 (fun q5 H q5ad hq5M hq5E hq5q => ?_)
              have hM := hq5M
              have hnq5 : gn M 4 < gn (sn M 4) 4 := sn_live _ _
              refine lv_dup X.1 X.2.1 d_K_job_131 rfl ?_
              refine lv_aload_n X.1 X.2.1 d_K_job_132 rfl (lv_at hl 2 rfl) ?_
              refine r_geti X hM (hq5E 0 0 hk0) (sn_up hk0) f_K_56 rfl d_K_job_133 ?_
              refine lv_topi (fun nj e_nj => ?_)
              have e9 : nj = gi M 0 0 10 := by rw [e_nj, gi_sn, if_neg (by omega)]
              clear e_nj
              subst e9
              refine lv_iload_n X.1 X.2.1 d_K_job_136 rfl (lv_at hl 3 rfl) ?_
              refine lv_iload_n X.1 X.2.1 d_K_job_137 rfl (lv_at hl 4 rfl) ?_
              refine lv_iload X.1 X.2.1 d_K_job_138 (lv_at hl 1 rfl) ?_
              have hC9 := (k_Jb_init l D dA base (sn M 4) q5ad (gn M 4) hnq5 (gi M 0 0 10) kd x 0)
              rw [hq5q] at hC9
              refine r_cI (As := [.int (gi M 0 0 10), .int kd, .int x, .int 0]) (rest := [.ref q5]) X hml hl.1 hM hC9 c_K_129 v_Jb_init rfl (Nat.le_of_ble_eq_true rfl) ⟨rfl, rfl, Nat.le_of_ble_eq_true rfl, Nat.le_of_ble_eq_true rfl⟩ ⟨Nat.le_of_ble_eq_true rfl, Nat.le_of_ble_eq_true rfl⟩ d_K_job_140 ?_
              intro rv M1 ad1 H locs hP hM hE
              obtain ⟨e1, e2, e3⟩ := hP
              subst rv; subst M1; subst ad1
              have hr9 : gr (jb0 M kd x 0) 0 0 9 = some 0 := by rw [jb0_gr M kd x 0 (by omega)]; exact w_0_9 hw
              have hx9 : gi (jb0 M kd x 0) 0 0 10 = nI (gn M 4) := by rw [jb0_gi M kd x 0 (by omega)]; exact w_nj hw
              show W _ _ _ _ _ _ _ _ _ _ _ _ _ _ _ (F0 m 143 ls [.ref q5])
              refine lv_astore (lv' := [(6, .ref q5), (5, .null), (4, .int 0), (0, .ref (ad 0 0)), (1, .int kd), (2, .int x), (3, .int s0)]) X.1 X.2.1 d_K_job_143 hl (by decide) rfl (fun ls hl => ?_)
              refine lv_aload_n X.1 X.2.1 d_K_job_145 rfl (lv_at hl 3 rfl) ?_
              refine r_gets (q := 0) X hM (hq5E 0 0 hk0) (sn_up hk0) f_K_52 rfl hr9 d_K_job_146 (fun hv7 => ?_)
              refine lv_aload_n X.1 X.2.1 d_K_job_149 rfl (lv_at hl 3 rfl) ?_
              refine r_geti X hM (hq5E 0 0 hk0) (sn_up hk0) f_K_56 rfl d_K_job_150 ?_
              refine lv_aload X.1 X.2.1 d_K_job_153 (lv_at hl 0 rfl) ?_
              refine r_aast X hM rfl hv7 a_jobs (fun _ => rfl) rfl rfl hq5q hnq5 (j := (gn M 4)) hx9 ((lt60 hw).mp h115) d_K_job_155 (fun H locs hM => ?_)
              refine lv_aload_n X.1 X.2.1 d_K_job_156 rfl (lv_at hl 3 rfl) ?_
              refine lv_dup X.1 X.2.1 d_K_job_157 rfl ?_
              refine r_geti X hM (hq5E 0 0 hk0) (sn_up hk0) f_K_56 rfl d_K_job_158 ?_
              refine lv_iconst (v := 1) X.1 X.2.1 d_K_job_161 (by decide) ?_
              refine lv_iadd X.1 X.2.1 d_K_job_162 ?_
              refine r_puti X hM (hq5E 0 0 hk0) (sn_up hk0) p_K_56 rfl rfl rfl d_K_job_163 (fun H locs hM => ?_)
              refine lv_aload X.1 X.2.1 d_K_job_166 (lv_at hl 0 rfl) ?_
              refine r_geti X hM hq5q hnq5 f_K_117 rfl d_K_job_168 ?_
              have hF : jbM M kd x s0 = (nI (gn M 4), jnM M kd x 0) := by unfold jbM; rw [hj0, eo]
              have hZ : si (sr (jb0 M kd x 0) 13 0 (gn M 4) (some (gn M 4))) 0 0 10 (gi (jb0 M kd x 0) 0 0 10 + 1) = jnM M kd x 0 := by rw [hx9, nI_1]; rfl
              refine vx_ret ?_
              exact m_iret X hr hlk hM d_K_job_171 ⟨Nat.le_of_ble_eq_true rfl, Nat.le_of_ble_eq_true rfl⟩ (mExt_tr (mExt_rf _ _) (mExt_new hq5E)) ⟨hX, by rw [hF]; exact congrArg (fun z => some (Value.int z)) ((congrArg (fun N => gi N 4 (gn M 4) 0) hZ).trans (jnM_new hw kd x 0).1), by rw [hF]; exact hZ⟩
            · skip
              exact r_throw X hst hml hl.1 hM hlk hno t_K_124_126_128 d_K_job_118 d_K_job_121 d_K_job_122 d_K_job_124 d_K_job_127 ⟨Nat.le_of_ble_eq_true rfl, Nat.le_of_ble_eq_true rfl, Nat.le_of_ble_eq_true rfl, Nat.le_of_ble_eq_true rfl⟩ ⟨Nat.le_of_ble_eq_true rfl, Nat.le_of_ble_eq_true rfl⟩ (Or.inr ⟨by unfold jbXc; rw [if_neg hb, if_neg (by rw [hj0]; exact (fun z => z rfl)), if_neg (fun z => h115 ((lt60 hw).mpr z.2))], rfl⟩)
        · skip
          rw [h64] at hl
          have hl : lv_has ls 7 [(5, .ref (ad 4 q)), (4, .int 0), (0, .ref (ad 0 0)), (1, .int kd), (2, .int x), (3, .int s0)] := hl
          refine lv_aload X.1 X.2.1 d_K_job_67 (lv_at hl 0 rfl) ?_
          refine r_geti X hM rfl ((fun q z => lstR_lv z) q h64) f_K_108 rfl d_K_job_69 ?_
          refine lv_if_ne (tgt := 100) X.1 X.2.1 d_K_job_72 (by decide) (fun h72 => ?_) (fun h72 => ?_)
          · skip
            have hj0 : jsm M kd x (own0 kd s0) = none := by rw [eo]; exact jsm_n h64 (fun z => h72 z.1)
            refine lv_aload_n X.1 X.2.1 d_K_job_100 rfl (lv_at hl 2 rfl) ?_
            refine lv_iload_n X.1 X.2.1 d_K_job_101 rfl (lv_at hl 4 rfl) ?_
            refine r_cV (As := [.int x]) (rest := []) X hml hl.1 hM (k_K_rowLength l D dA base M ad hw x) c_K_120 v_K_rowLength kc_K rfl hk0 rfl (Nat.le_of_ble_eq_true rfl) ⟨rfl, rfl, Nat.le_of_ble_eq_true rfl, Nat.le_of_ble_eq_true rfl⟩ ⟨Nat.le_of_ble_eq_true rfl, Nat.le_of_ble_eq_true rfl⟩ d_K_job_102 ?_
            intro rv M1 ad1 H locs hP hM hE
            obtain ⟨e1, e2, e3⟩ := hP
            subst rv; subst M1; subst ad1
            show W _ _ _ _ _ _ _ _ _ _ _ _ _ _ _ (F0 m 105 ls [.int (nI (lenR M x))])
            refine lv_iconst (v := 4) X.1 X.2.1 d_K_job_105 (by decide) ?_
            refine lv_icmp_ge (tgt := 118) X.1 X.2.1 d_K_job_106 (by decide) (fun h106 => ?_) (fun h106 => ?_)
            · skip
              exact r_throw X hst hml hl.1 hM hlk hno t_K_124_126_128 d_K_job_118 d_K_job_121 d_K_job_122 d_K_job_124 d_K_job_127 ⟨Nat.le_of_ble_eq_true rfl, Nat.le_of_ble_eq_true rfl, Nat.le_of_ble_eq_true rfl, Nat.le_of_ble_eq_true rfl⟩ ⟨Nat.le_of_ble_eq_true rfl, Nat.le_of_ble_eq_true rfl⟩ (Or.inr ⟨by unfold jbXc; rw [if_neg hb, if_neg (by rw [hj0]; exact (fun z => z rfl)), if_neg (fun z => (ltR4 hw x).mp h106 z.1)], rfl⟩)
            · skip
              refine lv_aload_n X.1 X.2.1 d_K_job_109 rfl (lv_at hl 2 rfl) ?_
              refine r_geti X hM rfl hk0 f_K_56 rfl d_K_job_110 ?_
              refine lv_bipush (v := 60) X.1 X.2.1 d_K_job_113 (by decide) ?_
              refine lv_icmp_lt (tgt := 128) X.1 X.2.1 d_K_job_115 (by decide) (fun h115 => ?_) (fun h115 => ?_)
              · skip
                have hX : jbXc M kd x s0 = 0 := by unfold jbXc; rw [if_neg hb, if_neg (by rw [hj0]; exact (fun z => z rfl)), if_pos ⟨Classical.not_not.mp (fun z => h106 ((ltR4 hw x).mpr z)), (lt60 hw).mp h115⟩]
                refine r_new (k := 4) X hM n_K_50 (Nat.le_of_ble_eq_true rfl) (Nat.le_of_ble_eq_true rfl) d_K_job_128 (fun q9 H q9ad hq9M hq9E hq9q => ?_)
                have hM := hq9M
                have hnq9 : gn M 4 < gn (sn M 4) 4 := sn_live _ _
                refine lv_dup X.1 X.2.1 d_K_job_131 rfl ?_
                refine lv_aload_n X.1 X.2.1 d_K_job_132 rfl (lv_at hl 2 rfl) ?_
                refine r_geti X hM (hq9E 0 0 hk0) (sn_up hk0) f_K_56 rfl d_K_job_133 ?_
                refine lv_topi (fun nj e_nj => ?_)
                have e9 : nj = gi M 0 0 10 := by rw [e_nj, gi_sn, if_neg (by omega)]
                clear e_nj
                subst e9
                refine lv_iload_n X.1 X.2.1 d_K_job_136 rfl (lv_at hl 3 rfl) ?_
                refine lv_iload_n X.1 X.2.1 d_K_job_137 rfl (lv_at hl 4 rfl) ?_
                refine lv_iload X.1 X.2.1 d_K_job_138 (lv_at hl 1 rfl) ?_
                have hC9 := (k_Jb_init l D dA base (sn M 4) q9ad (gn M 4) hnq9 (gi M 0 0 10) kd x 0)
                rw [hq9q] at hC9
                refine r_cI (As := [.int (gi M 0 0 10), .int kd, .int x, .int 0]) (rest := [.ref q9]) X hml hl.1 hM hC9 c_K_129 v_Jb_init rfl (Nat.le_of_ble_eq_true rfl) ⟨rfl, rfl, Nat.le_of_ble_eq_true rfl, Nat.le_of_ble_eq_true rfl⟩ ⟨Nat.le_of_ble_eq_true rfl, Nat.le_of_ble_eq_true rfl⟩ d_K_job_140 ?_
                intro rv M1 ad1 H locs hP hM hE
                obtain ⟨e1, e2, e3⟩ := hP
                subst rv; subst M1; subst ad1
                have hr9 : gr (jb0 M kd x 0) 0 0 9 = some 0 := by rw [jb0_gr M kd x 0 (by omega)]; exact w_0_9 hw
                have hx9 : gi (jb0 M kd x 0) 0 0 10 = nI (gn M 4) := by rw [jb0_gi M kd x 0 (by omega)]; exact w_nj hw
                show W _ _ _ _ _ _ _ _ _ _ _ _ _ _ _ (F0 m 143 ls [.ref q9])
                refine lv_astore (lv' := [(6, .ref q9), (5, .ref (ad 4 q)), (4, .int 0), (0, .ref (ad 0 0)), (1, .int kd), (2, .int x), (3, .int s0)]) X.1 X.2.1 d_K_job_143 hl (by decide) rfl (fun ls hl => ?_)
                refine lv_aload_n X.1 X.2.1 d_K_job_145 rfl (lv_at hl 3 rfl) ?_
                refine r_gets (q := 0) X hM (hq9E 0 0 hk0) (sn_up hk0) f_K_52 rfl hr9 d_K_job_146 (fun hv11 => ?_)
                refine lv_aload_n X.1 X.2.1 d_K_job_149 rfl (lv_at hl 3 rfl) ?_
                refine r_geti X hM (hq9E 0 0 hk0) (sn_up hk0) f_K_56 rfl d_K_job_150 ?_
                refine lv_aload X.1 X.2.1 d_K_job_153 (lv_at hl 0 rfl) ?_
                refine r_aast X hM rfl hv11 a_jobs (fun _ => rfl) rfl rfl hq9q hnq9 (j := (gn M 4)) hx9 ((lt60 hw).mp h115) d_K_job_155 (fun H locs hM => ?_)
                refine lv_aload_n X.1 X.2.1 d_K_job_156 rfl (lv_at hl 3 rfl) ?_
                refine lv_dup X.1 X.2.1 d_K_job_157 rfl ?_
                refine r_geti X hM (hq9E 0 0 hk0) (sn_up hk0) f_K_56 rfl d_K_job_158 ?_
                refine lv_iconst (v := 1) X.1 X.2.1 d_K_job_161 (by decide) ?_
                refine lv_iadd X.1 X.2.1 d_K_job_162 ?_
                refine r_puti X hM (hq9E 0 0 hk0) (sn_up hk0) p_K_56 rfl rfl rfl d_K_job_163 (fun H locs hM => ?_)
                refine lv_aload X.1 X.2.1 d_K_job_166 (lv_at hl 0 rfl) ?_
                refine r_geti X hM hq9q hnq9 f_K_117 rfl d_K_job_168 ?_
                have hF : jbM M kd x s0 = (nI (gn M 4), jnM M kd x 0) := by unfold jbM; rw [hj0, eo]
                have hZ : si (sr (jb0 M kd x 0) 13 0 (gn M 4) (some (gn M 4))) 0 0 10 (gi (jb0 M kd x 0) 0 0 10 + 1) = jnM M kd x 0 := by rw [hx9, nI_1]; rfl
                refine vx_ret ?_
                exact m_iret X hr hlk hM d_K_job_171 ⟨Nat.le_of_ble_eq_true rfl, Nat.le_of_ble_eq_true rfl⟩ (mExt_tr (mExt_rf _ _) (mExt_new hq9E)) ⟨hX, by rw [hF]; exact congrArg (fun z => some (Value.int z)) ((congrArg (fun N => gi N 4 (gn M 4) 0) hZ).trans (jnM_new hw kd x 0).1), by rw [hF]; exact hZ⟩
              · skip
                exact r_throw X hst hml hl.1 hM hlk hno t_K_124_126_128 d_K_job_118 d_K_job_121 d_K_job_122 d_K_job_124 d_K_job_127 ⟨Nat.le_of_ble_eq_true rfl, Nat.le_of_ble_eq_true rfl, Nat.le_of_ble_eq_true rfl, Nat.le_of_ble_eq_true rfl⟩ ⟨Nat.le_of_ble_eq_true rfl, Nat.le_of_ble_eq_true rfl⟩ (Or.inr ⟨by unfold jbXc; rw [if_neg hb, if_neg (by rw [hj0]; exact (fun z => z rfl)), if_neg (fun z => h115 ((lt60 hw).mpr z.2))], rfl⟩)
          · skip
            refine lv_aload X.1 X.2.1 d_K_job_75 (lv_at hl 0 rfl) ?_
            refine r_geti X hM rfl ((fun q z => lstR_lv z) q h64) f_K_111 rfl d_K_job_77 ?_
            refine lv_iload_n X.1 X.2.1 d_K_job_80 rfl (lv_at hl 3 rfl) ?_
            refine lv_icmp_ne (tgt := 100) X.1 X.2.1 d_K_job_81 (by decide) (fun h81 => ?_) (fun h81 => ?_)
            · skip
              have hj0 : jsm M kd x (own0 kd s0) = none := by rw [eo]; exact jsm_n h64 (fun z => h81 z.2.1)
              refine lv_aload_n X.1 X.2.1 d_K_job_100 rfl (lv_at hl 2 rfl) ?_
              refine lv_iload_n X.1 X.2.1 d_K_job_101 rfl (lv_at hl 4 rfl) ?_
              refine r_cV (As := [.int x]) (rest := []) X hml hl.1 hM (k_K_rowLength l D dA base M ad hw x) c_K_120 v_K_rowLength kc_K rfl hk0 rfl (Nat.le_of_ble_eq_true rfl) ⟨rfl, rfl, Nat.le_of_ble_eq_true rfl, Nat.le_of_ble_eq_true rfl⟩ ⟨Nat.le_of_ble_eq_true rfl, Nat.le_of_ble_eq_true rfl⟩ d_K_job_102 ?_
              intro rv M1 ad1 H locs hP hM hE
              obtain ⟨e1, e2, e3⟩ := hP
              subst rv; subst M1; subst ad1
              show W _ _ _ _ _ _ _ _ _ _ _ _ _ _ _ (F0 m 105 ls [.int (nI (lenR M x))])
              refine lv_iconst (v := 4) X.1 X.2.1 d_K_job_105 (by decide) ?_
              refine lv_icmp_ge (tgt := 118) X.1 X.2.1 d_K_job_106 (by decide) (fun h106 => ?_) (fun h106 => ?_)
              · skip
                exact r_throw X hst hml hl.1 hM hlk hno t_K_124_126_128 d_K_job_118 d_K_job_121 d_K_job_122 d_K_job_124 d_K_job_127 ⟨Nat.le_of_ble_eq_true rfl, Nat.le_of_ble_eq_true rfl, Nat.le_of_ble_eq_true rfl, Nat.le_of_ble_eq_true rfl⟩ ⟨Nat.le_of_ble_eq_true rfl, Nat.le_of_ble_eq_true rfl⟩ (Or.inr ⟨by unfold jbXc; rw [if_neg hb, if_neg (by rw [hj0]; exact (fun z => z rfl)), if_neg (fun z => (ltR4 hw x).mp h106 z.1)], rfl⟩)
              · skip
                refine lv_aload_n X.1 X.2.1 d_K_job_109 rfl (lv_at hl 2 rfl) ?_
                refine r_geti X hM rfl hk0 f_K_56 rfl d_K_job_110 ?_
                refine lv_bipush (v := 60) X.1 X.2.1 d_K_job_113 (by decide) ?_
                refine lv_icmp_lt (tgt := 128) X.1 X.2.1 d_K_job_115 (by decide) (fun h115 => ?_) (fun h115 => ?_)
                · skip
                  have hX : jbXc M kd x s0 = 0 := by unfold jbXc; rw [if_neg hb, if_neg (by rw [hj0]; exact (fun z => z rfl)), if_pos ⟨Classical.not_not.mp (fun z => h106 ((ltR4 hw x).mpr z)), (lt60 hw).mp h115⟩]
                  refine r_new (k := 4) X hM n_K_50 (Nat.le_of_ble_eq_true rfl) (Nat.le_of_ble_eq_true rfl) d_K_job_128 (fun q13 H q13ad hq13M hq13E hq13q => ?_)
                  have hM := hq13M
                  have hnq13 : gn M 4 < gn (sn M 4) 4 := sn_live _ _
                  refine lv_dup X.1 X.2.1 d_K_job_131 rfl ?_
                  refine lv_aload_n X.1 X.2.1 d_K_job_132 rfl (lv_at hl 2 rfl) ?_
                  refine r_geti X hM (hq13E 0 0 hk0) (sn_up hk0) f_K_56 rfl d_K_job_133 ?_
                  refine lv_topi (fun nj e_nj => ?_)
                  have e9 : nj = gi M 0 0 10 := by rw [e_nj, gi_sn, if_neg (by omega)]
                  clear e_nj
                  subst e9
                  refine lv_iload_n X.1 X.2.1 d_K_job_136 rfl (lv_at hl 3 rfl) ?_
                  refine lv_iload_n X.1 X.2.1 d_K_job_137 rfl (lv_at hl 4 rfl) ?_
                  refine lv_iload X.1 X.2.1 d_K_job_138 (lv_at hl 1 rfl) ?_
                  have hC9 := (k_Jb_init l D dA base (sn M 4) q13ad (gn M 4) hnq13 (gi M 0 0 10) kd x 0)
                  rw [hq13q] at hC9
                  refine r_cI (As := [.int (gi M 0 0 10), .int kd, .int x, .int 0]) (rest := [.ref q13]) X hml hl.1 hM hC9 c_K_129 v_Jb_init rfl (Nat.le_of_ble_eq_true rfl) ⟨rfl, rfl, Nat.le_of_ble_eq_true rfl, Nat.le_of_ble_eq_true rfl⟩ ⟨Nat.le_of_ble_eq_true rfl, Nat.le_of_ble_eq_true rfl⟩ d_K_job_140 ?_
                  intro rv M1 ad1 H locs hP hM hE
                  obtain ⟨e1, e2, e3⟩ := hP
                  subst rv; subst M1; subst ad1
                  have hr9 : gr (jb0 M kd x 0) 0 0 9 = some 0 := by rw [jb0_gr M kd x 0 (by omega)]; exact w_0_9 hw
                  have hx9 : gi (jb0 M kd x 0) 0 0 10 = nI (gn M 4) := by rw [jb0_gi M kd x 0 (by omega)]; exact w_nj hw
                  show W _ _ _ _ _ _ _ _ _ _ _ _ _ _ _ (F0 m 143 ls [.ref q13])
                  refine lv_astore (lv' := [(6, .ref q13), (5, .ref (ad 4 q)), (4, .int 0), (0, .ref (ad 0 0)), (1, .int kd), (2, .int x), (3, .int s0)]) X.1 X.2.1 d_K_job_143 hl (by decide) rfl (fun ls hl => ?_)
                  refine lv_aload_n X.1 X.2.1 d_K_job_145 rfl (lv_at hl 3 rfl) ?_
                  refine r_gets (q := 0) X hM (hq13E 0 0 hk0) (sn_up hk0) f_K_52 rfl hr9 d_K_job_146 (fun hv15 => ?_)
                  refine lv_aload_n X.1 X.2.1 d_K_job_149 rfl (lv_at hl 3 rfl) ?_
                  refine r_geti X hM (hq13E 0 0 hk0) (sn_up hk0) f_K_56 rfl d_K_job_150 ?_
                  refine lv_aload X.1 X.2.1 d_K_job_153 (lv_at hl 0 rfl) ?_
                  refine r_aast X hM rfl hv15 a_jobs (fun _ => rfl) rfl rfl hq13q hnq13 (j := (gn M 4)) hx9 ((lt60 hw).mp h115) d_K_job_155 (fun H locs hM => ?_)
                  refine lv_aload_n X.1 X.2.1 d_K_job_156 rfl (lv_at hl 3 rfl) ?_
                  refine lv_dup X.1 X.2.1 d_K_job_157 rfl ?_
                  refine r_geti X hM (hq13E 0 0 hk0) (sn_up hk0) f_K_56 rfl d_K_job_158 ?_
                  refine lv_iconst (v := 1) X.1 X.2.1 d_K_job_161 (by decide) ?_
                  refine lv_iadd X.1 X.2.1 d_K_job_162 ?_
                  refine r_puti X hM (hq13E 0 0 hk0) (sn_up hk0) p_K_56 rfl rfl rfl d_K_job_163 (fun H locs hM => ?_)
                  refine lv_aload X.1 X.2.1 d_K_job_166 (lv_at hl 0 rfl) ?_
                  refine r_geti X hM hq13q hnq13 f_K_117 rfl d_K_job_168 ?_
                  have hF : jbM M kd x s0 = (nI (gn M 4), jnM M kd x 0) := by unfold jbM; rw [hj0, eo]
                  have hZ : si (sr (jb0 M kd x 0) 13 0 (gn M 4) (some (gn M 4))) 0 0 10 (gi (jb0 M kd x 0) 0 0 10 + 1) = jnM M kd x 0 := by rw [hx9, nI_1]; rfl
                  refine vx_ret ?_
                  exact m_iret X hr hlk hM d_K_job_171 ⟨Nat.le_of_ble_eq_true rfl, Nat.le_of_ble_eq_true rfl⟩ (mExt_tr (mExt_rf _ _) (mExt_new hq13E)) ⟨hX, by rw [hF]; exact congrArg (fun z => some (Value.int z)) ((congrArg (fun N => gi N 4 (gn M 4) 0) hZ).trans (jnM_new hw kd x 0).1), by rw [hF]; exact hZ⟩
                · skip
                  exact r_throw X hst hml hl.1 hM hlk hno t_K_124_126_128 d_K_job_118 d_K_job_121 d_K_job_122 d_K_job_124 d_K_job_127 ⟨Nat.le_of_ble_eq_true rfl, Nat.le_of_ble_eq_true rfl, Nat.le_of_ble_eq_true rfl, Nat.le_of_ble_eq_true rfl⟩ ⟨Nat.le_of_ble_eq_true rfl, Nat.le_of_ble_eq_true rfl⟩ (Or.inr ⟨by unfold jbXc; rw [if_neg hb, if_neg (by rw [hj0]; exact (fun z => z rfl)), if_neg (fun z => h115 ((lt60 hw).mpr z.2))], rfl⟩)
            · skip
              refine lv_aload X.1 X.2.1 d_K_job_84 (lv_at hl 0 rfl) ?_
              refine r_geti X hM rfl ((fun q z => lstR_lv z) q h64) f_K_114 rfl d_K_job_86 ?_
              refine lv_iload X.1 X.2.1 d_K_job_89 (lv_at hl 1 rfl) ?_
              refine lv_icmp_ne (tgt := 100) X.1 X.2.1 d_K_job_91 (by decide) (fun h91 => ?_) (fun h91 => ?_)
              · skip
                have hj0 : jsm M kd x (own0 kd s0) = none := by rw [eo]; exact jsm_n h64 (fun z => h91 z.2.2)
                refine lv_aload_n X.1 X.2.1 d_K_job_100 rfl (lv_at hl 2 rfl) ?_
                refine lv_iload_n X.1 X.2.1 d_K_job_101 rfl (lv_at hl 4 rfl) ?_
                refine r_cV (As := [.int x]) (rest := []) X hml hl.1 hM (k_K_rowLength l D dA base M ad hw x) c_K_120 v_K_rowLength kc_K rfl hk0 rfl (Nat.le_of_ble_eq_true rfl) ⟨rfl, rfl, Nat.le_of_ble_eq_true rfl, Nat.le_of_ble_eq_true rfl⟩ ⟨Nat.le_of_ble_eq_true rfl, Nat.le_of_ble_eq_true rfl⟩ d_K_job_102 ?_
                intro rv M1 ad1 H locs hP hM hE
                obtain ⟨e1, e2, e3⟩ := hP
                subst rv; subst M1; subst ad1
                show W _ _ _ _ _ _ _ _ _ _ _ _ _ _ _ (F0 m 105 ls [.int (nI (lenR M x))])
                refine lv_iconst (v := 4) X.1 X.2.1 d_K_job_105 (by decide) ?_
                refine lv_icmp_ge (tgt := 118) X.1 X.2.1 d_K_job_106 (by decide) (fun h106 => ?_) (fun h106 => ?_)
                · skip
                  exact r_throw X hst hml hl.1 hM hlk hno t_K_124_126_128 d_K_job_118 d_K_job_121 d_K_job_122 d_K_job_124 d_K_job_127 ⟨Nat.le_of_ble_eq_true rfl, Nat.le_of_ble_eq_true rfl, Nat.le_of_ble_eq_true rfl, Nat.le_of_ble_eq_true rfl⟩ ⟨Nat.le_of_ble_eq_true rfl, Nat.le_of_ble_eq_true rfl⟩ (Or.inr ⟨by unfold jbXc; rw [if_neg hb, if_neg (by rw [hj0]; exact (fun z => z rfl)), if_neg (fun z => (ltR4 hw x).mp h106 z.1)], rfl⟩)
                · skip
                  refine lv_aload_n X.1 X.2.1 d_K_job_109 rfl (lv_at hl 2 rfl) ?_
                  refine r_geti X hM rfl hk0 f_K_56 rfl d_K_job_110 ?_
                  refine lv_bipush (v := 60) X.1 X.2.1 d_K_job_113 (by decide) ?_
                  refine lv_icmp_lt (tgt := 128) X.1 X.2.1 d_K_job_115 (by decide) (fun h115 => ?_) (fun h115 => ?_)
                  · skip
                    have hX : jbXc M kd x s0 = 0 := by unfold jbXc; rw [if_neg hb, if_neg (by rw [hj0]; exact (fun z => z rfl)), if_pos ⟨Classical.not_not.mp (fun z => h106 ((ltR4 hw x).mpr z)), (lt60 hw).mp h115⟩]
                    refine r_new (k := 4) X hM n_K_50 (Nat.le_of_ble_eq_true rfl) (Nat.le_of_ble_eq_true rfl) d_K_job_128 (fun q17 H q17ad hq17M hq17E hq17q => ?_)
                    have hM := hq17M
                    have hnq17 : gn M 4 < gn (sn M 4) 4 := sn_live _ _
                    refine lv_dup X.1 X.2.1 d_K_job_131 rfl ?_
                    refine lv_aload_n X.1 X.2.1 d_K_job_132 rfl (lv_at hl 2 rfl) ?_
                    refine r_geti X hM (hq17E 0 0 hk0) (sn_up hk0) f_K_56 rfl d_K_job_133 ?_
                    refine lv_topi (fun nj e_nj => ?_)
                    have e9 : nj = gi M 0 0 10 := by rw [e_nj, gi_sn, if_neg (by omega)]
                    clear e_nj
                    subst e9
                    refine lv_iload_n X.1 X.2.1 d_K_job_136 rfl (lv_at hl 3 rfl) ?_
                    refine lv_iload_n X.1 X.2.1 d_K_job_137 rfl (lv_at hl 4 rfl) ?_
                    refine lv_iload X.1 X.2.1 d_K_job_138 (lv_at hl 1 rfl) ?_
                    have hC9 := (k_Jb_init l D dA base (sn M 4) q17ad (gn M 4) hnq17 (gi M 0 0 10) kd x 0)
                    rw [hq17q] at hC9
                    refine r_cI (As := [.int (gi M 0 0 10), .int kd, .int x, .int 0]) (rest := [.ref q17]) X hml hl.1 hM hC9 c_K_129 v_Jb_init rfl (Nat.le_of_ble_eq_true rfl) ⟨rfl, rfl, Nat.le_of_ble_eq_true rfl, Nat.le_of_ble_eq_true rfl⟩ ⟨Nat.le_of_ble_eq_true rfl, Nat.le_of_ble_eq_true rfl⟩ d_K_job_140 ?_
                    intro rv M1 ad1 H locs hP hM hE
                    obtain ⟨e1, e2, e3⟩ := hP
                    subst rv; subst M1; subst ad1
                    have hr9 : gr (jb0 M kd x 0) 0 0 9 = some 0 := by rw [jb0_gr M kd x 0 (by omega)]; exact w_0_9 hw
                    have hx9 : gi (jb0 M kd x 0) 0 0 10 = nI (gn M 4) := by rw [jb0_gi M kd x 0 (by omega)]; exact w_nj hw
                    show W _ _ _ _ _ _ _ _ _ _ _ _ _ _ _ (F0 m 143 ls [.ref q17])
                    refine lv_astore (lv' := [(6, .ref q17), (5, .ref (ad 4 q)), (4, .int 0), (0, .ref (ad 0 0)), (1, .int kd), (2, .int x), (3, .int s0)]) X.1 X.2.1 d_K_job_143 hl (by decide) rfl (fun ls hl => ?_)
                    refine lv_aload_n X.1 X.2.1 d_K_job_145 rfl (lv_at hl 3 rfl) ?_
                    refine r_gets (q := 0) X hM (hq17E 0 0 hk0) (sn_up hk0) f_K_52 rfl hr9 d_K_job_146 (fun hv19 => ?_)
                    refine lv_aload_n X.1 X.2.1 d_K_job_149 rfl (lv_at hl 3 rfl) ?_
                    refine r_geti X hM (hq17E 0 0 hk0) (sn_up hk0) f_K_56 rfl d_K_job_150 ?_
                    refine lv_aload X.1 X.2.1 d_K_job_153 (lv_at hl 0 rfl) ?_
                    refine r_aast X hM rfl hv19 a_jobs (fun _ => rfl) rfl rfl hq17q hnq17 (j := (gn M 4)) hx9 ((lt60 hw).mp h115) d_K_job_155 (fun H locs hM => ?_)
                    refine lv_aload_n X.1 X.2.1 d_K_job_156 rfl (lv_at hl 3 rfl) ?_
                    refine lv_dup X.1 X.2.1 d_K_job_157 rfl ?_
                    refine r_geti X hM (hq17E 0 0 hk0) (sn_up hk0) f_K_56 rfl d_K_job_158 ?_
                    refine lv_iconst (v := 1) X.1 X.2.1 d_K_job_161 (by decide) ?_
                    refine lv_iadd X.1 X.2.1 d_K_job_162 ?_
                    refine r_puti X hM (hq17E 0 0 hk0) (sn_up hk0) p_K_56 rfl rfl rfl d_K_job_163 (fun H locs hM => ?_)
                    refine lv_aload X.1 X.2.1 d_K_job_166 (lv_at hl 0 rfl) ?_
                    refine r_geti X hM hq17q hnq17 f_K_117 rfl d_K_job_168 ?_
                    have hF : jbM M kd x s0 = (nI (gn M 4), jnM M kd x 0) := by unfold jbM; rw [hj0, eo]
                    have hZ : si (sr (jb0 M kd x 0) 13 0 (gn M 4) (some (gn M 4))) 0 0 10 (gi (jb0 M kd x 0) 0 0 10 + 1) = jnM M kd x 0 := by rw [hx9, nI_1]; rfl
                    refine vx_ret ?_
                    exact m_iret X hr hlk hM d_K_job_171 ⟨Nat.le_of_ble_eq_true rfl, Nat.le_of_ble_eq_true rfl⟩ (mExt_tr (mExt_rf _ _) (mExt_new hq17E)) ⟨hX, by rw [hF]; exact congrArg (fun z => some (Value.int z)) ((congrArg (fun N => gi N 4 (gn M 4) 0) hZ).trans (jnM_new hw kd x 0).1), by rw [hF]; exact hZ⟩
                  · skip
                    exact r_throw X hst hml hl.1 hM hlk hno t_K_124_126_128 d_K_job_118 d_K_job_121 d_K_job_122 d_K_job_124 d_K_job_127 ⟨Nat.le_of_ble_eq_true rfl, Nat.le_of_ble_eq_true rfl, Nat.le_of_ble_eq_true rfl, Nat.le_of_ble_eq_true rfl⟩ ⟨Nat.le_of_ble_eq_true rfl, Nat.le_of_ble_eq_true rfl⟩ (Or.inr ⟨by unfold jbXc; rw [if_neg hb, if_neg (by rw [hj0]; exact (fun z => z rfl)), if_neg (fun z => h115 ((lt60 hw).mpr z.2))], rfl⟩)
              · skip
                refine lv_aload X.1 X.2.1 d_K_job_94 (lv_at hl 0 rfl) ?_
                refine r_geti X hM rfl ((fun q z => lstR_lv z) q h64) f_K_117 rfl d_K_job_96 ?_
                have hj0 : jsm M kd x (own0 kd s0) = some q := by rw [eo]; exact jsm_y h64 ⟨h72, h81, h91⟩
                have hF : jbM M kd x s0 = (nI q, M) := by unfold jbM; rw [hj0]
                refine vx_ret ?_
                exact m_iret X hr hlk hM d_K_job_99 ⟨Nat.le_of_ble_eq_true rfl, Nat.le_of_ble_eq_true rfl⟩ (mExt_rf _ _) ⟨by unfold jbXc; rw [if_neg hb, if_pos (by rw [hj0]; exact (fun z => nomatch z))], by rw [hF, w_jn hw (lstR_lv h64)], by rw [hF]⟩
      · skip
        refine lv_iload_n X.1 X.2.1 d_K_job_27 rfl (lv_at hl 3 rfl) ?_
        refine r_cS (As := [.int s0]) (rest := []) X hml hl.1 hM (k_K_isScript l D dA base M ad s0) c_K_68 v_K_isScript rfl (Nat.le_of_ble_eq_true rfl) ⟨rfl, rfl, Nat.le_of_ble_eq_true rfl, Nat.le_of_ble_eq_true rfl⟩ ⟨Nat.le_of_ble_eq_true rfl, Nat.le_of_ble_eq_true rfl⟩ d_K_job_28 ?_
        intro rv M1 ad1 H locs hP hM hE
        obtain ⟨e1, e2, e3⟩ := hP
        subst rv; subst M1; subst ad1
        show W _ _ _ _ _ _ _ _ _ _ _ _ _ _ _ (F0 m 31 ls [.int (if 0 ≤ s0 ∧ s0 < 4 then 1 else 0)])
        refine lv_if_ne (tgt := 44) X.1 X.2.1 d_K_job_31 (by decide) (fun h31 => ?_) (fun h31 => ?_)
        · skip
          have hb : ¬ (¬ (0 ≤ kd ∧ kd ≤ 2) ∨ isP x = false ∨ (kd = 0 ∧ ¬ (0 ≤ s0 ∧ s0 < 4))) := by
            rintro (z | z | z)
            · exact z ⟨Int32.not_lt.mp h1, h6⟩
            · rw [hp] at z; cases z
            · exact z.2 (bn0 h31)
          have eo : own0 kd s0 = s0 := if_pos h24
          refine lv_iload_n X.1 X.2.1 d_K_job_44 rfl (lv_at hl 1 rfl) ?_
          refine lv_if_ne (tgt := 52) X.1 X.2.1 d_K_job_45 (by decide) (fun hz21 => absurd h24 hz21) (fun hz21 => ?_)
          refine lv_iload_n X.1 X.2.1 d_K_job_48 rfl (lv_at hl 3 rfl) ?_
          refine lv_goto (tgt := 53) X.1 X.2.1 d_K_job_49 (by decide) ?_
          refine lv_istore (lv' := [(4, .int s0), (0, .ref (ad 0 0)), (1, .int kd), (2, .int x), (3, .int s0)]) X.1 X.2.1 d_K_job_53 hl (by decide) rfl (fun ls hl => ?_)
          refine lv_aload_n X.1 X.2.1 d_K_job_55 rfl (lv_at hl 1 rfl) ?_
          refine lv_iload_n X.1 X.2.1 d_K_job_56 rfl (lv_at hl 3 rfl) ?_
          refine r_cV (As := [.int x]) (rest := []) X hml hl.1 hM (k_K_lastOfRow l D dA base M ad hw x) c_K_104 v_K_lastOfRow kc_K rfl hk0 rfl (Nat.le_of_ble_eq_true rfl) ⟨rfl, rfl, Nat.le_of_ble_eq_true rfl, Nat.le_of_ble_eq_true rfl⟩ ⟨Nat.le_of_ble_eq_true rfl, Nat.le_of_ble_eq_true rfl⟩ d_K_job_57 ?_
          intro rv M1 ad1 H locs hP hM hE
          obtain ⟨e1, e2, e3⟩ := hP
          subst rv; subst M1; subst ad1
          show W _ _ _ _ _ _ _ _ _ _ _ _ _ _ _ (F0 m 60 ls [rfv ad 4 (lstR M x)])
          refine r_astore (lv' := [(5, rfv ad 4 (lstR M x)), (4, .int s0), (0, .ref (ad 0 0)), (1, .int kd), (2, .int x), (3, .int s0)]) X.1 X.2.1 d_K_job_60 hl (by decide) rfl (fun ls hl => ?_)
          refine r_aload X.1 X.2.1 d_K_job_62 (lv_at hl 0 rfl) ?_
          refine r_ifnull (tgt := 100) X.1 X.2.1 d_K_job_64 (by decide) (fun h64 => ?_) (fun q h64 => ?_)
          · skip
            rw [h64] at hl
            have hl : lv_has ls 7 [(5, .null), (4, .int s0), (0, .ref (ad 0 0)), (1, .int kd), (2, .int x), (3, .int s0)] := hl
            have hj0 : jsm M kd x (own0 kd s0) = none := by rw [eo]; exact jsm_0 h64
            refine lv_aload_n X.1 X.2.1 d_K_job_100 rfl (lv_at hl 2 rfl) ?_
            refine lv_iload_n X.1 X.2.1 d_K_job_101 rfl (lv_at hl 4 rfl) ?_
            refine r_cV (As := [.int x]) (rest := []) X hml hl.1 hM (k_K_rowLength l D dA base M ad hw x) c_K_120 v_K_rowLength kc_K rfl hk0 rfl (Nat.le_of_ble_eq_true rfl) ⟨rfl, rfl, Nat.le_of_ble_eq_true rfl, Nat.le_of_ble_eq_true rfl⟩ ⟨Nat.le_of_ble_eq_true rfl, Nat.le_of_ble_eq_true rfl⟩ d_K_job_102 ?_
            intro rv M1 ad1 H locs hP hM hE
            obtain ⟨e1, e2, e3⟩ := hP
            subst rv; subst M1; subst ad1
            show W _ _ _ _ _ _ _ _ _ _ _ _ _ _ _ (F0 m 105 ls [.int (nI (lenR M x))])
            refine lv_iconst (v := 4) X.1 X.2.1 d_K_job_105 (by decide) ?_
            refine lv_icmp_ge (tgt := 118) X.1 X.2.1 d_K_job_106 (by decide) (fun h106 => ?_) (fun h106 => ?_)
            · skip
              exact r_throw X hst hml hl.1 hM hlk hno t_K_124_126_128 d_K_job_118 d_K_job_121 d_K_job_122 d_K_job_124 d_K_job_127 ⟨Nat.le_of_ble_eq_true rfl, Nat.le_of_ble_eq_true rfl, Nat.le_of_ble_eq_true rfl, Nat.le_of_ble_eq_true rfl⟩ ⟨Nat.le_of_ble_eq_true rfl, Nat.le_of_ble_eq_true rfl⟩ (Or.inr ⟨by unfold jbXc; rw [if_neg hb, if_neg (by rw [hj0]; exact (fun z => z rfl)), if_neg (fun z => (ltR4 hw x).mp h106 z.1)], rfl⟩)
            · skip
              refine lv_aload_n X.1 X.2.1 d_K_job_109 rfl (lv_at hl 2 rfl) ?_
              refine r_geti X hM rfl hk0 f_K_56 rfl d_K_job_110 ?_
              refine lv_bipush (v := 60) X.1 X.2.1 d_K_job_113 (by decide) ?_
              refine lv_icmp_lt (tgt := 128) X.1 X.2.1 d_K_job_115 (by decide) (fun h115 => ?_) (fun h115 => ?_)
              · skip
                have hX : jbXc M kd x s0 = 0 := by unfold jbXc; rw [if_neg hb, if_neg (by rw [hj0]; exact (fun z => z rfl)), if_pos ⟨Classical.not_not.mp (fun z => h106 ((ltR4 hw x).mpr z)), (lt60 hw).mp h115⟩]
                refine r_new (k := 4) X hM n_K_50 (Nat.le_of_ble_eq_true rfl) (Nat.le_of_ble_eq_true rfl) d_K_job_128 (fun q24 H q24ad hq24M hq24E hq24q => ?_)
                have hM := hq24M
                have hnq24 : gn M 4 < gn (sn M 4) 4 := sn_live _ _
                refine lv_dup X.1 X.2.1 d_K_job_131 rfl ?_
                refine lv_aload_n X.1 X.2.1 d_K_job_132 rfl (lv_at hl 2 rfl) ?_
                refine r_geti X hM (hq24E 0 0 hk0) (sn_up hk0) f_K_56 rfl d_K_job_133 ?_
                refine lv_topi (fun nj e_nj => ?_)
                have e9 : nj = gi M 0 0 10 := by rw [e_nj, gi_sn, if_neg (by omega)]
                clear e_nj
                subst e9
                refine lv_iload_n X.1 X.2.1 d_K_job_136 rfl (lv_at hl 3 rfl) ?_
                refine lv_iload_n X.1 X.2.1 d_K_job_137 rfl (lv_at hl 4 rfl) ?_
                refine lv_iload X.1 X.2.1 d_K_job_138 (lv_at hl 1 rfl) ?_
                have hC9 := (k_Jb_init l D dA base (sn M 4) q24ad (gn M 4) hnq24 (gi M 0 0 10) kd x s0)
                rw [hq24q] at hC9
                refine r_cI (As := [.int (gi M 0 0 10), .int kd, .int x, .int s0]) (rest := [.ref q24]) X hml hl.1 hM hC9 c_K_129 v_Jb_init rfl (Nat.le_of_ble_eq_true rfl) ⟨rfl, rfl, Nat.le_of_ble_eq_true rfl, Nat.le_of_ble_eq_true rfl⟩ ⟨Nat.le_of_ble_eq_true rfl, Nat.le_of_ble_eq_true rfl⟩ d_K_job_140 ?_
                intro rv M1 ad1 H locs hP hM hE
                obtain ⟨e1, e2, e3⟩ := hP
                subst rv; subst M1; subst ad1
                have hr9 : gr (jb0 M kd x s0) 0 0 9 = some 0 := by rw [jb0_gr M kd x s0 (by omega)]; exact w_0_9 hw
                have hx9 : gi (jb0 M kd x s0) 0 0 10 = nI (gn M 4) := by rw [jb0_gi M kd x s0 (by omega)]; exact w_nj hw
                show W _ _ _ _ _ _ _ _ _ _ _ _ _ _ _ (F0 m 143 ls [.ref q24])
                refine lv_astore (lv' := [(6, .ref q24), (5, .null), (4, .int s0), (0, .ref (ad 0 0)), (1, .int kd), (2, .int x), (3, .int s0)]) X.1 X.2.1 d_K_job_143 hl (by decide) rfl (fun ls hl => ?_)
                refine lv_aload_n X.1 X.2.1 d_K_job_145 rfl (lv_at hl 3 rfl) ?_
                refine r_gets (q := 0) X hM (hq24E 0 0 hk0) (sn_up hk0) f_K_52 rfl hr9 d_K_job_146 (fun hv26 => ?_)
                refine lv_aload_n X.1 X.2.1 d_K_job_149 rfl (lv_at hl 3 rfl) ?_
                refine r_geti X hM (hq24E 0 0 hk0) (sn_up hk0) f_K_56 rfl d_K_job_150 ?_
                refine lv_aload X.1 X.2.1 d_K_job_153 (lv_at hl 0 rfl) ?_
                refine r_aast X hM rfl hv26 a_jobs (fun _ => rfl) rfl rfl hq24q hnq24 (j := (gn M 4)) hx9 ((lt60 hw).mp h115) d_K_job_155 (fun H locs hM => ?_)
                refine lv_aload_n X.1 X.2.1 d_K_job_156 rfl (lv_at hl 3 rfl) ?_
                refine lv_dup X.1 X.2.1 d_K_job_157 rfl ?_
                refine r_geti X hM (hq24E 0 0 hk0) (sn_up hk0) f_K_56 rfl d_K_job_158 ?_
                refine lv_iconst (v := 1) X.1 X.2.1 d_K_job_161 (by decide) ?_
                refine lv_iadd X.1 X.2.1 d_K_job_162 ?_
                refine r_puti X hM (hq24E 0 0 hk0) (sn_up hk0) p_K_56 rfl rfl rfl d_K_job_163 (fun H locs hM => ?_)
                refine lv_aload X.1 X.2.1 d_K_job_166 (lv_at hl 0 rfl) ?_
                refine r_geti X hM hq24q hnq24 f_K_117 rfl d_K_job_168 ?_
                have hF : jbM M kd x s0 = (nI (gn M 4), jnM M kd x s0) := by unfold jbM; rw [hj0, eo]
                have hZ : si (sr (jb0 M kd x s0) 13 0 (gn M 4) (some (gn M 4))) 0 0 10 (gi (jb0 M kd x s0) 0 0 10 + 1) = jnM M kd x s0 := by rw [hx9, nI_1]; rfl
                refine vx_ret ?_
                exact m_iret X hr hlk hM d_K_job_171 ⟨Nat.le_of_ble_eq_true rfl, Nat.le_of_ble_eq_true rfl⟩ (mExt_tr (mExt_rf _ _) (mExt_new hq24E)) ⟨hX, by rw [hF]; exact congrArg (fun z => some (Value.int z)) ((congrArg (fun N => gi N 4 (gn M 4) 0) hZ).trans (jnM_new hw kd x s0).1), by rw [hF]; exact hZ⟩
              · skip
                exact r_throw X hst hml hl.1 hM hlk hno t_K_124_126_128 d_K_job_118 d_K_job_121 d_K_job_122 d_K_job_124 d_K_job_127 ⟨Nat.le_of_ble_eq_true rfl, Nat.le_of_ble_eq_true rfl, Nat.le_of_ble_eq_true rfl, Nat.le_of_ble_eq_true rfl⟩ ⟨Nat.le_of_ble_eq_true rfl, Nat.le_of_ble_eq_true rfl⟩ (Or.inr ⟨by unfold jbXc; rw [if_neg hb, if_neg (by rw [hj0]; exact (fun z => z rfl)), if_neg (fun z => h115 ((lt60 hw).mpr z.2))], rfl⟩)
          · skip
            rw [h64] at hl
            have hl : lv_has ls 7 [(5, .ref (ad 4 q)), (4, .int s0), (0, .ref (ad 0 0)), (1, .int kd), (2, .int x), (3, .int s0)] := hl
            refine lv_aload X.1 X.2.1 d_K_job_67 (lv_at hl 0 rfl) ?_
            refine r_geti X hM rfl ((fun q z => lstR_lv z) q h64) f_K_108 rfl d_K_job_69 ?_
            refine lv_if_ne (tgt := 100) X.1 X.2.1 d_K_job_72 (by decide) (fun h72 => ?_) (fun h72 => ?_)
            · skip
              have hj0 : jsm M kd x (own0 kd s0) = none := by rw [eo]; exact jsm_n h64 (fun z => h72 z.1)
              refine lv_aload_n X.1 X.2.1 d_K_job_100 rfl (lv_at hl 2 rfl) ?_
              refine lv_iload_n X.1 X.2.1 d_K_job_101 rfl (lv_at hl 4 rfl) ?_
              refine r_cV (As := [.int x]) (rest := []) X hml hl.1 hM (k_K_rowLength l D dA base M ad hw x) c_K_120 v_K_rowLength kc_K rfl hk0 rfl (Nat.le_of_ble_eq_true rfl) ⟨rfl, rfl, Nat.le_of_ble_eq_true rfl, Nat.le_of_ble_eq_true rfl⟩ ⟨Nat.le_of_ble_eq_true rfl, Nat.le_of_ble_eq_true rfl⟩ d_K_job_102 ?_
              intro rv M1 ad1 H locs hP hM hE
              obtain ⟨e1, e2, e3⟩ := hP
              subst rv; subst M1; subst ad1
              show W _ _ _ _ _ _ _ _ _ _ _ _ _ _ _ (F0 m 105 ls [.int (nI (lenR M x))])
              refine lv_iconst (v := 4) X.1 X.2.1 d_K_job_105 (by decide) ?_
              refine lv_icmp_ge (tgt := 118) X.1 X.2.1 d_K_job_106 (by decide) (fun h106 => ?_) (fun h106 => ?_)
              · skip
                exact r_throw X hst hml hl.1 hM hlk hno t_K_124_126_128 d_K_job_118 d_K_job_121 d_K_job_122 d_K_job_124 d_K_job_127 ⟨Nat.le_of_ble_eq_true rfl, Nat.le_of_ble_eq_true rfl, Nat.le_of_ble_eq_true rfl, Nat.le_of_ble_eq_true rfl⟩ ⟨Nat.le_of_ble_eq_true rfl, Nat.le_of_ble_eq_true rfl⟩ (Or.inr ⟨by unfold jbXc; rw [if_neg hb, if_neg (by rw [hj0]; exact (fun z => z rfl)), if_neg (fun z => (ltR4 hw x).mp h106 z.1)], rfl⟩)
              · skip
                refine lv_aload_n X.1 X.2.1 d_K_job_109 rfl (lv_at hl 2 rfl) ?_
                refine r_geti X hM rfl hk0 f_K_56 rfl d_K_job_110 ?_
                refine lv_bipush (v := 60) X.1 X.2.1 d_K_job_113 (by decide) ?_
                refine lv_icmp_lt (tgt := 128) X.1 X.2.1 d_K_job_115 (by decide) (fun h115 => ?_) (fun h115 => ?_)
                · skip
                  have hX : jbXc M kd x s0 = 0 := by unfold jbXc; rw [if_neg hb, if_neg (by rw [hj0]; exact (fun z => z rfl)), if_pos ⟨Classical.not_not.mp (fun z => h106 ((ltR4 hw x).mpr z)), (lt60 hw).mp h115⟩]
                  refine r_new (k := 4) X hM n_K_50 (Nat.le_of_ble_eq_true rfl) (Nat.le_of_ble_eq_true rfl) d_K_job_128 (fun q28 H q28ad hq28M hq28E hq28q => ?_)
                  have hM := hq28M
                  have hnq28 : gn M 4 < gn (sn M 4) 4 := sn_live _ _
                  refine lv_dup X.1 X.2.1 d_K_job_131 rfl ?_
                  refine lv_aload_n X.1 X.2.1 d_K_job_132 rfl (lv_at hl 2 rfl) ?_
                  refine r_geti X hM (hq28E 0 0 hk0) (sn_up hk0) f_K_56 rfl d_K_job_133 ?_
                  refine lv_topi (fun nj e_nj => ?_)
                  have e9 : nj = gi M 0 0 10 := by rw [e_nj, gi_sn, if_neg (by omega)]
                  clear e_nj
                  subst e9
                  refine lv_iload_n X.1 X.2.1 d_K_job_136 rfl (lv_at hl 3 rfl) ?_
                  refine lv_iload_n X.1 X.2.1 d_K_job_137 rfl (lv_at hl 4 rfl) ?_
                  refine lv_iload X.1 X.2.1 d_K_job_138 (lv_at hl 1 rfl) ?_
                  have hC9 := (k_Jb_init l D dA base (sn M 4) q28ad (gn M 4) hnq28 (gi M 0 0 10) kd x s0)
                  rw [hq28q] at hC9
                  refine r_cI (As := [.int (gi M 0 0 10), .int kd, .int x, .int s0]) (rest := [.ref q28]) X hml hl.1 hM hC9 c_K_129 v_Jb_init rfl (Nat.le_of_ble_eq_true rfl) ⟨rfl, rfl, Nat.le_of_ble_eq_true rfl, Nat.le_of_ble_eq_true rfl⟩ ⟨Nat.le_of_ble_eq_true rfl, Nat.le_of_ble_eq_true rfl⟩ d_K_job_140 ?_
                  intro rv M1 ad1 H locs hP hM hE
                  obtain ⟨e1, e2, e3⟩ := hP
                  subst rv; subst M1; subst ad1
                  have hr9 : gr (jb0 M kd x s0) 0 0 9 = some 0 := by rw [jb0_gr M kd x s0 (by omega)]; exact w_0_9 hw
                  have hx9 : gi (jb0 M kd x s0) 0 0 10 = nI (gn M 4) := by rw [jb0_gi M kd x s0 (by omega)]; exact w_nj hw
                  show W _ _ _ _ _ _ _ _ _ _ _ _ _ _ _ (F0 m 143 ls [.ref q28])
                  refine lv_astore (lv' := [(6, .ref q28), (5, .ref (ad 4 q)), (4, .int s0), (0, .ref (ad 0 0)), (1, .int kd), (2, .int x), (3, .int s0)]) X.1 X.2.1 d_K_job_143 hl (by decide) rfl (fun ls hl => ?_)
                  refine lv_aload_n X.1 X.2.1 d_K_job_145 rfl (lv_at hl 3 rfl) ?_
                  refine r_gets (q := 0) X hM (hq28E 0 0 hk0) (sn_up hk0) f_K_52 rfl hr9 d_K_job_146 (fun hv30 => ?_)
                  refine lv_aload_n X.1 X.2.1 d_K_job_149 rfl (lv_at hl 3 rfl) ?_
                  refine r_geti X hM (hq28E 0 0 hk0) (sn_up hk0) f_K_56 rfl d_K_job_150 ?_
                  refine lv_aload X.1 X.2.1 d_K_job_153 (lv_at hl 0 rfl) ?_
                  refine r_aast X hM rfl hv30 a_jobs (fun _ => rfl) rfl rfl hq28q hnq28 (j := (gn M 4)) hx9 ((lt60 hw).mp h115) d_K_job_155 (fun H locs hM => ?_)
                  refine lv_aload_n X.1 X.2.1 d_K_job_156 rfl (lv_at hl 3 rfl) ?_
                  refine lv_dup X.1 X.2.1 d_K_job_157 rfl ?_
                  refine r_geti X hM (hq28E 0 0 hk0) (sn_up hk0) f_K_56 rfl d_K_job_158 ?_
                  refine lv_iconst (v := 1) X.1 X.2.1 d_K_job_161 (by decide) ?_
                  refine lv_iadd X.1 X.2.1 d_K_job_162 ?_
                  refine r_puti X hM (hq28E 0 0 hk0) (sn_up hk0) p_K_56 rfl rfl rfl d_K_job_163 (fun H locs hM => ?_)
                  refine lv_aload X.1 X.2.1 d_K_job_166 (lv_at hl 0 rfl) ?_
                  refine r_geti X hM hq28q hnq28 f_K_117 rfl d_K_job_168 ?_
                  have hF : jbM M kd x s0 = (nI (gn M 4), jnM M kd x s0) := by unfold jbM; rw [hj0, eo]
                  have hZ : si (sr (jb0 M kd x s0) 13 0 (gn M 4) (some (gn M 4))) 0 0 10 (gi (jb0 M kd x s0) 0 0 10 + 1) = jnM M kd x s0 := by rw [hx9, nI_1]; rfl
                  refine vx_ret ?_
                  exact m_iret X hr hlk hM d_K_job_171 ⟨Nat.le_of_ble_eq_true rfl, Nat.le_of_ble_eq_true rfl⟩ (mExt_tr (mExt_rf _ _) (mExt_new hq28E)) ⟨hX, by rw [hF]; exact congrArg (fun z => some (Value.int z)) ((congrArg (fun N => gi N 4 (gn M 4) 0) hZ).trans (jnM_new hw kd x s0).1), by rw [hF]; exact hZ⟩
                · skip
                  exact r_throw X hst hml hl.1 hM hlk hno t_K_124_126_128 d_K_job_118 d_K_job_121 d_K_job_122 d_K_job_124 d_K_job_127 ⟨Nat.le_of_ble_eq_true rfl, Nat.le_of_ble_eq_true rfl, Nat.le_of_ble_eq_true rfl, Nat.le_of_ble_eq_true rfl⟩ ⟨Nat.le_of_ble_eq_true rfl, Nat.le_of_ble_eq_true rfl⟩ (Or.inr ⟨by unfold jbXc; rw [if_neg hb, if_neg (by rw [hj0]; exact (fun z => z rfl)), if_neg (fun z => h115 ((lt60 hw).mpr z.2))], rfl⟩)
            · skip
              refine lv_aload X.1 X.2.1 d_K_job_75 (lv_at hl 0 rfl) ?_
              refine r_geti X hM rfl ((fun q z => lstR_lv z) q h64) f_K_111 rfl d_K_job_77 ?_
              refine lv_iload_n X.1 X.2.1 d_K_job_80 rfl (lv_at hl 3 rfl) ?_
              refine lv_icmp_ne (tgt := 100) X.1 X.2.1 d_K_job_81 (by decide) (fun h81 => ?_) (fun h81 => ?_)
              · skip
                have hj0 : jsm M kd x (own0 kd s0) = none := by rw [eo]; exact jsm_n h64 (fun z => h81 z.2.1)
                refine lv_aload_n X.1 X.2.1 d_K_job_100 rfl (lv_at hl 2 rfl) ?_
                refine lv_iload_n X.1 X.2.1 d_K_job_101 rfl (lv_at hl 4 rfl) ?_
                refine r_cV (As := [.int x]) (rest := []) X hml hl.1 hM (k_K_rowLength l D dA base M ad hw x) c_K_120 v_K_rowLength kc_K rfl hk0 rfl (Nat.le_of_ble_eq_true rfl) ⟨rfl, rfl, Nat.le_of_ble_eq_true rfl, Nat.le_of_ble_eq_true rfl⟩ ⟨Nat.le_of_ble_eq_true rfl, Nat.le_of_ble_eq_true rfl⟩ d_K_job_102 ?_
                intro rv M1 ad1 H locs hP hM hE
                obtain ⟨e1, e2, e3⟩ := hP
                subst rv; subst M1; subst ad1
                show W _ _ _ _ _ _ _ _ _ _ _ _ _ _ _ (F0 m 105 ls [.int (nI (lenR M x))])
                refine lv_iconst (v := 4) X.1 X.2.1 d_K_job_105 (by decide) ?_
                refine lv_icmp_ge (tgt := 118) X.1 X.2.1 d_K_job_106 (by decide) (fun h106 => ?_) (fun h106 => ?_)
                · skip
                  exact r_throw X hst hml hl.1 hM hlk hno t_K_124_126_128 d_K_job_118 d_K_job_121 d_K_job_122 d_K_job_124 d_K_job_127 ⟨Nat.le_of_ble_eq_true rfl, Nat.le_of_ble_eq_true rfl, Nat.le_of_ble_eq_true rfl, Nat.le_of_ble_eq_true rfl⟩ ⟨Nat.le_of_ble_eq_true rfl, Nat.le_of_ble_eq_true rfl⟩ (Or.inr ⟨by unfold jbXc; rw [if_neg hb, if_neg (by rw [hj0]; exact (fun z => z rfl)), if_neg (fun z => (ltR4 hw x).mp h106 z.1)], rfl⟩)
                · skip
                  refine lv_aload_n X.1 X.2.1 d_K_job_109 rfl (lv_at hl 2 rfl) ?_
                  refine r_geti X hM rfl hk0 f_K_56 rfl d_K_job_110 ?_
                  refine lv_bipush (v := 60) X.1 X.2.1 d_K_job_113 (by decide) ?_
                  refine lv_icmp_lt (tgt := 128) X.1 X.2.1 d_K_job_115 (by decide) (fun h115 => ?_) (fun h115 => ?_)
                  · skip
                    have hX : jbXc M kd x s0 = 0 := by unfold jbXc; rw [if_neg hb, if_neg (by rw [hj0]; exact (fun z => z rfl)), if_pos ⟨Classical.not_not.mp (fun z => h106 ((ltR4 hw x).mpr z)), (lt60 hw).mp h115⟩]
                    refine r_new (k := 4) X hM n_K_50 (Nat.le_of_ble_eq_true rfl) (Nat.le_of_ble_eq_true rfl) d_K_job_128 (fun q32 H q32ad hq32M hq32E hq32q => ?_)
                    have hM := hq32M
                    have hnq32 : gn M 4 < gn (sn M 4) 4 := sn_live _ _
                    refine lv_dup X.1 X.2.1 d_K_job_131 rfl ?_
                    refine lv_aload_n X.1 X.2.1 d_K_job_132 rfl (lv_at hl 2 rfl) ?_
                    refine r_geti X hM (hq32E 0 0 hk0) (sn_up hk0) f_K_56 rfl d_K_job_133 ?_
                    refine lv_topi (fun nj e_nj => ?_)
                    have e9 : nj = gi M 0 0 10 := by rw [e_nj, gi_sn, if_neg (by omega)]
                    clear e_nj
                    subst e9
                    refine lv_iload_n X.1 X.2.1 d_K_job_136 rfl (lv_at hl 3 rfl) ?_
                    refine lv_iload_n X.1 X.2.1 d_K_job_137 rfl (lv_at hl 4 rfl) ?_
                    refine lv_iload X.1 X.2.1 d_K_job_138 (lv_at hl 1 rfl) ?_
                    have hC9 := (k_Jb_init l D dA base (sn M 4) q32ad (gn M 4) hnq32 (gi M 0 0 10) kd x s0)
                    rw [hq32q] at hC9
                    refine r_cI (As := [.int (gi M 0 0 10), .int kd, .int x, .int s0]) (rest := [.ref q32]) X hml hl.1 hM hC9 c_K_129 v_Jb_init rfl (Nat.le_of_ble_eq_true rfl) ⟨rfl, rfl, Nat.le_of_ble_eq_true rfl, Nat.le_of_ble_eq_true rfl⟩ ⟨Nat.le_of_ble_eq_true rfl, Nat.le_of_ble_eq_true rfl⟩ d_K_job_140 ?_
                    intro rv M1 ad1 H locs hP hM hE
                    obtain ⟨e1, e2, e3⟩ := hP
                    subst rv; subst M1; subst ad1
                    have hr9 : gr (jb0 M kd x s0) 0 0 9 = some 0 := by rw [jb0_gr M kd x s0 (by omega)]; exact w_0_9 hw
                    have hx9 : gi (jb0 M kd x s0) 0 0 10 = nI (gn M 4) := by rw [jb0_gi M kd x s0 (by omega)]; exact w_nj hw
                    show W _ _ _ _ _ _ _ _ _ _ _ _ _ _ _ (F0 m 143 ls [.ref q32])
                    refine lv_astore (lv' := [(6, .ref q32), (5, .ref (ad 4 q)), (4, .int s0), (0, .ref (ad 0 0)), (1, .int kd), (2, .int x), (3, .int s0)]) X.1 X.2.1 d_K_job_143 hl (by decide) rfl (fun ls hl => ?_)
                    refine lv_aload_n X.1 X.2.1 d_K_job_145 rfl (lv_at hl 3 rfl) ?_
                    refine r_gets (q := 0) X hM (hq32E 0 0 hk0) (sn_up hk0) f_K_52 rfl hr9 d_K_job_146 (fun hv34 => ?_)
                    refine lv_aload_n X.1 X.2.1 d_K_job_149 rfl (lv_at hl 3 rfl) ?_
                    refine r_geti X hM (hq32E 0 0 hk0) (sn_up hk0) f_K_56 rfl d_K_job_150 ?_
                    refine lv_aload X.1 X.2.1 d_K_job_153 (lv_at hl 0 rfl) ?_
                    refine r_aast X hM rfl hv34 a_jobs (fun _ => rfl) rfl rfl hq32q hnq32 (j := (gn M 4)) hx9 ((lt60 hw).mp h115) d_K_job_155 (fun H locs hM => ?_)
                    refine lv_aload_n X.1 X.2.1 d_K_job_156 rfl (lv_at hl 3 rfl) ?_
                    refine lv_dup X.1 X.2.1 d_K_job_157 rfl ?_
                    refine r_geti X hM (hq32E 0 0 hk0) (sn_up hk0) f_K_56 rfl d_K_job_158 ?_
                    refine lv_iconst (v := 1) X.1 X.2.1 d_K_job_161 (by decide) ?_
                    refine lv_iadd X.1 X.2.1 d_K_job_162 ?_
                    refine r_puti X hM (hq32E 0 0 hk0) (sn_up hk0) p_K_56 rfl rfl rfl d_K_job_163 (fun H locs hM => ?_)
                    refine lv_aload X.1 X.2.1 d_K_job_166 (lv_at hl 0 rfl) ?_
                    refine r_geti X hM hq32q hnq32 f_K_117 rfl d_K_job_168 ?_
                    have hF : jbM M kd x s0 = (nI (gn M 4), jnM M kd x s0) := by unfold jbM; rw [hj0, eo]
                    have hZ : si (sr (jb0 M kd x s0) 13 0 (gn M 4) (some (gn M 4))) 0 0 10 (gi (jb0 M kd x s0) 0 0 10 + 1) = jnM M kd x s0 := by rw [hx9, nI_1]; rfl
                    refine vx_ret ?_
                    exact m_iret X hr hlk hM d_K_job_171 ⟨Nat.le_of_ble_eq_true rfl, Nat.le_of_ble_eq_true rfl⟩ (mExt_tr (mExt_rf _ _) (mExt_new hq32E)) ⟨hX, by rw [hF]; exact congrArg (fun z => some (Value.int z)) ((congrArg (fun N => gi N 4 (gn M 4) 0) hZ).trans (jnM_new hw kd x s0).1), by rw [hF]; exact hZ⟩
                  · skip
                    exact r_throw X hst hml hl.1 hM hlk hno t_K_124_126_128 d_K_job_118 d_K_job_121 d_K_job_122 d_K_job_124 d_K_job_127 ⟨Nat.le_of_ble_eq_true rfl, Nat.le_of_ble_eq_true rfl, Nat.le_of_ble_eq_true rfl, Nat.le_of_ble_eq_true rfl⟩ ⟨Nat.le_of_ble_eq_true rfl, Nat.le_of_ble_eq_true rfl⟩ (Or.inr ⟨by unfold jbXc; rw [if_neg hb, if_neg (by rw [hj0]; exact (fun z => z rfl)), if_neg (fun z => h115 ((lt60 hw).mpr z.2))], rfl⟩)
              · skip
                refine lv_aload X.1 X.2.1 d_K_job_84 (lv_at hl 0 rfl) ?_
                refine r_geti X hM rfl ((fun q z => lstR_lv z) q h64) f_K_114 rfl d_K_job_86 ?_
                refine lv_iload X.1 X.2.1 d_K_job_89 (lv_at hl 1 rfl) ?_
                refine lv_icmp_ne (tgt := 100) X.1 X.2.1 d_K_job_91 (by decide) (fun h91 => ?_) (fun h91 => ?_)
                · skip
                  have hj0 : jsm M kd x (own0 kd s0) = none := by rw [eo]; exact jsm_n h64 (fun z => h91 z.2.2)
                  refine lv_aload_n X.1 X.2.1 d_K_job_100 rfl (lv_at hl 2 rfl) ?_
                  refine lv_iload_n X.1 X.2.1 d_K_job_101 rfl (lv_at hl 4 rfl) ?_
                  refine r_cV (As := [.int x]) (rest := []) X hml hl.1 hM (k_K_rowLength l D dA base M ad hw x) c_K_120 v_K_rowLength kc_K rfl hk0 rfl (Nat.le_of_ble_eq_true rfl) ⟨rfl, rfl, Nat.le_of_ble_eq_true rfl, Nat.le_of_ble_eq_true rfl⟩ ⟨Nat.le_of_ble_eq_true rfl, Nat.le_of_ble_eq_true rfl⟩ d_K_job_102 ?_
                  intro rv M1 ad1 H locs hP hM hE
                  obtain ⟨e1, e2, e3⟩ := hP
                  subst rv; subst M1; subst ad1
                  show W _ _ _ _ _ _ _ _ _ _ _ _ _ _ _ (F0 m 105 ls [.int (nI (lenR M x))])
                  refine lv_iconst (v := 4) X.1 X.2.1 d_K_job_105 (by decide) ?_
                  refine lv_icmp_ge (tgt := 118) X.1 X.2.1 d_K_job_106 (by decide) (fun h106 => ?_) (fun h106 => ?_)
                  · skip
                    exact r_throw X hst hml hl.1 hM hlk hno t_K_124_126_128 d_K_job_118 d_K_job_121 d_K_job_122 d_K_job_124 d_K_job_127 ⟨Nat.le_of_ble_eq_true rfl, Nat.le_of_ble_eq_true rfl, Nat.le_of_ble_eq_true rfl, Nat.le_of_ble_eq_true rfl⟩ ⟨Nat.le_of_ble_eq_true rfl, Nat.le_of_ble_eq_true rfl⟩ (Or.inr ⟨by unfold jbXc; rw [if_neg hb, if_neg (by rw [hj0]; exact (fun z => z rfl)), if_neg (fun z => (ltR4 hw x).mp h106 z.1)], rfl⟩)
                  · skip
                    refine lv_aload_n X.1 X.2.1 d_K_job_109 rfl (lv_at hl 2 rfl) ?_
                    refine r_geti X hM rfl hk0 f_K_56 rfl d_K_job_110 ?_
                    refine lv_bipush (v := 60) X.1 X.2.1 d_K_job_113 (by decide) ?_
                    refine lv_icmp_lt (tgt := 128) X.1 X.2.1 d_K_job_115 (by decide) (fun h115 => ?_) (fun h115 => ?_)
                    · skip
                      have hX : jbXc M kd x s0 = 0 := by unfold jbXc; rw [if_neg hb, if_neg (by rw [hj0]; exact (fun z => z rfl)), if_pos ⟨Classical.not_not.mp (fun z => h106 ((ltR4 hw x).mpr z)), (lt60 hw).mp h115⟩]
                      refine r_new (k := 4) X hM n_K_50 (Nat.le_of_ble_eq_true rfl) (Nat.le_of_ble_eq_true rfl) d_K_job_128 (fun q36 H q36ad hq36M hq36E hq36q => ?_)
                      have hM := hq36M
                      have hnq36 : gn M 4 < gn (sn M 4) 4 := sn_live _ _
                      refine lv_dup X.1 X.2.1 d_K_job_131 rfl ?_
                      refine lv_aload_n X.1 X.2.1 d_K_job_132 rfl (lv_at hl 2 rfl) ?_
                      refine r_geti X hM (hq36E 0 0 hk0) (sn_up hk0) f_K_56 rfl d_K_job_133 ?_
                      refine lv_topi (fun nj e_nj => ?_)
                      have e9 : nj = gi M 0 0 10 := by rw [e_nj, gi_sn, if_neg (by omega)]
                      clear e_nj
                      subst e9
                      refine lv_iload_n X.1 X.2.1 d_K_job_136 rfl (lv_at hl 3 rfl) ?_
                      refine lv_iload_n X.1 X.2.1 d_K_job_137 rfl (lv_at hl 4 rfl) ?_
                      refine lv_iload X.1 X.2.1 d_K_job_138 (lv_at hl 1 rfl) ?_
                      have hC9 := (k_Jb_init l D dA base (sn M 4) q36ad (gn M 4) hnq36 (gi M 0 0 10) kd x s0)
                      rw [hq36q] at hC9
                      refine r_cI (As := [.int (gi M 0 0 10), .int kd, .int x, .int s0]) (rest := [.ref q36]) X hml hl.1 hM hC9 c_K_129 v_Jb_init rfl (Nat.le_of_ble_eq_true rfl) ⟨rfl, rfl, Nat.le_of_ble_eq_true rfl, Nat.le_of_ble_eq_true rfl⟩ ⟨Nat.le_of_ble_eq_true rfl, Nat.le_of_ble_eq_true rfl⟩ d_K_job_140 ?_
                      intro rv M1 ad1 H locs hP hM hE
                      obtain ⟨e1, e2, e3⟩ := hP
                      subst rv; subst M1; subst ad1
                      have hr9 : gr (jb0 M kd x s0) 0 0 9 = some 0 := by rw [jb0_gr M kd x s0 (by omega)]; exact w_0_9 hw
                      have hx9 : gi (jb0 M kd x s0) 0 0 10 = nI (gn M 4) := by rw [jb0_gi M kd x s0 (by omega)]; exact w_nj hw
                      show W _ _ _ _ _ _ _ _ _ _ _ _ _ _ _ (F0 m 143 ls [.ref q36])
                      refine lv_astore (lv' := [(6, .ref q36), (5, .ref (ad 4 q)), (4, .int s0), (0, .ref (ad 0 0)), (1, .int kd), (2, .int x), (3, .int s0)]) X.1 X.2.1 d_K_job_143 hl (by decide) rfl (fun ls hl => ?_)
                      refine lv_aload_n X.1 X.2.1 d_K_job_145 rfl (lv_at hl 3 rfl) ?_
                      refine r_gets (q := 0) X hM (hq36E 0 0 hk0) (sn_up hk0) f_K_52 rfl hr9 d_K_job_146 (fun hv38 => ?_)
                      refine lv_aload_n X.1 X.2.1 d_K_job_149 rfl (lv_at hl 3 rfl) ?_
                      refine r_geti X hM (hq36E 0 0 hk0) (sn_up hk0) f_K_56 rfl d_K_job_150 ?_
                      refine lv_aload X.1 X.2.1 d_K_job_153 (lv_at hl 0 rfl) ?_
                      refine r_aast X hM rfl hv38 a_jobs (fun _ => rfl) rfl rfl hq36q hnq36 (j := (gn M 4)) hx9 ((lt60 hw).mp h115) d_K_job_155 (fun H locs hM => ?_)
                      refine lv_aload_n X.1 X.2.1 d_K_job_156 rfl (lv_at hl 3 rfl) ?_
                      refine lv_dup X.1 X.2.1 d_K_job_157 rfl ?_
                      refine r_geti X hM (hq36E 0 0 hk0) (sn_up hk0) f_K_56 rfl d_K_job_158 ?_
                      refine lv_iconst (v := 1) X.1 X.2.1 d_K_job_161 (by decide) ?_
                      refine lv_iadd X.1 X.2.1 d_K_job_162 ?_
                      refine r_puti X hM (hq36E 0 0 hk0) (sn_up hk0) p_K_56 rfl rfl rfl d_K_job_163 (fun H locs hM => ?_)
                      refine lv_aload X.1 X.2.1 d_K_job_166 (lv_at hl 0 rfl) ?_
                      refine r_geti X hM hq36q hnq36 f_K_117 rfl d_K_job_168 ?_
                      have hF : jbM M kd x s0 = (nI (gn M 4), jnM M kd x s0) := by unfold jbM; rw [hj0, eo]
                      have hZ : si (sr (jb0 M kd x s0) 13 0 (gn M 4) (some (gn M 4))) 0 0 10 (gi (jb0 M kd x s0) 0 0 10 + 1) = jnM M kd x s0 := by rw [hx9, nI_1]; rfl
                      refine vx_ret ?_
                      exact m_iret X hr hlk hM d_K_job_171 ⟨Nat.le_of_ble_eq_true rfl, Nat.le_of_ble_eq_true rfl⟩ (mExt_tr (mExt_rf _ _) (mExt_new hq36E)) ⟨hX, by rw [hF]; exact congrArg (fun z => some (Value.int z)) ((congrArg (fun N => gi N 4 (gn M 4) 0) hZ).trans (jnM_new hw kd x s0).1), by rw [hF]; exact hZ⟩
                    · skip
                      exact r_throw X hst hml hl.1 hM hlk hno t_K_124_126_128 d_K_job_118 d_K_job_121 d_K_job_122 d_K_job_124 d_K_job_127 ⟨Nat.le_of_ble_eq_true rfl, Nat.le_of_ble_eq_true rfl, Nat.le_of_ble_eq_true rfl, Nat.le_of_ble_eq_true rfl⟩ ⟨Nat.le_of_ble_eq_true rfl, Nat.le_of_ble_eq_true rfl⟩ (Or.inr ⟨by unfold jbXc; rw [if_neg hb, if_neg (by rw [hj0]; exact (fun z => z rfl)), if_neg (fun z => h115 ((lt60 hw).mpr z.2))], rfl⟩)
                · skip
                  refine lv_aload X.1 X.2.1 d_K_job_94 (lv_at hl 0 rfl) ?_
                  refine r_geti X hM rfl ((fun q z => lstR_lv z) q h64) f_K_117 rfl d_K_job_96 ?_
                  have hj0 : jsm M kd x (own0 kd s0) = some q := by rw [eo]; exact jsm_y h64 ⟨h72, h81, h91⟩
                  have hF : jbM M kd x s0 = (nI q, M) := by unfold jbM; rw [hj0]
                  refine vx_ret ?_
                  exact m_iret X hr hlk hM d_K_job_99 ⟨Nat.le_of_ble_eq_true rfl, Nat.le_of_ble_eq_true rfl⟩ (mExt_rf _ _) ⟨by unfold jbXc; rw [if_neg hb, if_pos (by rw [hj0]; exact (fun z => nomatch z))], by rw [hF, w_jn hw (lstR_lv h64)], by rw [hF]⟩
        · skip
          exact r_throw X hst hml hl.1 hM hlk hno t_K_75_102_79 d_K_job_34 d_K_job_37 d_K_job_38 d_K_job_40 d_K_job_43 ⟨Nat.le_of_ble_eq_true rfl, Nat.le_of_ble_eq_true rfl, Nat.le_of_ble_eq_true rfl, Nat.le_of_ble_eq_true rfl⟩ ⟨Nat.le_of_ble_eq_true rfl, Nat.le_of_ble_eq_true rfl⟩ (Or.inl ⟨if_pos (Or.inr (Or.inr ⟨h24, be0 h31⟩)), rfl⟩)
    · skip
      exact r_throw X hst hml hl.1 hM hlk hno t_K_75_96_79 d_K_job_9 d_K_job_12 d_K_job_13 d_K_job_15 d_K_job_18 ⟨Nat.le_of_ble_eq_true rfl, Nat.le_of_ble_eq_true rfl, Nat.le_of_ble_eq_true rfl, Nat.le_of_ble_eq_true rfl⟩ ⟨Nat.le_of_ble_eq_true rfl, Nat.le_of_ble_eq_true rfl⟩ (Or.inl ⟨if_pos (Or.inl (fun z => h6 z.2)), rfl⟩)
end
section
/-- is client i claimed for g, whose active worker is a -/
def cmQ (A : mM) (g a i : Nat) : Bool := decide (gi A 2 i 0 ≠ 0 ∧ gr A 2 i 2 ≠ some a ∧ rgFor A (gi A 2 i 1) = some g)
def cm1 (A : mM) (a i n : Nat) : mM := ctM (sr A 12 0 n (gr A 2 i 2)) i (some a)
/-- the first i clients looked at; how many have changed -/
def clL (M : mM) (g a : Nat) : Nat → mM × Nat
  | 0 => (M, 0)
  | i + 1 => if cmQ (clL M g a i).1 g a i = true then (cm1 (clL M g a i).1 a i (clL M g a i).2, (clL M g a i).2 + 1) else clL M g a i
theorem clL_t {M : mM} {g a i : Nat} (h : cmQ (clL M g a i).1 g a i = true) : clL M g a (i + 1) = (cm1 (clL M g a i).1 a i (clL M g a i).2, (clL M g a i).2 + 1) := if_pos h
theorem clL_f {M : mM} {g a i : Nat} (h : ¬ cmQ (clL M g a i).1 g a i = true) : clL M g a (i + 1) = clL M g a i := if_neg h
theorem cm0_kp (A : mM) (i n : Nat) : kp A (sr A 12 0 n (gr A 2 i 2)) := kp_sr _ _ _ _ _ (by omega)
theorem cm1_kp (A : mM) (a i n : Nat) : kp A (cm1 A a i n) := kp_tr (cm0_kp A i n) (ctM_kp _ _ _)
theorem cm1_gr (A : mM) (a i n : Nat) {k u v : Nat} (h : k ≠ 2) (h2 : k ≠ 12) : gr (cm1 A a i n) k u v = gr A k u v := by
  unfold cm1 ctM
  rw [trA_gr, gr_sr, if_neg (by omega), gr_sr, if_neg (by omega)]
theorem clL_all (M : mM) (g a i : Nat) : kp M (clL M g a i).1 ∧ (clL M g a i).2 ≤ i ∧ (∀ k u v, k ≠ 2 → k ≠ 12 → gr (clL M g a i).1 k u v = gr M k u v) := by
  induction i with
  | zero => exact ⟨kp_rf _, Nat.le_refl _, fun _ _ _ _ _ => rfl⟩
  | succ i ih =>
    obtain ⟨h1, h2, h3⟩ := ih
    by_cases h : cmQ (clL M g a i).1 g a i = true
    · rw [clL_t h]
      exact ⟨kp_tr h1 (cm1_kp _ _ _ _), Nat.succ_le_succ h2, fun k u v z1 z2 => (cm1_gr _ _ _ _ z1 z2).trans (h3 k u v z1 z2)⟩
    · rw [clL_f h]
      exact ⟨h1, by omega, h3⟩
theorem cm1_wT {A : mM} (ht : wT A) (a i n : Nat) : wT (cm1 A a i n) := ctM_wT (kt_w (M := A) (M' := sr A 12 0 n (gr A 2 i 2)) rfl ht) _ _
theorem clL_wT {M : mM} (ht : wT M) (g a i : Nat) : wT (clL M g a i).1 := by
  induction i with
  | zero => exact ht
  | succ i ih =>
    by_cases h : cmQ (clL M g a i).1 g a i = true
    · rw [clL_t h]
      exact cm1_wT ih _ _ _
    · rw [clL_f h]; exact ih
/-- those that lost clients settle, one after another -/
def cs2 (A : mM) : Nat → mM
  | 0 => A
  | i + 1 => stM (cs2 A i) (gr (cs2 A i) 12 0 i)
theorem cs2_all {A : mM} (hw : wK A) (ht : wT A) (i : Nat) : wK (cs2 A i) ∧ wT (cs2 A i) ∧ kq A (cs2 A i) := by
  induction i with
  | zero => exact ⟨hw, ht, kq_rf _⟩
  | succ i ih => exact ⟨stM_w ih.1 _, stM_wT ih.2.1 _, kq_tr ih.2.2 (stM_kq _ _)⟩
def cmM (M : mM) (g a : Nat) : mM := cs2 (clL M g a 8).1 (clL M g a 8).2
theorem cmM_all {M : mM} (hw : wK M) (ht : wT M) (g a : Nat) : wK (cmM M g a) ∧ wT (cmM M g a) ∧ kq M (cmM M g a) := by
  obtain ⟨h1, h2, h3⟩ := cs2_all (kp_w (clL_all M g a 8).1 hw) (clL_wT ht g a 8) (clL M g a 8).2
  exact ⟨h1, h2, kq_tr (kp_q (clL_all M g a 8).1) h3⟩
set_option maxHeartbeats 4000000 in
set_option maxRecDepth 100000 in
theorem k_K_claim (l : Launch) (hst : l.stackTraces = false) (D : va_G) (dA : Nat → ClassId) (base : Nat) (M : mM) (ad : Nat → Nat → Nat) (hw : wK M) (ht : wT M) (x : Int32) : mMetX l y_K_claim b_K_claim 6 (some FieldType.int) ({ frames := 8, cells := 3, slots := 18, locals := 260 } : Room) 3 18 D dA base M ad [.ref (ad 0 0), .int x] (fun rv M' ad' => ∃ g a, ndXc M x (fun g => gr M 5 g 4) = 0 ∧ rgOf M x = some g ∧ gr M 5 g 4 = some a ∧ rv = some (.int (nI (clL M g a 8).2)) ∧ M' = cmM M g a ∧ ad' = ad) (fun E => (ndXc M x (fun g => gr M 5 g 4) = 1 ∧ E = "java/lang/IllegalArgumentException") ∨ (ndXc M x (fun g => gr M 5 g 4) = 2 ∧ E = "java/util/NoSuchElementException") ∨ (ndXc M x (fun g => gr M 5 g 4) = 3 ∧ E = "java/lang/IllegalStateException")) := by
  refine m_startX (lvs := [(0, .ref (ad 0 0)), (1, .int x)]) (by decide) (Nat.le_of_ble_eq_true rfl) rfl ?_
  intro p e s m below meth c ls X hr hlk hin hml hM hl hno
  have hk0 : 0 < gn M 0 := w_k hw
  refine lv_aload_n X.1 X.2.1 d_K_claim_0 rfl (lv_at hl 0 rfl) ?_
  refine lv_iload_n X.1 X.2.1 d_K_claim_1 rfl (lv_at hl 1 rfl) ?_
  refine r_cVX (As := [.int x]) (rest := []) X hml hl.1 hM (k_K_needRegistration l hst D dA base M ad hw x) c_K_187 cx_K_187 v_K_needRegistration kc_K rfl hk0 rfl (Nat.le_of_ble_eq_true rfl) ⟨rfl, rfl, Nat.le_of_ble_eq_true rfl, Nat.le_of_ble_eq_true rfl⟩ ⟨Nat.le_of_ble_eq_true rfl, Nat.le_of_ble_eq_true rfl⟩ d_K_claim_2 (fun E ce q H locs hPx hM hy1 hy2 hy3 => m_out hM hlk hno (by rcases hPx with ⟨z1, z2⟩ | ⟨z1, z2, z3⟩; exact Or.inl ⟨ndXc_1 z1, z2⟩; exact Or.inr (Or.inl ⟨ndXc_2 z1 z2, z3⟩)) hy1 hy2 hy3 ⟨Nat.le_of_ble_eq_true rfl, Nat.le_of_ble_eq_true rfl⟩) ?_
  intro rv M1 ad1 H locs hP hM hE
  obtain ⟨g, hp, hg, e1, e2, e3⟩ := hP
  subst rv; subst M1; subst ad1
  have hgl := rgOf_lv hM hw _ hg
  show W _ _ _ _ _ _ _ _ _ _ _ _ _ _ _ (F0 m 5 ls [.ref (ad 5 g)])
  refine lv_astore_n (lv' := [(2, .ref (ad 5 g)), (0, .ref (ad 0 0)), (1, .int x)]) X.1 X.2.1 d_K_claim_5 rfl hl (by decide) rfl (fun ls hl => ?_)
  refine lv_aload_n X.1 X.2.1 d_K_claim_6 rfl (lv_at hl 0 rfl) ?_
  refine r_getr X hM rfl hgl f_K_169 rfl d_K_claim_7 (fun hv2 => ?_)
  refine r_ifnonnull (tgt := 23) X.1 X.2.1 d_K_claim_10 (by decide) (fun a h10 => ?_) (fun h10 => ?_)
  · skip
    refine lv_iconst (v := 0) X.1 X.2.1 d_K_claim_23 (by decide) ?_
    refine lv_istore_n (lv' := [(3, .int 0), (2, .ref (ad 5 g)), (0, .ref (ad 0 0)), (1, .int x)]) X.1 X.2.1 d_K_claim_24 rfl hl (by decide) rfl (fun ls hl => ?_)
    refine lv_iconst (v := 0) X.1 X.2.1 d_K_claim_25 (by decide) ?_
    refine lv_istore (lv' := [(4, .int 0), (3, .int 0), (2, .ref (ad 5 g)), (0, .ref (ad 0 0)), (1, .int x)]) X.1 X.2.1 d_K_claim_26 hl (by decide) rfl (fun ls hl => ?_)
    have hga : gr M 5 g 4 = some a := h10
    have hal : a < gn M 7 := hM.live (k := 5) (j := 4) hgl rfl h10
    refine w_upW 8 (fun ls => F0 m 28 ls []) (fun i H L ls => mSt D dA base ((clL M g a i).1) ad s.heap H L ∧ lv_has ls 6 [(3, .int (nI (clL M g a i).2)), (4, .int (nI i)), (2, .ref (ad 5 g)), (0, .ref (ad 0 0)), (1, .int x)] ∧ True) ?_ ?_ 0 _ _ ls (by omega) ⟨hM, lv_sub hl [1, 0, 2, 3, 4] rfl, trivial⟩
    · rintro H locs ls ⟨hM, hl, hI⟩
      obtain ⟨hkI0, hnI0, hgrI⟩ := clL_all M g a 8
      have hw := kp_w hkI0 hw
      have ht := clL_wT ht g a 8
      have hgI := kp_lv hkI0 hgl
      have hkI := kp_lv hkI0 hk0
      have haI := kp_lv hkI0 hal
      have hact : gr (clL M g a 8).1 5 g 4 = some a := (hgrI 5 g 4 (by decide) (by decide)).trans hga
      refine lv_iload X.1 X.2.1 d_K_claim_28 (lv_at hl 1 rfl) ?_
      refine lv_bipush (v := 8) X.1 X.2.1 d_K_claim_30 (by decide) ?_
      refine lv_icmp_ge (tgt := 107) X.1 X.2.1 d_K_claim_32 (by decide) (fun hz53 => ?_) (fun hz53 => absurd (by decide) hz53)
      refine lv_iconst (v := 0) X.1 X.2.1 d_K_claim_107 (by decide) ?_
      refine lv_istore (lv' := [(4, .int 0), (3, .int (nI (clL M g a 8).2)), (2, .ref (ad 5 g)), (0, .ref (ad 0 0)), (1, .int x)]) X.1 X.2.1 d_K_claim_108 hl (by decide) rfl (fun ls hl => ?_)
      refine w_upW (clL M g a 8).2 (fun ls => F0 m 110 ls []) (fun i H L ls => mSt D dA base (cs2 (clL M g a 8).1 i) ad s.heap H L ∧ lv_has ls 6 [(4, .int (nI i)), (3, .int (nI (clL M g a 8).2)), (2, .ref (ad 5 g)), (0, .ref (ad 0 0)), (1, .int x)] ∧ True) ?_ ?_ 0 _ _ ls (by omega) ⟨hM, lv_sub hl [0, 1, 2, 3, 4] rfl, trivial⟩
      · rintro H locs ls ⟨hM, hl, hI⟩
        obtain ⟨hwJ, htJ, hqJ⟩ := cs2_all hw ht (clL M g a 8).2
        have hkJ : 0 < gn (cs2 (clL M g a 8).1 (clL M g a 8).2) 0 := w_k hwJ
        have hgJ : g < gn (cs2 (clL M g a 8).1 (clL M g a 8).2) 5 := by rw [hqJ.1]; exact hgI
        have hw := hwJ
        refine lv_iload X.1 X.2.1 d_K_claim_110 (lv_at hl 0 rfl) ?_
        refine lv_iload_n X.1 X.2.1 d_K_claim_112 rfl (lv_at hl 1 rfl) ?_
        refine lv_icmp_ge (tgt := 133) X.1 X.2.1 d_K_claim_113 (by decide) (fun hz104 => ?_) (fun hz104 => absurd (Int32.le_refl _) hz104)
        refine lv_iload_n X.1 X.2.1 d_K_claim_133 rfl (lv_at hl 1 rfl) ?_
        refine vx_ret ?_
        exact m_iret X hr hlk hM d_K_claim_134 ⟨Nat.le_of_ble_eq_true rfl, Nat.le_of_ble_eq_true rfl⟩ (gn_ext (fun z => (hqJ.1 z).trans (hkI0.1 z)) ad) ⟨g, a, ndXc_0 hp hg (by rw [hga]; exact (fun z => nomatch z)), hg, hga, rfl, rfl, rfl⟩
      · rintro i hi ih H locs ls ⟨hM, hl, hI⟩
        obtain ⟨hwJ, htJ, hqJ⟩ := cs2_all hw ht i
        have hkJ : 0 < gn (cs2 (clL M g a 8).1 i) 0 := w_k hwJ
        have hgJ : g < gn (cs2 (clL M g a 8).1 i) 5 := by rw [hqJ.1]; exact hgI
        have hw := hwJ
        refine lv_iload X.1 X.2.1 d_K_claim_110 (lv_at hl 0 rfl) ?_
        refine lv_iload_n X.1 X.2.1 d_K_claim_112 rfl (lv_at hl 1 rfl) ?_
        refine lv_icmp_ge (tgt := 133) X.1 X.2.1 d_K_claim_113 (by decide) (fun hz104 => absurd hz104 (show ¬ nI (clL M g a 8).2 ≤ nI i from nI_ge hi (by omega))) (fun hz104 => ?_)
        refine lv_aload_n X.1 X.2.1 d_K_claim_116 rfl (lv_at hl 3 rfl) ?_
        refine lv_aload_n X.1 X.2.1 d_K_claim_117 rfl (lv_at hl 3 rfl) ?_
        refine r_gets (q := 0) X hM rfl hkJ f_K_47 rfl (w_0_8 hw) d_K_claim_118 (fun hv105 => ?_)
        refine lv_iload X.1 X.2.1 d_K_claim_121 (lv_at hl 0 rfl) ?_
        refine r_aald X hM rfl hv105 a_from (fun _ => rfl) (j := i) rfl (by omega) d_K_claim_123 (fun hv106 => ?_)
        refine r_cV (As := [rfv ad 7 (gr (cs2 (clL M g a 8).1 i) 12 0 i)]) (rest := []) X hml hl.1 hM (k_K_settleAfterLoss l D dA base (cs2 (clL M g a 8).1 i) ad hw htJ (gr (cs2 (clL M g a 8).1 i) 12 0 i) hv106) c_K_179 v_K_settleAfterLoss kc_K rfl hkJ rfl (Nat.le_of_ble_eq_true rfl) ⟨rfl, rfl, Nat.le_of_ble_eq_true rfl, Nat.le_of_ble_eq_true rfl⟩ ⟨Nat.le_of_ble_eq_true rfl, Nat.le_of_ble_eq_true rfl⟩ d_K_claim_124 ?_
        intro rv M1 ad1 H locs hP hM hE
        obtain ⟨e1, e2, e3⟩ := hP
        subst rv; subst M1; subst ad1
        show W _ _ _ _ _ _ _ _ _ _ _ _ _ _ _ (F0 m 127 ls [])
        obtain ⟨xi, e_xi⟩ : ∃ z : Int32, z = (nI i) + 1 := ⟨_, rfl⟩
        refine lv_iinc (v := xi) (lv' := [(4, .int xi), (3, .int (nI (clL M g a 8).2)), (2, .ref (ad 5 g)), (0, .ref (ad 0 0)), (1, .int x)]) X.1 X.2.1 d_K_claim_127 hl (k := 0) rfl (by rw [e_xi]; rfl) (by decide) rfl (fun ls hl => ?_)
        refine lv_goto (tgt := 110) X.1 X.2.1 d_K_claim_130 (by decide) ?_
        have e9 := e_xi.trans (nI_1 i)
        subst e9
        exact ih _ _ ls ⟨hM, lv_sub hl [0, 1, 2, 3, 4] rfl, trivial⟩
    · rintro i hi ih H locs ls ⟨hM, hl, hI⟩
      obtain ⟨hkI0, hnI0, hgrI⟩ := clL_all M g a i
      have hw := kp_w hkI0 hw
      have ht := clL_wT ht g a i
      have hgI := kp_lv hkI0 hgl
      have hkI := kp_lv hkI0 hk0
      have haI := kp_lv hkI0 hal
      have hact : gr (clL M g a i).1 5 g 4 = some a := (hgrI 5 g 4 (by decide) (by decide)).trans hga
      refine lv_iload X.1 X.2.1 d_K_claim_28 (lv_at hl 1 rfl) ?_
      refine lv_bipush (v := 8) X.1 X.2.1 d_K_claim_30 (by decide) ?_
      refine lv_icmp_ge (tgt := 107) X.1 X.2.1 d_K_claim_32 (by decide) (fun hz53 => absurd hz53 (show ¬ (8 : Int32) ≤ nI i from nI_ge hi (by decide))) (fun hz53 => ?_)
      refine lv_aload_n X.1 X.2.1 d_K_claim_35 rfl (lv_at hl 3 rfl) ?_
      refine r_gets (q := 0) X hM rfl hkI f_K_43 rfl (w_0_7 hw) d_K_claim_36 (fun hv54 => ?_)
      refine lv_iload X.1 X.2.1 d_K_claim_39 (lv_at hl 1 rfl) ?_
      refine r_aalds (q := i) X hM rfl hv54 a_clients (fun _ => rfl) (j := i) rfl (by omega) (w_cl hw hi) d_K_claim_41 (fun hv55 => ?_)
      refine lv_astore (lv' := [(5, .ref (ad 2 i)), (3, .int (nI (clL M g a i).2)), (4, .int (nI i)), (2, .ref (ad 5 g)), (0, .ref (ad 0 0)), (1, .int x)]) X.1 X.2.1 d_K_claim_42 hl (by decide) rfl (fun ls hl => ?_)
      refine lv_aload X.1 X.2.1 d_K_claim_44 (lv_at hl 0 rfl) ?_
      refine r_geti X hM rfl hv55 f_K_163 rfl d_K_claim_46 ?_
      refine lv_if_eq (tgt := 101) X.1 X.2.1 d_K_claim_49 (by decide) (fun h49 => ?_) (fun h49 => ?_)
      · skip
        obtain ⟨xi, e_xi⟩ : ∃ z : Int32, z = (nI i) + 1 := ⟨_, rfl⟩
        refine lv_iinc (v := xi) (lv' := [(4, .int xi), (5, .ref (ad 2 i)), (3, .int (nI (clL M g a i).2)), (2, .ref (ad 5 g)), (0, .ref (ad 0 0)), (1, .int x)]) X.1 X.2.1 d_K_claim_101 hl (k := 2) rfl (by rw [e_xi]; rfl) (by decide) rfl (fun ls hl => ?_)
        refine lv_goto (tgt := 28) X.1 X.2.1 d_K_claim_104 (by decide) ?_
        have e9 := e_xi.trans (nI_1 i)
        subst e9
        have hq : ¬ cmQ (clL M g a i).1 g a i = true := fun z => (of_decide_eq_true z).1 h49
        exact ih _ _ ls ⟨by rw [clL_f hq]; exact hM, by rw [clL_f hq]; exact lv_sub hl [2, 0, 3, 4, 5] rfl, trivial⟩
      · skip
        refine lv_aload X.1 X.2.1 d_K_claim_52 (lv_at hl 0 rfl) ?_
        refine r_getr X hM rfl hv55 f_K_173 rfl d_K_claim_54 (fun hv56 => ?_)
        refine lv_aload_n X.1 X.2.1 d_K_claim_57 rfl (lv_at hl 3 rfl) ?_
        refine r_gets (q := a) X hM rfl hgI f_K_169 rfl hact d_K_claim_58 (fun hv57 => ?_)
        show W _ _ _ _ _ _ _ _ _ _ _ _ _ _ _ (F0 m 61 ls (rfv ad 7 (some a) :: rfv ad 7 (gr ((clL M g a i).1) 2 i 2) :: []))
        refine r_acmp_eq (tgt := 101) X.1 X.2.1 hM (k := 7) hv56 (fun z hz => by cases hz; exact hv57) d_K_claim_61 (by decide) (fun h61 => ?_) (fun h61 => ?_)
        · skip
          obtain ⟨xi, e_xi⟩ : ∃ z : Int32, z = (nI i) + 1 := ⟨_, rfl⟩
          refine lv_iinc (v := xi) (lv' := [(4, .int xi), (5, .ref (ad 2 i)), (3, .int (nI (clL M g a i).2)), (2, .ref (ad 5 g)), (0, .ref (ad 0 0)), (1, .int x)]) X.1 X.2.1 d_K_claim_101 hl (k := 2) rfl (by rw [e_xi]; rfl) (by decide) rfl (fun ls hl => ?_)
          refine lv_goto (tgt := 28) X.1 X.2.1 d_K_claim_104 (by decide) ?_
          have e9 := e_xi.trans (nI_1 i)
          subst e9
          have hq : ¬ cmQ (clL M g a i).1 g a i = true := fun z => (of_decide_eq_true z).2.1 h61
          exact ih _ _ ls ⟨by rw [clL_f hq]; exact hM, by rw [clL_f hq]; exact lv_sub hl [2, 0, 3, 4, 5] rfl, trivial⟩
        · skip
          refine lv_aload_n X.1 X.2.1 d_K_claim_64 rfl (lv_at hl 4 rfl) ?_
          refine lv_aload X.1 X.2.1 d_K_claim_65 (lv_at hl 0 rfl) ?_
          refine r_geti X hM rfl hv55 f_K_166 rfl d_K_claim_67 ?_
          refine r_cV (As := [.int (gi ((clL M g a i).1) 2 i 1)]) (rest := []) X hml hl.1 hM (k_K_registrationFor l D dA base (clL M g a i).1 ad hw (gi (clL M g a i).1 2 i 1)) c_K_159 v_K_registrationFor kc_K rfl hkI rfl (Nat.le_of_ble_eq_true rfl) ⟨rfl, rfl, Nat.le_of_ble_eq_true rfl, Nat.le_of_ble_eq_true rfl⟩ ⟨Nat.le_of_ble_eq_true rfl, Nat.le_of_ble_eq_true rfl⟩ d_K_claim_70 ?_
          intro rv M1 ad1 H locs hP hM hE
          obtain ⟨e1, e2, e3⟩ := hP
          subst rv; subst M1; subst ad1
          have hrl := rgFor_lv hM hw (x := gi (clL M g a i).1 2 i 1)
          show W _ _ _ _ _ _ _ _ _ _ _ _ _ _ _ (F0 m 73 ls [rfv ad 5 (rgFor (clL M g a i).1 (gi (clL M g a i).1 2 i 1))])
          refine lv_aload_n X.1 X.2.1 d_K_claim_73 rfl (lv_at hl 3 rfl) ?_
          show W _ _ _ _ _ _ _ _ _ _ _ _ _ _ _ (F0 m 74 ls (rfv ad 5 (some g) :: rfv ad 5 (rgFor (clL M g a i).1 (gi (clL M g a i).1 2 i 1)) :: []))
          refine r_acmp_ne (tgt := 101) X.1 X.2.1 hM (k := 5) hrl (fun z hz => by cases hz; exact hgI) d_K_claim_74 (by decide) (fun h74 => ?_) (fun h74 => ?_)
          · skip
            obtain ⟨xi, e_xi⟩ : ∃ z : Int32, z = (nI i) + 1 := ⟨_, rfl⟩
            refine lv_iinc (v := xi) (lv' := [(4, .int xi), (5, .ref (ad 2 i)), (3, .int (nI (clL M g a i).2)), (2, .ref (ad 5 g)), (0, .ref (ad 0 0)), (1, .int x)]) X.1 X.2.1 d_K_claim_101 hl (k := 2) rfl (by rw [e_xi]; rfl) (by decide) rfl (fun ls hl => ?_)
            refine lv_goto (tgt := 28) X.1 X.2.1 d_K_claim_104 (by decide) ?_
            have e9 := e_xi.trans (nI_1 i)
            subst e9
            have hq : ¬ cmQ (clL M g a i).1 g a i = true := fun z => h74 (of_decide_eq_true z).2.2
            exact ih _ _ ls ⟨by rw [clL_f hq]; exact hM, by rw [clL_f hq]; exact lv_sub hl [2, 0, 3, 4, 5] rfl, trivial⟩
          · skip
            refine lv_aload_n X.1 X.2.1 d_K_claim_77 rfl (lv_at hl 4 rfl) ?_
            refine r_gets (q := 0) X hM rfl hkI f_K_47 rfl (w_0_8 hw) d_K_claim_78 (fun hv59 => ?_)
            refine lv_iload_n X.1 X.2.1 d_K_claim_81 rfl (lv_at hl 1 rfl) ?_
            refine lv_aload X.1 X.2.1 d_K_claim_82 (lv_at hl 0 rfl) ?_
            refine r_getr X hM rfl hv55 f_K_173 rfl d_K_claim_84 (fun hv60 => ?_)
            refine r_aastq X hM rfl hv59 a_from (fun _ => rfl) rfl rfl hv60 (j := (clL M g a i).2) rfl (by omega) d_K_claim_87 (fun H locs hM => ?_)
            obtain ⟨xn, e_xn⟩ : ∃ z : Int32, z = (nI (clL M g a i).2) + 1 := ⟨_, rfl⟩
            refine lv_iinc (v := xn) (lv' := [(3, .int xn), (5, .ref (ad 2 i)), (4, .int (nI i)), (2, .ref (ad 5 g)), (0, .ref (ad 0 0)), (1, .int x)]) X.1 X.2.1 d_K_claim_88 hl (k := 1) rfl (by rw [e_xn]; rfl) (by decide) rfl (fun ls hl => ?_)
            refine lv_aload_n X.1 X.2.1 d_K_claim_91 rfl (lv_at hl 4 rfl) ?_
            refine lv_iload X.1 X.2.1 d_K_claim_92 (lv_at hl 2 rfl) ?_
            refine lv_aload_n X.1 X.2.1 d_K_claim_94 rfl (lv_at hl 3 rfl) ?_
            refine r_gets (q := a) X hM rfl hgI f_K_169 rfl (show gr (sr (clL M g a i).1 12 0 (clL M g a i).2 (gr (clL M g a i).1 2 i 2)) 5 g 4 = some a by rw [gr_sr, if_neg (by omega)]; exact hact) d_K_claim_95 (fun hv61 => ?_)
            refine r_cV (As := [.int (nI i), .ref (ad 7 a)]) (rest := []) X hml hl.1 hM (k_K_control l D dA base (sr (clL M g a i).1 12 0 (clL M g a i).2 (gr (clL M g a i).1 2 i 2)) ad (kp_w (cm0_kp (clL M g a i).1 i (clL M g a i).2) hw) (kt_w (M := (clL M g a i).1) rfl ht) i hi (some a) (fun q z => by cases z; exact haI)) c_K_192 v_K_control kc_K rfl hkI rfl (Nat.le_of_ble_eq_true rfl) ⟨rfl, rfl, Nat.le_of_ble_eq_true rfl, Nat.le_of_ble_eq_true rfl⟩ ⟨Nat.le_of_ble_eq_true rfl, Nat.le_of_ble_eq_true rfl⟩ d_K_claim_98 ?_
            intro rv M1 ad1 H locs hP hM hE
            obtain ⟨e1, e2, e3⟩ := hP
            subst rv; subst M1; subst ad1
            show W _ _ _ _ _ _ _ _ _ _ _ _ _ _ _ (F0 m 101 ls [])
            obtain ⟨xi, e_xi⟩ : ∃ z : Int32, z = (nI i) + 1 := ⟨_, rfl⟩
            refine lv_iinc (v := xi) (lv' := [(4, .int xi), (3, .int xn), (5, .ref (ad 2 i)), (2, .ref (ad 5 g)), (0, .ref (ad 0 0)), (1, .int x)]) X.1 X.2.1 d_K_claim_101 hl (k := 2) rfl (by rw [e_xi]; rfl) (by decide) rfl (fun ls hl => ?_)
            refine lv_goto (tgt := 28) X.1 X.2.1 d_K_claim_104 (by decide) ?_
            have e9 := e_xi.trans (nI_1 i)
            subst e9
            have e8 := e_xn.trans (nI_1 _)
            subst e8
            have hq : cmQ (clL M g a i).1 g a i = true := decide_eq_true ⟨h49, h61, h74⟩
            exact ih _ _ ls ⟨by rw [clL_t hq]; exact hM, by rw [clL_t hq]; exact lv_sub hl [1, 0, 3, 4, 5] rfl, trivial⟩
  · skip
    exact r_throw X hst hml hl.1 hM hlk hno t_K_124_190_128 d_K_claim_13 d_K_claim_16 d_K_claim_17 d_K_claim_19 d_K_claim_22 ⟨Nat.le_of_ble_eq_true rfl, Nat.le_of_ble_eq_true rfl, Nat.le_of_ble_eq_true rfl, Nat.le_of_ble_eq_true rfl⟩ ⟨Nat.le_of_ble_eq_true rfl, Nat.le_of_ble_eq_true rfl⟩ (Or.inr (Or.inr ⟨ndXc_3 hp hg h10, rfl⟩))
end
