section
-- ===== PART A: goes FIRST, ahead of the names: the tables' words, and 'selects' of the private methods out of them =====
/-- a private method of a class that the tables say can be made, by its rows of tables_1 -/
def lw_okq (q : MethodName × Nat) : Prop := (q.1.cls ≠ "java/lang/invoke/MethodHandle" ∧ q.1.cls ≠ "java/lang/invoke/VarHandle") ∧ Cond.instantiable q.1.cls q.2 ∈ tables_1 ∧ Cond.privateMethod q.1 ∈ tables_1 ∧ Cond.instanceMethod q.1 ∈ tables_1
theorem lw_p0 : lw_okq (⟨"BoilerDesk", "startAnew", "()V"⟩, 13) := ⟨⟨by decide +kernel, by decide +kernel⟩, List.mem_of_getElem? (i := 17) (by decide +kernel), List.mem_of_getElem? (i := 217) (by decide +kernel), List.mem_of_getElem? (i := 218) (by decide +kernel)⟩
theorem lw_p1 : lw_okq (⟨"java/lang/Throwable", "fillInStackTrace", "(I)Ljava/lang/Throwable;"⟩, 6) := ⟨⟨by decide +kernel, by decide +kernel⟩, List.mem_of_getElem? (i := 345) (by decide +kernel), List.mem_of_getElem? (i := 343) (by decide +kernel), List.mem_of_getElem? (i := 344) (by decide +kernel)⟩
theorem lw_p2 : lw_okq (⟨"BoilerDesk", "runSteps", "()V"⟩, 13) := ⟨⟨by decide +kernel, by decide +kernel⟩, List.mem_of_getElem? (i := 17) (by decide +kernel), List.mem_of_getElem? (i := 426) (by decide +kernel), List.mem_of_getElem? (i := 427) (by decide +kernel)⟩
theorem lw_p3 : lw_okq (⟨"BoilerDesk", "noteWords", "()V"⟩, 13) := ⟨⟨by decide +kernel, by decide +kernel⟩, List.mem_of_getElem? (i := 17) (by decide +kernel), List.mem_of_getElem? (i := 430) (by decide +kernel), List.mem_of_getElem? (i := 431) (by decide +kernel)⟩
theorem lw_p4 : lw_okq (⟨"BoilerDesk", "takeRepairs", "()V"⟩, 13) := ⟨⟨by decide +kernel, by decide +kernel⟩, List.mem_of_getElem? (i := 17) (by decide +kernel), List.mem_of_getElem? (i := 438) (by decide +kernel), List.mem_of_getElem? (i := 439) (by decide +kernel)⟩
theorem lw_p5 : lw_okq (⟨"BoilerDesk", "stopUnlessInitial", "()V"⟩, 13) := ⟨⟨by decide +kernel, by decide +kernel⟩, List.mem_of_getElem? (i := 17) (by decide +kernel), List.mem_of_getElem? (i := 455) (by decide +kernel), List.mem_of_getElem? (i := 456) (by decide +kernel)⟩
theorem lw_p6 : lw_okq (⟨"BoilerDesk", "takeAcknowledgements", "()V"⟩, 13) := ⟨⟨by decide +kernel, by decide +kernel⟩, List.mem_of_getElem? (i := 17) (by decide +kernel), List.mem_of_getElem? (i := 459) (by decide +kernel), List.mem_of_getElem? (i := 460) (by decide +kernel)⟩
theorem lw_p7 : lw_okq (⟨"BoilerDesk", "expectReadings", "(I)V"⟩, 13) := ⟨⟨by decide +kernel, by decide +kernel⟩, List.mem_of_getElem? (i := 17) (by decide +kernel), List.mem_of_getElem? (i := 471) (by decide +kernel), List.mem_of_getElem? (i := 472) (by decide +kernel)⟩
theorem lw_p8 : lw_okq (⟨"BoilerDesk", "detectFailures", "()V"⟩, 13) := ⟨⟨by decide +kernel, by decide +kernel⟩, List.mem_of_getElem? (i := 17) (by decide +kernel), List.mem_of_getElem? (i := 508) (by decide +kernel), List.mem_of_getElem? (i := 509) (by decide +kernel)⟩
theorem lw_p9 : lw_okq (⟨"BoilerDesk", "detect", "(I)V"⟩, 13) := ⟨⟨by decide +kernel, by decide +kernel⟩, List.mem_of_getElem? (i := 17) (by decide +kernel), List.mem_of_getElem? (i := 517) (by decide +kernel), List.mem_of_getElem? (i := 518) (by decide +kernel)⟩
theorem lw_p10 : lw_okq (⟨"BoilerDesk", "isToldWrongly", "(I)Z"⟩, 13) := ⟨⟨by decide +kernel, by decide +kernel⟩, List.mem_of_getElem? (i := 17) (by decide +kernel), List.mem_of_getElem? (i := 525) (by decide +kernel), List.mem_of_getElem? (i := 526) (by decide +kernel)⟩
theorem lw_p11 : lw_okq (⟨"BoilerDesk", "estimate", "()V"⟩, 13) := ⟨⟨by decide +kernel, by decide +kernel⟩, List.mem_of_getElem? (i := 17) (by decide +kernel), List.mem_of_getElem? (i := 529) (by decide +kernel), List.mem_of_getElem? (i := 530) (by decide +kernel)⟩
theorem lw_p12 : lw_okq (⟨"BoilerDesk", "modeBehindInitial", "()I"⟩, 13) := ⟨⟨by decide +kernel, by decide +kernel⟩, List.mem_of_getElem? (i := 17) (by decide +kernel), List.mem_of_getElem? (i := 533) (by decide +kernel), List.mem_of_getElem? (i := 534) (by decide +kernel)⟩
theorem lw_p13 : lw_okq (⟨"BoilerDesk", "modeByAnyFailure", "()I"⟩, 13) := ⟨⟨by decide +kernel, by decide +kernel⟩, List.mem_of_getElem? (i := 17) (by decide +kernel), List.mem_of_getElem? (i := 542) (by decide +kernel), List.mem_of_getElem? (i := 543) (by decide +kernel)⟩
theorem lw_p14 : lw_okq (⟨"BoilerDesk", "modeInOperation", "()I"⟩, 13) := ⟨⟨by decide +kernel, by decide +kernel⟩, List.mem_of_getElem? (i := 17) (by decide +kernel), List.mem_of_getElem? (i := 546) (by decide +kernel), List.mem_of_getElem? (i := 547) (by decide +kernel)⟩
theorem lw_p15 : lw_okq (⟨"BoilerDesk", "giveCommands", "()V"⟩, 13) := ⟨⟨by decide +kernel, by decide +kernel⟩, List.mem_of_getElem? (i := 17) (by decide +kernel), List.mem_of_getElem? (i := 554) (by decide +kernel), List.mem_of_getElem? (i := 555) (by decide +kernel)⟩
def lw_privs_1 : List (MethodName × Nat) := [(⟨"BoilerDesk", "startAnew", "()V"⟩, 13), (⟨"java/lang/Throwable", "fillInStackTrace", "(I)Ljava/lang/Throwable;"⟩, 6), (⟨"BoilerDesk", "runSteps", "()V"⟩, 13), (⟨"BoilerDesk", "noteWords", "()V"⟩, 13), (⟨"BoilerDesk", "takeRepairs", "()V"⟩, 13), (⟨"BoilerDesk", "stopUnlessInitial", "()V"⟩, 13), (⟨"BoilerDesk", "takeAcknowledgements", "()V"⟩, 13), (⟨"BoilerDesk", "expectReadings", "(I)V"⟩, 13), (⟨"BoilerDesk", "detectFailures", "()V"⟩, 13), (⟨"BoilerDesk", "detect", "(I)V"⟩, 13), (⟨"BoilerDesk", "isToldWrongly", "(I)Z"⟩, 13), (⟨"BoilerDesk", "estimate", "()V"⟩, 13), (⟨"BoilerDesk", "modeBehindInitial", "()I"⟩, 13), (⟨"BoilerDesk", "modeByAnyFailure", "()I"⟩, 13), (⟨"BoilerDesk", "modeInOperation", "()I"⟩, 13), (⟨"BoilerDesk", "giveCommands", "()V"⟩, 13)]
theorem lw_r1 : ∀ q ∈ lw_privs_1, lw_okq q := List.forall_mem_cons.mpr ⟨lw_p0, List.forall_mem_cons.mpr ⟨lw_p1, List.forall_mem_cons.mpr ⟨lw_p2, List.forall_mem_cons.mpr ⟨lw_p3, List.forall_mem_cons.mpr ⟨lw_p4, List.forall_mem_cons.mpr ⟨lw_p5, List.forall_mem_cons.mpr ⟨lw_p6, List.forall_mem_cons.mpr ⟨lw_p7, List.forall_mem_cons.mpr ⟨lw_p8, List.forall_mem_cons.mpr ⟨lw_p9, List.forall_mem_cons.mpr ⟨lw_p10, List.forall_mem_cons.mpr ⟨lw_p11, List.forall_mem_cons.mpr ⟨lw_p12, List.forall_mem_cons.mpr ⟨lw_p13, List.forall_mem_cons.mpr ⟨lw_p14, List.forall_mem_cons.mpr ⟨lw_p15, fun _ h => absurd h List.not_mem_nil⟩⟩⟩⟩⟩⟩⟩⟩⟩⟩⟩⟩⟩⟩⟩⟩
theorem lw_p16 : lw_okq (⟨"BoilerDesk", "commandInOperation", "()V"⟩, 13) := ⟨⟨by decide +kernel, by decide +kernel⟩, List.mem_of_getElem? (i := 17) (by decide +kernel), List.mem_of_getElem? (i := 558) (by decide +kernel), List.mem_of_getElem? (i := 559) (by decide +kernel)⟩
theorem lw_p17 : lw_okq (⟨"BoilerDesk", "commandValve", "(Z)V"⟩, 13) := ⟨⟨by decide +kernel, by decide +kernel⟩, List.mem_of_getElem? (i := 17) (by decide +kernel), List.mem_of_getElem? (i := 562) (by decide +kernel), List.mem_of_getElem? (i := 563) (by decide +kernel)⟩
theorem lw_p18 : lw_okq (⟨"BoilerDesk", "turnOnGoodPumps", "()V"⟩, 13) := ⟨⟨by decide +kernel, by decide +kernel⟩, List.mem_of_getElem? (i := 17) (by decide +kernel), List.mem_of_getElem? (i := 566) (by decide +kernel), List.mem_of_getElem? (i := 567) (by decide +kernel)⟩
theorem lw_p19 : lw_okq (⟨"BoilerDesk", "commandPumps", "(I)V"⟩, 13) := ⟨⟨by decide +kernel, by decide +kernel⟩, List.mem_of_getElem? (i := 17) (by decide +kernel), List.mem_of_getElem? (i := 570) (by decide +kernel), List.mem_of_getElem? (i := 571) (by decide +kernel)⟩
theorem lw_p20 : lw_okq (⟨"BoilerDesk", "commandInInitial", "()V"⟩, 13) := ⟨⟨by decide +kernel, by decide +kernel⟩, List.mem_of_getElem? (i := 17) (by decide +kernel), List.mem_of_getElem? (i := 574) (by decide +kernel), List.mem_of_getElem? (i := 575) (by decide +kernel)⟩
theorem lw_p21 : lw_okq (⟨"BoilerDeskModel", "anew", "(IIIIIIIII)V"⟩, 43) := ⟨⟨by decide +kernel, by decide +kernel⟩, List.mem_of_getElem? (i := 594) (by decide +kernel), List.mem_of_getElem? (i := 600) (by decide +kernel), List.mem_of_getElem? (i := 601) (by decide +kernel)⟩
theorem lw_p22 : lw_okq (⟨"BoilerDeskModel", "forget", "()V"⟩, 43) := ⟨⟨by decide +kernel, by decide +kernel⟩, List.mem_of_getElem? (i := 594) (by decide +kernel), List.mem_of_getElem? (i := 604) (by decide +kernel), List.mem_of_getElem? (i := 605) (by decide +kernel)⟩
theorem lw_p23 : lw_okq (⟨"BoilerDeskModel", "quiet", "()V"⟩, 43) := ⟨⟨by decide +kernel, by decide +kernel⟩, List.mem_of_getElem? (i := 594) (by decide +kernel), List.mem_of_getElem? (i := 608) (by decide +kernel), List.mem_of_getElem? (i := 609) (by decide +kernel)⟩
theorem lw_p24 : lw_okq (⟨"BoilerDeskModel", "fails", "(ZI)Z"⟩, 43) := ⟨⟨by decide +kernel, by decide +kernel⟩, List.mem_of_getElem? (i := 594) (by decide +kernel), List.mem_of_getElem? (i := 756) (by decide +kernel), List.mem_of_getElem? (i := 757) (by decide +kernel)⟩
theorem lw_p25 : lw_okq (⟨"BoilerDeskModel", "turn", "()Z"⟩, 43) := ⟨⟨by decide +kernel, by decide +kernel⟩, List.mem_of_getElem? (i := 594) (by decide +kernel), List.mem_of_getElem? (i := 784) (by decide +kernel), List.mem_of_getElem? (i := 785) (by decide +kernel)⟩
theorem lw_p26 : lw_okq (⟨"BoilerDeskModel", "units", "()Z"⟩, 43) := ⟨⟨by decide +kernel, by decide +kernel⟩, List.mem_of_getElem? (i := 594) (by decide +kernel), List.mem_of_getElem? (i := 788) (by decide +kernel), List.mem_of_getElem? (i := 789) (by decide +kernel)⟩
theorem lw_p27 : lw_okq (⟨"BoilerDeskModel", "find", "(IZ)V"⟩, 43) := ⟨⟨by decide +kernel, by decide +kernel⟩, List.mem_of_getElem? (i := 594) (by decide +kernel), List.mem_of_getElem? (i := 792) (by decide +kernel), List.mem_of_getElem? (i := 793) (by decide +kernel)⟩
theorem lw_p28 : lw_okq (⟨"BoilerDeskModel", "first", "()Z"⟩, 43) := ⟨⟨by decide +kernel, by decide +kernel⟩, List.mem_of_getElem? (i := 594) (by decide +kernel), List.mem_of_getElem? (i := 796) (by decide +kernel), List.mem_of_getElem? (i := 797) (by decide +kernel)⟩
theorem lw_p29 : lw_okq (⟨"BoilerDeskModel", "some", "(II)Z"⟩, 43) := ⟨⟨by decide +kernel, by decide +kernel⟩, List.mem_of_getElem? (i := 594) (by decide +kernel), List.mem_of_getElem? (i := 800) (by decide +kernel), List.mem_of_getElem? (i := 801) (by decide +kernel)⟩
theorem lw_p30 : lw_okq (⟨"BoilerDeskModel", "others", "()Z"⟩, 43) := ⟨⟨by decide +kernel, by decide +kernel⟩, List.mem_of_getElem? (i := 594) (by decide +kernel), List.mem_of_getElem? (i := 804) (by decide +kernel), List.mem_of_getElem? (i := 805) (by decide +kernel)⟩
theorem lw_p31 : lw_okq (⟨"BoilerDeskModel", "command", "()V"⟩, 43) := ⟨⟨by decide +kernel, by decide +kernel⟩, List.mem_of_getElem? (i := 594) (by decide +kernel), List.mem_of_getElem? (i := 808) (by decide +kernel), List.mem_of_getElem? (i := 809) (by decide +kernel)⟩
def lw_privs_2 : List (MethodName × Nat) := [(⟨"BoilerDesk", "commandInOperation", "()V"⟩, 13), (⟨"BoilerDesk", "commandValve", "(Z)V"⟩, 13), (⟨"BoilerDesk", "turnOnGoodPumps", "()V"⟩, 13), (⟨"BoilerDesk", "commandPumps", "(I)V"⟩, 13), (⟨"BoilerDesk", "commandInInitial", "()V"⟩, 13), (⟨"BoilerDeskModel", "anew", "(IIIIIIIII)V"⟩, 43), (⟨"BoilerDeskModel", "forget", "()V"⟩, 43), (⟨"BoilerDeskModel", "quiet", "()V"⟩, 43), (⟨"BoilerDeskModel", "fails", "(ZI)Z"⟩, 43), (⟨"BoilerDeskModel", "turn", "()Z"⟩, 43), (⟨"BoilerDeskModel", "units", "()Z"⟩, 43), (⟨"BoilerDeskModel", "find", "(IZ)V"⟩, 43), (⟨"BoilerDeskModel", "first", "()Z"⟩, 43), (⟨"BoilerDeskModel", "some", "(II)Z"⟩, 43), (⟨"BoilerDeskModel", "others", "()Z"⟩, 43), (⟨"BoilerDeskModel", "command", "()V"⟩, 43)]
theorem lw_r2 : ∀ q ∈ lw_privs_2, lw_okq q := List.forall_mem_cons.mpr ⟨lw_p16, List.forall_mem_cons.mpr ⟨lw_p17, List.forall_mem_cons.mpr ⟨lw_p18, List.forall_mem_cons.mpr ⟨lw_p19, List.forall_mem_cons.mpr ⟨lw_p20, List.forall_mem_cons.mpr ⟨lw_p21, List.forall_mem_cons.mpr ⟨lw_p22, List.forall_mem_cons.mpr ⟨lw_p23, List.forall_mem_cons.mpr ⟨lw_p24, List.forall_mem_cons.mpr ⟨lw_p25, List.forall_mem_cons.mpr ⟨lw_p26, List.forall_mem_cons.mpr ⟨lw_p27, List.forall_mem_cons.mpr ⟨lw_p28, List.forall_mem_cons.mpr ⟨lw_p29, List.forall_mem_cons.mpr ⟨lw_p30, List.forall_mem_cons.mpr ⟨lw_p31, fun _ h => absurd h List.not_mem_nil⟩⟩⟩⟩⟩⟩⟩⟩⟩⟩⟩⟩⟩⟩⟩⟩
def lw_privs : List (MethodName × Nat) := lw_privs_1 ++ (lw_privs_2)
def lw_tbl : List Cond := k2_sels lw_privs ++ tables_1
theorem lw_privs_ok : ∀ q ∈ lw_privs, lw_okq q := by
  show ∀ q ∈ lw_privs_1 ++ (lw_privs_2), lw_okq q
  exact List.forall_mem_append.mpr ⟨lw_r1, lw_r2⟩
def stw : Cond → Bool
  | .methodLinkNest .. => true
  | w => goodWord w
def lw_st : List Cond := lw_tbl.filter stw
theorem st_in {w : Cond} (h : w ∈ lw_tbl) (hs : stw w = true) : w ∈ lw_st := List.mem_filter.mpr ⟨h, hs⟩
end
section
set_option maxRecDepth 20000 in
theorem q_0 : (Jvm.Cond.selects "BoilerDesk" ({ cls := "BoilerDesk", name := "startAnew", desc := "()V" } : Jvm.MethodName) ({ cls := "BoilerDesk", name := "startAnew", desc := "()V" } : Jvm.MethodName)) ∈ lw_st := st_in (List.mem_append_left _ (List.mem_of_getElem? (i := 0) rfl)) rfl
set_option maxRecDepth 20000 in
theorem q_1 : (Jvm.Cond.selects "java/lang/Throwable" ({ cls := "java/lang/Throwable", name := "fillInStackTrace", desc := "(I)Ljava/lang/Throwable;" } : Jvm.MethodName) ({ cls := "java/lang/Throwable", name := "fillInStackTrace", desc := "(I)Ljava/lang/Throwable;" } : Jvm.MethodName)) ∈ lw_st := st_in (List.mem_append_left _ (List.mem_of_getElem? (i := 1) rfl)) rfl
set_option maxRecDepth 20000 in
theorem q_2 : (Jvm.Cond.selects "BoilerDesk" ({ cls := "BoilerDesk", name := "runSteps", desc := "()V" } : Jvm.MethodName) ({ cls := "BoilerDesk", name := "runSteps", desc := "()V" } : Jvm.MethodName)) ∈ lw_st := st_in (List.mem_append_left _ (List.mem_of_getElem? (i := 2) rfl)) rfl
set_option maxRecDepth 20000 in
theorem q_3 : (Jvm.Cond.selects "BoilerDesk" ({ cls := "BoilerDesk", name := "noteWords", desc := "()V" } : Jvm.MethodName) ({ cls := "BoilerDesk", name := "noteWords", desc := "()V" } : Jvm.MethodName)) ∈ lw_st := st_in (List.mem_append_left _ (List.mem_of_getElem? (i := 3) rfl)) rfl
set_option maxRecDepth 20000 in
theorem q_4 : (Jvm.Cond.selects "BoilerDesk" ({ cls := "BoilerDesk", name := "takeRepairs", desc := "()V" } : Jvm.MethodName) ({ cls := "BoilerDesk", name := "takeRepairs", desc := "()V" } : Jvm.MethodName)) ∈ lw_st := st_in (List.mem_append_left _ (List.mem_of_getElem? (i := 4) rfl)) rfl
set_option maxRecDepth 20000 in
theorem q_5 : (Jvm.Cond.selects "BoilerDesk" ({ cls := "BoilerDesk", name := "stopUnlessInitial", desc := "()V" } : Jvm.MethodName) ({ cls := "BoilerDesk", name := "stopUnlessInitial", desc := "()V" } : Jvm.MethodName)) ∈ lw_st := st_in (List.mem_append_left _ (List.mem_of_getElem? (i := 5) rfl)) rfl
set_option maxRecDepth 20000 in
theorem q_6 : (Jvm.Cond.selects "BoilerDesk" ({ cls := "BoilerDesk", name := "takeAcknowledgements", desc := "()V" } : Jvm.MethodName) ({ cls := "BoilerDesk", name := "takeAcknowledgements", desc := "()V" } : Jvm.MethodName)) ∈ lw_st := st_in (List.mem_append_left _ (List.mem_of_getElem? (i := 6) rfl)) rfl
set_option maxRecDepth 20000 in
theorem q_7 : (Jvm.Cond.selects "BoilerDesk" ({ cls := "BoilerDesk", name := "expectReadings", desc := "(I)V" } : Jvm.MethodName) ({ cls := "BoilerDesk", name := "expectReadings", desc := "(I)V" } : Jvm.MethodName)) ∈ lw_st := st_in (List.mem_append_left _ (List.mem_of_getElem? (i := 7) rfl)) rfl
set_option maxRecDepth 20000 in
theorem q_8 : (Jvm.Cond.selects "BoilerDesk" ({ cls := "BoilerDesk", name := "detectFailures", desc := "()V" } : Jvm.MethodName) ({ cls := "BoilerDesk", name := "detectFailures", desc := "()V" } : Jvm.MethodName)) ∈ lw_st := st_in (List.mem_append_left _ (List.mem_of_getElem? (i := 8) rfl)) rfl
set_option maxRecDepth 20000 in
theorem q_9 : (Jvm.Cond.selects "BoilerDesk" ({ cls := "BoilerDesk", name := "detect", desc := "(I)V" } : Jvm.MethodName) ({ cls := "BoilerDesk", name := "detect", desc := "(I)V" } : Jvm.MethodName)) ∈ lw_st := st_in (List.mem_append_left _ (List.mem_of_getElem? (i := 9) rfl)) rfl
set_option maxRecDepth 20000 in
theorem q_10 : (Jvm.Cond.selects "BoilerDesk" ({ cls := "BoilerDesk", name := "isToldWrongly", desc := "(I)Z" } : Jvm.MethodName) ({ cls := "BoilerDesk", name := "isToldWrongly", desc := "(I)Z" } : Jvm.MethodName)) ∈ lw_st := st_in (List.mem_append_left _ (List.mem_of_getElem? (i := 10) rfl)) rfl
set_option maxRecDepth 20000 in
theorem q_11 : (Jvm.Cond.selects "BoilerDesk" ({ cls := "BoilerDesk", name := "estimate", desc := "()V" } : Jvm.MethodName) ({ cls := "BoilerDesk", name := "estimate", desc := "()V" } : Jvm.MethodName)) ∈ lw_st := st_in (List.mem_append_left _ (List.mem_of_getElem? (i := 11) rfl)) rfl
set_option maxRecDepth 20000 in
theorem q_12 : (Jvm.Cond.selects "BoilerDesk" ({ cls := "BoilerDesk", name := "modeBehindInitial", desc := "()I" } : Jvm.MethodName) ({ cls := "BoilerDesk", name := "modeBehindInitial", desc := "()I" } : Jvm.MethodName)) ∈ lw_st := st_in (List.mem_append_left _ (List.mem_of_getElem? (i := 12) rfl)) rfl
set_option maxRecDepth 20000 in
theorem q_13 : (Jvm.Cond.selects "BoilerDesk" ({ cls := "BoilerDesk", name := "modeByAnyFailure", desc := "()I" } : Jvm.MethodName) ({ cls := "BoilerDesk", name := "modeByAnyFailure", desc := "()I" } : Jvm.MethodName)) ∈ lw_st := st_in (List.mem_append_left _ (List.mem_of_getElem? (i := 13) rfl)) rfl
set_option maxRecDepth 20000 in
theorem q_14 : (Jvm.Cond.selects "BoilerDesk" ({ cls := "BoilerDesk", name := "modeInOperation", desc := "()I" } : Jvm.MethodName) ({ cls := "BoilerDesk", name := "modeInOperation", desc := "()I" } : Jvm.MethodName)) ∈ lw_st := st_in (List.mem_append_left _ (List.mem_of_getElem? (i := 14) rfl)) rfl
set_option maxRecDepth 20000 in
theorem q_15 : (Jvm.Cond.selects "BoilerDesk" ({ cls := "BoilerDesk", name := "giveCommands", desc := "()V" } : Jvm.MethodName) ({ cls := "BoilerDesk", name := "giveCommands", desc := "()V" } : Jvm.MethodName)) ∈ lw_st := st_in (List.mem_append_left _ (List.mem_of_getElem? (i := 15) rfl)) rfl
set_option maxRecDepth 20000 in
theorem q_16 : (Jvm.Cond.selects "BoilerDesk" ({ cls := "BoilerDesk", name := "commandInOperation", desc := "()V" } : Jvm.MethodName) ({ cls := "BoilerDesk", name := "commandInOperation", desc := "()V" } : Jvm.MethodName)) ∈ lw_st := st_in (List.mem_append_left _ (List.mem_of_getElem? (i := 16) rfl)) rfl
set_option maxRecDepth 20000 in
theorem q_17 : (Jvm.Cond.selects "BoilerDesk" ({ cls := "BoilerDesk", name := "commandValve", desc := "(Z)V" } : Jvm.MethodName) ({ cls := "BoilerDesk", name := "commandValve", desc := "(Z)V" } : Jvm.MethodName)) ∈ lw_st := st_in (List.mem_append_left _ (List.mem_of_getElem? (i := 17) rfl)) rfl
set_option maxRecDepth 20000 in
theorem q_18 : (Jvm.Cond.selects "BoilerDesk" ({ cls := "BoilerDesk", name := "turnOnGoodPumps", desc := "()V" } : Jvm.MethodName) ({ cls := "BoilerDesk", name := "turnOnGoodPumps", desc := "()V" } : Jvm.MethodName)) ∈ lw_st := st_in (List.mem_append_left _ (List.mem_of_getElem? (i := 18) rfl)) rfl
set_option maxRecDepth 20000 in
theorem q_19 : (Jvm.Cond.selects "BoilerDesk" ({ cls := "BoilerDesk", name := "commandPumps", desc := "(I)V" } : Jvm.MethodName) ({ cls := "BoilerDesk", name := "commandPumps", desc := "(I)V" } : Jvm.MethodName)) ∈ lw_st := st_in (List.mem_append_left _ (List.mem_of_getElem? (i := 19) rfl)) rfl
set_option maxRecDepth 20000 in
theorem q_20 : (Jvm.Cond.selects "BoilerDesk" ({ cls := "BoilerDesk", name := "commandInInitial", desc := "()V" } : Jvm.MethodName) ({ cls := "BoilerDesk", name := "commandInInitial", desc := "()V" } : Jvm.MethodName)) ∈ lw_st := st_in (List.mem_append_left _ (List.mem_of_getElem? (i := 20) rfl)) rfl
set_option maxRecDepth 20000 in
theorem q_21 : (Jvm.Cond.selects "BoilerDeskModel" ({ cls := "BoilerDeskModel", name := "anew", desc := "(IIIIIIIII)V" } : Jvm.MethodName) ({ cls := "BoilerDeskModel", name := "anew", desc := "(IIIIIIIII)V" } : Jvm.MethodName)) ∈ lw_st := st_in (List.mem_append_left _ (List.mem_of_getElem? (i := 21) rfl)) rfl
set_option maxRecDepth 20000 in
theorem q_22 : (Jvm.Cond.selects "BoilerDeskModel" ({ cls := "BoilerDeskModel", name := "forget", desc := "()V" } : Jvm.MethodName) ({ cls := "BoilerDeskModel", name := "forget", desc := "()V" } : Jvm.MethodName)) ∈ lw_st := st_in (List.mem_append_left _ (List.mem_of_getElem? (i := 22) rfl)) rfl
set_option maxRecDepth 20000 in
theorem q_23 : (Jvm.Cond.selects "BoilerDeskModel" ({ cls := "BoilerDeskModel", name := "quiet", desc := "()V" } : Jvm.MethodName) ({ cls := "BoilerDeskModel", name := "quiet", desc := "()V" } : Jvm.MethodName)) ∈ lw_st := st_in (List.mem_append_left _ (List.mem_of_getElem? (i := 23) rfl)) rfl
set_option maxRecDepth 20000 in
theorem q_24 : (Jvm.Cond.selects "BoilerDeskModel" ({ cls := "BoilerDeskModel", name := "fails", desc := "(ZI)Z" } : Jvm.MethodName) ({ cls := "BoilerDeskModel", name := "fails", desc := "(ZI)Z" } : Jvm.MethodName)) ∈ lw_st := st_in (List.mem_append_left _ (List.mem_of_getElem? (i := 24) rfl)) rfl
set_option maxRecDepth 20000 in
theorem q_25 : (Jvm.Cond.selects "BoilerDeskModel" ({ cls := "BoilerDeskModel", name := "turn", desc := "()Z" } : Jvm.MethodName) ({ cls := "BoilerDeskModel", name := "turn", desc := "()Z" } : Jvm.MethodName)) ∈ lw_st := st_in (List.mem_append_left _ (List.mem_of_getElem? (i := 25) rfl)) rfl
set_option maxRecDepth 20000 in
theorem q_26 : (Jvm.Cond.selects "BoilerDeskModel" ({ cls := "BoilerDeskModel", name := "units", desc := "()Z" } : Jvm.MethodName) ({ cls := "BoilerDeskModel", name := "units", desc := "()Z" } : Jvm.MethodName)) ∈ lw_st := st_in (List.mem_append_left _ (List.mem_of_getElem? (i := 26) rfl)) rfl
set_option maxRecDepth 20000 in
theorem q_27 : (Jvm.Cond.selects "BoilerDeskModel" ({ cls := "BoilerDeskModel", name := "find", desc := "(IZ)V" } : Jvm.MethodName) ({ cls := "BoilerDeskModel", name := "find", desc := "(IZ)V" } : Jvm.MethodName)) ∈ lw_st := st_in (List.mem_append_left _ (List.mem_of_getElem? (i := 27) rfl)) rfl
set_option maxRecDepth 20000 in
theorem q_28 : (Jvm.Cond.selects "BoilerDeskModel" ({ cls := "BoilerDeskModel", name := "first", desc := "()Z" } : Jvm.MethodName) ({ cls := "BoilerDeskModel", name := "first", desc := "()Z" } : Jvm.MethodName)) ∈ lw_st := st_in (List.mem_append_left _ (List.mem_of_getElem? (i := 28) rfl)) rfl
set_option maxRecDepth 20000 in
theorem q_29 : (Jvm.Cond.selects "BoilerDeskModel" ({ cls := "BoilerDeskModel", name := "some", desc := "(II)Z" } : Jvm.MethodName) ({ cls := "BoilerDeskModel", name := "some", desc := "(II)Z" } : Jvm.MethodName)) ∈ lw_st := st_in (List.mem_append_left _ (List.mem_of_getElem? (i := 29) rfl)) rfl
set_option maxRecDepth 20000 in
theorem q_30 : (Jvm.Cond.selects "BoilerDeskModel" ({ cls := "BoilerDeskModel", name := "others", desc := "()Z" } : Jvm.MethodName) ({ cls := "BoilerDeskModel", name := "others", desc := "()Z" } : Jvm.MethodName)) ∈ lw_st := st_in (List.mem_append_left _ (List.mem_of_getElem? (i := 30) rfl)) rfl
set_option maxRecDepth 20000 in
theorem q_31 : (Jvm.Cond.selects "BoilerDeskModel" ({ cls := "BoilerDeskModel", name := "command", desc := "()V" } : Jvm.MethodName) ({ cls := "BoilerDeskModel", name := "command", desc := "()V" } : Jvm.MethodName)) ∈ lw_st := st_in (List.mem_append_left _ (List.mem_of_getElem? (i := 31) rfl)) rfl
set_option maxRecDepth 20000 in
theorem q_32 : (Jvm.Cond.initialized "BoilerDeskLaw") ∈ lw_st := st_in (List.mem_append_right _ (List.mem_append_left _ (List.mem_of_getElem? (i := 0) rfl))) rfl
set_option maxRecDepth 20000 in
theorem q_33 : (Jvm.Cond.initialized "BoilerDesk") ∈ lw_st := st_in (List.mem_append_right _ (List.mem_append_left _ (List.mem_of_getElem? (i := 1) rfl))) rfl
set_option maxRecDepth 20000 in
theorem q_34 : (Jvm.Cond.initialized "BoilerDesk$Plant") ∈ lw_st := st_in (List.mem_append_right _ (List.mem_append_left _ (List.mem_of_getElem? (i := 2) rfl))) rfl
set_option maxRecDepth 20000 in
theorem q_35 : (Jvm.Cond.initialized "BoilerDesk$Inbox") ∈ lw_st := st_in (List.mem_append_right _ (List.mem_append_left _ (List.mem_of_getElem? (i := 3) rfl))) rfl
set_option maxRecDepth 20000 in
theorem q_36 : (Jvm.Cond.initialized "BoilerDesk$Units") ∈ lw_st := st_in (List.mem_append_right _ (List.mem_append_left _ (List.mem_of_getElem? (i := 4) rfl))) rfl
set_option maxRecDepth 20000 in
theorem q_37 : (Jvm.Cond.initialized "BoilerDesk$Machines") ∈ lw_st := st_in (List.mem_append_right _ (List.mem_append_left _ (List.mem_of_getElem? (i := 5) rfl))) rfl
set_option maxRecDepth 20000 in
theorem q_38 : (Jvm.Cond.initialized "BoilerDesk$Report") ∈ lw_st := st_in (List.mem_append_right _ (List.mem_append_left _ (List.mem_of_getElem? (i := 6) rfl))) rfl
set_option maxRecDepth 20000 in
theorem q_39 : (Jvm.Cond.initialized "BoilerDesk$Span") ∈ lw_st := st_in (List.mem_append_right _ (List.mem_append_left _ (List.mem_of_getElem? (i := 7) rfl))) rfl
set_option maxRecDepth 20000 in
theorem q_40 : (Jvm.Cond.initialized "BoilerDeskModel") ∈ lw_st := st_in (List.mem_append_right _ (List.mem_append_left _ (List.mem_of_getElem? (i := 8) rfl))) rfl
set_option maxRecDepth 20000 in
theorem q_41 : (Jvm.Cond.initialized "java/lang/Throwable") ∈ lw_st := st_in (List.mem_append_right _ (List.mem_append_left _ (List.mem_of_getElem? (i := 9) rfl))) rfl
set_option maxRecDepth 20000 in
theorem q_42 : (Jvm.Cond.initialized "java/lang/Exception") ∈ lw_st := st_in (List.mem_append_right _ (List.mem_append_left _ (List.mem_of_getElem? (i := 10) rfl))) rfl
set_option maxRecDepth 20000 in
theorem q_43 : (Jvm.Cond.initialized "java/lang/RuntimeException") ∈ lw_st := st_in (List.mem_append_right _ (List.mem_append_left _ (List.mem_of_getElem? (i := 11) rfl))) rfl
set_option maxRecDepth 20000 in
theorem q_44 : (Jvm.Cond.initialized "java/lang/IllegalArgumentException") ∈ lw_st := st_in (List.mem_append_right _ (List.mem_append_left _ (List.mem_of_getElem? (i := 12) rfl))) rfl
set_option maxRecDepth 20000 in
theorem q_45 : (Jvm.Cond.initialized "java/lang/IllegalStateException") ∈ lw_st := st_in (List.mem_append_right _ (List.mem_append_left _ (List.mem_of_getElem? (i := 13) rfl))) rfl
set_option maxRecDepth 20000 in
theorem q_46 : (Jvm.Cond.initialized "java/lang/Math") ∈ lw_st := st_in (List.mem_append_right _ (List.mem_append_left _ (List.mem_of_getElem? (i := 14) rfl))) rfl
set_option maxRecDepth 20000 in
theorem q_47 : (Jvm.Cond.initialized "java/lang/Integer") ∈ lw_st := st_in (List.mem_append_right _ (List.mem_append_left _ (List.mem_of_getElem? (i := 15) rfl))) rfl
set_option maxRecDepth 20000 in
theorem q_48 : (Jvm.Cond.classLink "BoilerDeskLaw" (8 : Nat) "BoilerDesk") ∈ lw_st := st_in (List.mem_append_right _ (List.mem_append_left _ (List.mem_of_getElem? (i := 16) rfl))) rfl
set_option maxRecDepth 20000 in
theorem q_49 : (Jvm.Cond.instantiable "BoilerDesk" (13 : Nat)) ∈ lw_st := st_in (List.mem_append_right _ (List.mem_append_left _ (List.mem_of_getElem? (i := 17) rfl))) rfl
set_option maxRecDepth 20000 in
theorem q_50 : (Jvm.Cond.methodLink "BoilerDeskLaw" (40 : Nat) ({ cls := "BoilerDesk", name := "<init>", desc := "()V" } : Jvm.MethodName)) ∈ lw_st := st_in (List.mem_append_right _ (List.mem_append_left _ (List.mem_of_getElem? (i := 18) rfl))) rfl
set_option maxRecDepth 20000 in
theorem q_51 : (Jvm.Cond.instanceMethod ({ cls := "BoilerDesk", name := "<init>", desc := "()V" } : Jvm.MethodName)) ∈ lw_st := st_in (List.mem_append_right _ (List.mem_append_left _ (List.mem_of_getElem? (i := 19) rfl))) rfl
set_option maxRecDepth 20000 in
theorem q_52 : (Jvm.Cond.code ({ cls := "BoilerDesk", name := "<init>", desc := "()V" } : Jvm.MethodName) prog_1_method_1_code (1 : Nat) (Option.none : Option Jvm.ClassFile.FieldType)) ∈ lw_st := st_in (List.mem_append_right _ (List.mem_append_left _ (List.mem_of_getElem? (i := 20) rfl))) rfl
set_option maxRecDepth 20000 in
theorem q_53 : (Jvm.Cond.methodLink "BoilerDesk" (3 : Nat) ({ cls := "java/lang/Object", name := "<init>", desc := "()V" } : Jvm.MethodName)) ∈ lw_st := st_in (List.mem_append_right _ (List.mem_append_left _ (List.mem_of_getElem? (i := 21) rfl))) rfl
set_option maxRecDepth 20000 in
theorem q_54 : (Jvm.Cond.instanceMethod ({ cls := "java/lang/Object", name := "<init>", desc := "()V" } : Jvm.MethodName)) ∈ lw_st := st_in (List.mem_append_right _ (List.mem_append_left _ (List.mem_of_getElem? (i := 22) rfl))) rfl
set_option maxRecDepth 20000 in
theorem q_55 : (Jvm.Cond.code ({ cls := "java/lang/Object", name := "<init>", desc := "()V" } : Jvm.MethodName) object_method_1_code (1 : Nat) (Option.none : Option Jvm.ClassFile.FieldType)) ∈ lw_st := st_in (List.mem_append_right _ (List.mem_append_left _ (List.mem_of_getElem? (i := 23) rfl))) rfl
set_option maxRecDepth 20000 in
theorem q_56 : (Jvm.Cond.classLink "BoilerDesk" (9 : Nat) "BoilerDesk$Plant") ∈ lw_st := st_in (List.mem_append_right _ (List.mem_append_left _ (List.mem_of_getElem? (i := 24) rfl))) rfl
set_option maxRecDepth 20000 in
theorem q_57 : (Jvm.Cond.instantiable "BoilerDesk$Plant" (9 : Nat)) ∈ lw_st := st_in (List.mem_append_right _ (List.mem_append_left _ (List.mem_of_getElem? (i := 25) rfl))) rfl
set_option maxRecDepth 20000 in
theorem q_58 : (Jvm.Cond.methodLinkNest "BoilerDesk" (11 : Nat) ({ cls := "BoilerDesk$Plant", name := "<init>", desc := "()V" } : Jvm.MethodName) "BoilerDesk") ∈ lw_st := st_in (List.mem_append_right _ (List.mem_append_left _ (List.mem_of_getElem? (i := 26) rfl))) rfl
set_option maxRecDepth 20000 in
theorem q_59 : (Jvm.Cond.instanceMethod ({ cls := "BoilerDesk$Plant", name := "<init>", desc := "()V" } : Jvm.MethodName)) ∈ lw_st := st_in (List.mem_append_right _ (List.mem_append_left _ (List.mem_of_getElem? (i := 27) rfl))) rfl
set_option maxRecDepth 20000 in
theorem q_60 : (Jvm.Cond.code ({ cls := "BoilerDesk$Plant", name := "<init>", desc := "()V" } : Jvm.MethodName) prog_4_method_1_code (1 : Nat) (Option.none : Option Jvm.ClassFile.FieldType)) ∈ lw_st := st_in (List.mem_append_right _ (List.mem_append_left _ (List.mem_of_getElem? (i := 28) rfl))) rfl
set_option maxRecDepth 20000 in
theorem q_61 : (Jvm.Cond.methodLink "BoilerDesk$Plant" (1 : Nat) ({ cls := "java/lang/Object", name := "<init>", desc := "()V" } : Jvm.MethodName)) ∈ lw_st := st_in (List.mem_append_right _ (List.mem_append_left _ (List.mem_of_getElem? (i := 29) rfl))) rfl
set_option maxRecDepth 20000 in
theorem q_62 : (Jvm.Cond.fieldLink "BoilerDesk$Plant" (7 : Nat) "BoilerDesk$Plant" "capacity" "I") ∈ lw_st := st_in (List.mem_append_right _ (List.mem_append_left _ (List.mem_of_getElem? (i := 30) rfl))) rfl
set_option maxRecDepth 20000 in
theorem q_63 : (Jvm.Cond.fieldLink "BoilerDesk" (209 : Nat) "BoilerDesk$Plant" "capacity" "I") ∈ lw_st := st_in (List.mem_append_right _ (List.mem_append_left _ (List.mem_of_getElem? (i := 31) rfl))) rfl
set_option maxRecDepth 20000 in
theorem q_64 : (Jvm.Cond.fieldLink "BoilerDesk$Plant" (13 : Nat) "BoilerDesk$Plant" "lowLimit" "I") ∈ lw_st := st_in (List.mem_append_right _ (List.mem_append_left _ (List.mem_of_getElem? (i := 32) rfl))) rfl
set_option maxRecDepth 20000 in
theorem q_65 : (Jvm.Cond.fieldLink "BoilerDesk" (324 : Nat) "BoilerDesk$Plant" "lowLimit" "I") ∈ lw_st := st_in (List.mem_append_right _ (List.mem_append_left _ (List.mem_of_getElem? (i := 33) rfl))) rfl
set_option maxRecDepth 20000 in
theorem q_66 : (Jvm.Cond.fieldLink "BoilerDesk$Plant" (16 : Nat) "BoilerDesk$Plant" "normalFrom" "I") ∈ lw_st := st_in (List.mem_append_right _ (List.mem_append_left _ (List.mem_of_getElem? (i := 34) rfl))) rfl
set_option maxRecDepth 20000 in
theorem q_67 : (Jvm.Cond.fieldLink "BoilerDesk" (343 : Nat) "BoilerDesk$Plant" "normalFrom" "I") ∈ lw_st := st_in (List.mem_append_right _ (List.mem_append_left _ (List.mem_of_getElem? (i := 35) rfl))) rfl
set_option maxRecDepth 20000 in
theorem q_68 : (Jvm.Cond.fieldLink "BoilerDesk$Plant" (19 : Nat) "BoilerDesk$Plant" "normalTo" "I") ∈ lw_st := st_in (List.mem_append_right _ (List.mem_append_left _ (List.mem_of_getElem? (i := 36) rfl))) rfl
set_option maxRecDepth 20000 in
theorem q_69 : (Jvm.Cond.fieldLink "BoilerDesk" (336 : Nat) "BoilerDesk$Plant" "normalTo" "I") ∈ lw_st := st_in (List.mem_append_right _ (List.mem_append_left _ (List.mem_of_getElem? (i := 37) rfl))) rfl
set_option maxRecDepth 20000 in
theorem q_70 : (Jvm.Cond.fieldLink "BoilerDesk$Plant" (22 : Nat) "BoilerDesk$Plant" "highLimit" "I") ∈ lw_st := st_in (List.mem_append_right _ (List.mem_append_left _ (List.mem_of_getElem? (i := 38) rfl))) rfl
set_option maxRecDepth 20000 in
theorem q_71 : (Jvm.Cond.fieldLink "BoilerDesk" (327 : Nat) "BoilerDesk$Plant" "highLimit" "I") ∈ lw_st := st_in (List.mem_append_right _ (List.mem_append_left _ (List.mem_of_getElem? (i := 39) rfl))) rfl
set_option maxRecDepth 20000 in
theorem q_72 : (Jvm.Cond.fieldLink "BoilerDesk$Plant" (25 : Nat) "BoilerDesk$Plant" "mostSteam" "I") ∈ lw_st := st_in (List.mem_append_right _ (List.mem_append_left _ (List.mem_of_getElem? (i := 40) rfl))) rfl
set_option maxRecDepth 20000 in
theorem q_73 : (Jvm.Cond.fieldLink "BoilerDesk" (216 : Nat) "BoilerDesk$Plant" "mostSteam" "I") ∈ lw_st := st_in (List.mem_append_right _ (List.mem_append_left _ (List.mem_of_getElem? (i := 41) rfl))) rfl
set_option maxRecDepth 20000 in
theorem q_74 : (Jvm.Cond.fieldLink "BoilerDesk$Plant" (28 : Nat) "BoilerDesk$Plant" "steamRise" "I") ∈ lw_st := st_in (List.mem_append_right _ (List.mem_append_left _ (List.mem_of_getElem? (i := 42) rfl))) rfl
set_option maxRecDepth 20000 in
theorem q_75 : (Jvm.Cond.fieldLink "BoilerDesk" (284 : Nat) "BoilerDesk$Plant" "steamRise" "I") ∈ lw_st := st_in (List.mem_append_right _ (List.mem_append_left _ (List.mem_of_getElem? (i := 43) rfl))) rfl
set_option maxRecDepth 20000 in
theorem q_76 : (Jvm.Cond.fieldLink "BoilerDesk$Plant" (31 : Nat) "BoilerDesk$Plant" "steamFall" "I") ∈ lw_st := st_in (List.mem_append_right _ (List.mem_append_left _ (List.mem_of_getElem? (i := 44) rfl))) rfl
set_option maxRecDepth 20000 in
theorem q_77 : (Jvm.Cond.fieldLink "BoilerDesk" (275 : Nat) "BoilerDesk$Plant" "steamFall" "I") ∈ lw_st := st_in (List.mem_append_right _ (List.mem_append_left _ (List.mem_of_getElem? (i := 45) rfl))) rfl
set_option maxRecDepth 20000 in
theorem q_78 : (Jvm.Cond.fieldLink "BoilerDesk$Plant" (34 : Nat) "BoilerDesk$Plant" "pumpRate" "I") ∈ lw_st := st_in (List.mem_append_right _ (List.mem_append_left _ (List.mem_of_getElem? (i := 46) rfl))) rfl
set_option maxRecDepth 20000 in
theorem q_79 : (Jvm.Cond.lays "BoilerDesk$Plant" "BoilerDesk$Plant" "capacity" "I") ∈ lw_st := st_in (List.mem_append_right _ (List.mem_append_left _ (List.mem_of_getElem? (i := 47) rfl))) rfl
set_option maxRecDepth 20000 in
theorem q_81 : (Jvm.Cond.lays "BoilerDesk$Plant" "BoilerDesk$Plant" "lowLimit" "I") ∈ lw_st := st_in (List.mem_append_right _ (List.mem_append_left _ (List.mem_of_getElem? (i := 49) rfl))) rfl
set_option maxRecDepth 20000 in
theorem q_83 : (Jvm.Cond.lays "BoilerDesk$Plant" "BoilerDesk$Plant" "normalFrom" "I") ∈ lw_st := st_in (List.mem_append_right _ (List.mem_append_left _ (List.mem_of_getElem? (i := 51) rfl))) rfl
set_option maxRecDepth 20000 in
theorem q_85 : (Jvm.Cond.lays "BoilerDesk$Plant" "BoilerDesk$Plant" "normalTo" "I") ∈ lw_st := st_in (List.mem_append_right _ (List.mem_append_left _ (List.mem_of_getElem? (i := 53) rfl))) rfl
set_option maxRecDepth 20000 in
theorem q_87 : (Jvm.Cond.lays "BoilerDesk$Plant" "BoilerDesk$Plant" "highLimit" "I") ∈ lw_st := st_in (List.mem_append_right _ (List.mem_append_left _ (List.mem_of_getElem? (i := 55) rfl))) rfl
set_option maxRecDepth 20000 in
theorem q_89 : (Jvm.Cond.lays "BoilerDesk$Plant" "BoilerDesk$Plant" "mostSteam" "I") ∈ lw_st := st_in (List.mem_append_right _ (List.mem_append_left _ (List.mem_of_getElem? (i := 57) rfl))) rfl
set_option maxRecDepth 20000 in
theorem q_91 : (Jvm.Cond.lays "BoilerDesk$Plant" "BoilerDesk$Plant" "steamRise" "I") ∈ lw_st := st_in (List.mem_append_right _ (List.mem_append_left _ (List.mem_of_getElem? (i := 59) rfl))) rfl
set_option maxRecDepth 20000 in
theorem q_93 : (Jvm.Cond.lays "BoilerDesk$Plant" "BoilerDesk$Plant" "steamFall" "I") ∈ lw_st := st_in (List.mem_append_right _ (List.mem_append_left _ (List.mem_of_getElem? (i := 61) rfl))) rfl
set_option maxRecDepth 20000 in
theorem q_95 : (Jvm.Cond.lays "BoilerDesk$Plant" "BoilerDesk$Plant" "pumpRate" "I") ∈ lw_st := st_in (List.mem_append_right _ (List.mem_append_left _ (List.mem_of_getElem? (i := 63) rfl))) rfl
set_option maxRecDepth 20000 in
theorem q_98 : (Jvm.Cond.classLink "BoilerDesk" (16 : Nat) "BoilerDesk$Inbox") ∈ lw_st := st_in (List.mem_append_right _ (List.mem_append_left _ (List.mem_of_getElem? (i := 66) rfl))) rfl
set_option maxRecDepth 20000 in
theorem q_99 : (Jvm.Cond.instantiable "BoilerDesk$Inbox" (12 : Nat)) ∈ lw_st := st_in (List.mem_append_right _ (List.mem_append_left _ (List.mem_of_getElem? (i := 67) rfl))) rfl
set_option maxRecDepth 20000 in
theorem q_100 : (Jvm.Cond.methodLinkNest "BoilerDesk" (18 : Nat) ({ cls := "BoilerDesk$Inbox", name := "<init>", desc := "()V" } : Jvm.MethodName) "BoilerDesk") ∈ lw_st := st_in (List.mem_append_right _ (List.mem_append_left _ (List.mem_of_getElem? (i := 68) rfl))) rfl
set_option maxRecDepth 20000 in
theorem q_101 : (Jvm.Cond.instanceMethod ({ cls := "BoilerDesk$Inbox", name := "<init>", desc := "()V" } : Jvm.MethodName)) ∈ lw_st := st_in (List.mem_append_right _ (List.mem_append_left _ (List.mem_of_getElem? (i := 69) rfl))) rfl
set_option maxRecDepth 20000 in
theorem q_102 : (Jvm.Cond.code ({ cls := "BoilerDesk$Inbox", name := "<init>", desc := "()V" } : Jvm.MethodName) prog_2_method_1_code (1 : Nat) (Option.none : Option Jvm.ClassFile.FieldType)) ∈ lw_st := st_in (List.mem_append_right _ (List.mem_append_left _ (List.mem_of_getElem? (i := 70) rfl))) rfl
set_option maxRecDepth 20000 in
theorem q_103 : (Jvm.Cond.methodLink "BoilerDesk$Inbox" (3 : Nat) ({ cls := "java/lang/Object", name := "<init>", desc := "()V" } : Jvm.MethodName)) ∈ lw_st := st_in (List.mem_append_right _ (List.mem_append_left _ (List.mem_of_getElem? (i := 71) rfl))) rfl
set_option maxRecDepth 20000 in
theorem q_104 : (Jvm.Cond.fieldLink "BoilerDesk$Inbox" (9 : Nat) "BoilerDesk$Inbox" "hasLevel" "Z") ∈ lw_st := st_in (List.mem_append_right _ (List.mem_append_left _ (List.mem_of_getElem? (i := 72) rfl))) rfl
set_option maxRecDepth 20000 in
theorem q_105 : (Jvm.Cond.fieldLink "BoilerDesk" (86 : Nat) "BoilerDesk$Inbox" "hasLevel" "Z") ∈ lw_st := st_in (List.mem_append_right _ (List.mem_append_left _ (List.mem_of_getElem? (i := 73) rfl))) rfl
set_option maxRecDepth 20000 in
theorem q_106 : (Jvm.Cond.fieldLink "BoilerDesk$Inbox" (22 : Nat) "BoilerDesk$Inbox" "level" "I") ∈ lw_st := st_in (List.mem_append_right _ (List.mem_append_left _ (List.mem_of_getElem? (i := 74) rfl))) rfl
set_option maxRecDepth 20000 in
theorem q_107 : (Jvm.Cond.fieldLink "BoilerDesk" (90 : Nat) "BoilerDesk$Inbox" "level" "I") ∈ lw_st := st_in (List.mem_append_right _ (List.mem_append_left _ (List.mem_of_getElem? (i := 75) rfl))) rfl
set_option maxRecDepth 20000 in
theorem q_108 : (Jvm.Cond.fieldLink "BoilerDesk$Inbox" (15 : Nat) "BoilerDesk$Inbox" "hasSteam" "Z") ∈ lw_st := st_in (List.mem_append_right _ (List.mem_append_left _ (List.mem_of_getElem? (i := 76) rfl))) rfl
set_option maxRecDepth 20000 in
theorem q_109 : (Jvm.Cond.fieldLink "BoilerDesk" (94 : Nat) "BoilerDesk$Inbox" "hasSteam" "Z") ∈ lw_st := st_in (List.mem_append_right _ (List.mem_append_left _ (List.mem_of_getElem? (i := 77) rfl))) rfl
set_option maxRecDepth 20000 in
theorem q_110 : (Jvm.Cond.fieldLink "BoilerDesk$Inbox" (25 : Nat) "BoilerDesk$Inbox" "steam" "I") ∈ lw_st := st_in (List.mem_append_right _ (List.mem_append_left _ (List.mem_of_getElem? (i := 78) rfl))) rfl
set_option maxRecDepth 20000 in
theorem q_111 : (Jvm.Cond.fieldLink "BoilerDesk" (97 : Nat) "BoilerDesk$Inbox" "steam" "I") ∈ lw_st := st_in (List.mem_append_right _ (List.mem_append_left _ (List.mem_of_getElem? (i := 79) rfl))) rfl
set_option maxRecDepth 20000 in
theorem q_112 : (Jvm.Cond.fieldLink "BoilerDesk$Inbox" (18 : Nat) "BoilerDesk$Inbox" "pumpsHeard" "I") ∈ lw_st := st_in (List.mem_append_right _ (List.mem_append_left _ (List.mem_of_getElem? (i := 80) rfl))) rfl
set_option maxRecDepth 20000 in
theorem q_113 : (Jvm.Cond.fieldLink "BoilerDesk" (102 : Nat) "BoilerDesk$Inbox" "pumpsHeard" "I") ∈ lw_st := st_in (List.mem_append_right _ (List.mem_append_left _ (List.mem_of_getElem? (i := 81) rfl))) rfl
set_option maxRecDepth 20000 in
theorem q_114 : (Jvm.Cond.fieldLink "BoilerDesk$Inbox" (28 : Nat) "BoilerDesk$Inbox" "pumpsSaidOn" "I") ∈ lw_st := st_in (List.mem_append_right _ (List.mem_append_left _ (List.mem_of_getElem? (i := 82) rfl))) rfl
set_option maxRecDepth 20000 in
theorem q_115 : (Jvm.Cond.fieldLink "BoilerDesk" (109 : Nat) "BoilerDesk$Inbox" "pumpsSaidOn" "I") ∈ lw_st := st_in (List.mem_append_right _ (List.mem_append_left _ (List.mem_of_getElem? (i := 83) rfl))) rfl
set_option maxRecDepth 20000 in
theorem q_116 : (Jvm.Cond.fieldLink "BoilerDesk$Inbox" (31 : Nat) "BoilerDesk$Inbox" "pumpsSaidGiving" "I") ∈ lw_st := st_in (List.mem_append_right _ (List.mem_append_left _ (List.mem_of_getElem? (i := 84) rfl))) rfl
set_option maxRecDepth 20000 in
theorem q_117 : (Jvm.Cond.fieldLink "BoilerDesk" (112 : Nat) "BoilerDesk$Inbox" "pumpsSaidGiving" "I") ∈ lw_st := st_in (List.mem_append_right _ (List.mem_append_left _ (List.mem_of_getElem? (i := 85) rfl))) rfl
set_option maxRecDepth 20000 in
theorem q_118 : (Jvm.Cond.fieldLink "BoilerDesk$Inbox" (34 : Nat) "BoilerDesk$Inbox" "waiting" "Z") ∈ lw_st := st_in (List.mem_append_right _ (List.mem_append_left _ (List.mem_of_getElem? (i := 86) rfl))) rfl
set_option maxRecDepth 20000 in
theorem q_119 : (Jvm.Cond.fieldLink "BoilerDesk" (115 : Nat) "BoilerDesk$Inbox" "waiting" "Z") ∈ lw_st := st_in (List.mem_append_right _ (List.mem_append_left _ (List.mem_of_getElem? (i := 87) rfl))) rfl
set_option maxRecDepth 20000 in
theorem q_120 : (Jvm.Cond.fieldLink "BoilerDesk$Inbox" (37 : Nat) "BoilerDesk$Inbox" "ready" "Z") ∈ lw_st := st_in (List.mem_append_right _ (List.mem_append_left _ (List.mem_of_getElem? (i := 88) rfl))) rfl
set_option maxRecDepth 20000 in
theorem q_121 : (Jvm.Cond.fieldLink "BoilerDesk" (118 : Nat) "BoilerDesk$Inbox" "ready" "Z") ∈ lw_st := st_in (List.mem_append_right _ (List.mem_append_left _ (List.mem_of_getElem? (i := 89) rfl))) rfl
set_option maxRecDepth 20000 in
theorem q_122 : (Jvm.Cond.fieldLink "BoilerDesk$Inbox" (40 : Nat) "BoilerDesk$Inbox" "stop" "Z") ∈ lw_st := st_in (List.mem_append_right _ (List.mem_append_left _ (List.mem_of_getElem? (i := 90) rfl))) rfl
set_option maxRecDepth 20000 in
theorem q_123 : (Jvm.Cond.fieldLink "BoilerDesk" (121 : Nat) "BoilerDesk$Inbox" "stop" "Z") ∈ lw_st := st_in (List.mem_append_right _ (List.mem_append_left _ (List.mem_of_getElem? (i := 91) rfl))) rfl
set_option maxRecDepth 20000 in
theorem q_124 : (Jvm.Cond.fieldLink "BoilerDesk$Inbox" (43 : Nat) "BoilerDesk$Inbox" "repairs" "I") ∈ lw_st := st_in (List.mem_append_right _ (List.mem_append_left _ (List.mem_of_getElem? (i := 92) rfl))) rfl
set_option maxRecDepth 20000 in
theorem q_125 : (Jvm.Cond.fieldLink "BoilerDesk" (128 : Nat) "BoilerDesk$Inbox" "repairs" "I") ∈ lw_st := st_in (List.mem_append_right _ (List.mem_append_left _ (List.mem_of_getElem? (i := 93) rfl))) rfl
set_option maxRecDepth 20000 in
theorem q_126 : (Jvm.Cond.fieldLink "BoilerDesk$Inbox" (46 : Nat) "BoilerDesk$Inbox" "acknowledgements" "I") ∈ lw_st := st_in (List.mem_append_right _ (List.mem_append_left _ (List.mem_of_getElem? (i := 94) rfl))) rfl
set_option maxRecDepth 20000 in
theorem q_127 : (Jvm.Cond.fieldLink "BoilerDesk" (131 : Nat) "BoilerDesk$Inbox" "acknowledgements" "I") ∈ lw_st := st_in (List.mem_append_right _ (List.mem_append_left _ (List.mem_of_getElem? (i := 95) rfl))) rfl
set_option maxRecDepth 20000 in
theorem q_128 : (Jvm.Cond.lays "BoilerDesk$Inbox" "BoilerDesk$Inbox" "hasLevel" "Z") ∈ lw_st := st_in (List.mem_append_right _ (List.mem_append_left _ (List.mem_of_getElem? (i := 96) rfl))) rfl
set_option maxRecDepth 20000 in
theorem q_130 : (Jvm.Cond.lays "BoilerDesk$Inbox" "BoilerDesk$Inbox" "level" "I") ∈ lw_st := st_in (List.mem_append_right _ (List.mem_append_left _ (List.mem_of_getElem? (i := 98) rfl))) rfl
set_option maxRecDepth 20000 in
theorem q_132 : (Jvm.Cond.lays "BoilerDesk$Inbox" "BoilerDesk$Inbox" "hasSteam" "Z") ∈ lw_st := st_in (List.mem_append_right _ (List.mem_append_left _ (List.mem_of_getElem? (i := 100) rfl))) rfl
set_option maxRecDepth 20000 in
theorem q_134 : (Jvm.Cond.lays "BoilerDesk$Inbox" "BoilerDesk$Inbox" "steam" "I") ∈ lw_st := st_in (List.mem_append_right _ (List.mem_append_left _ (List.mem_of_getElem? (i := 102) rfl))) rfl
set_option maxRecDepth 20000 in
theorem q_136 : (Jvm.Cond.lays "BoilerDesk$Inbox" "BoilerDesk$Inbox" "pumpsHeard" "I") ∈ lw_st := st_in (List.mem_append_right _ (List.mem_append_left _ (List.mem_of_getElem? (i := 104) rfl))) rfl
set_option maxRecDepth 20000 in
theorem q_138 : (Jvm.Cond.lays "BoilerDesk$Inbox" "BoilerDesk$Inbox" "pumpsSaidOn" "I") ∈ lw_st := st_in (List.mem_append_right _ (List.mem_append_left _ (List.mem_of_getElem? (i := 106) rfl))) rfl
set_option maxRecDepth 20000 in
theorem q_140 : (Jvm.Cond.lays "BoilerDesk$Inbox" "BoilerDesk$Inbox" "pumpsSaidGiving" "I") ∈ lw_st := st_in (List.mem_append_right _ (List.mem_append_left _ (List.mem_of_getElem? (i := 108) rfl))) rfl
set_option maxRecDepth 20000 in
theorem q_142 : (Jvm.Cond.lays "BoilerDesk$Inbox" "BoilerDesk$Inbox" "waiting" "Z") ∈ lw_st := st_in (List.mem_append_right _ (List.mem_append_left _ (List.mem_of_getElem? (i := 110) rfl))) rfl
set_option maxRecDepth 20000 in
theorem q_144 : (Jvm.Cond.lays "BoilerDesk$Inbox" "BoilerDesk$Inbox" "ready" "Z") ∈ lw_st := st_in (List.mem_append_right _ (List.mem_append_left _ (List.mem_of_getElem? (i := 112) rfl))) rfl
set_option maxRecDepth 20000 in
theorem q_146 : (Jvm.Cond.lays "BoilerDesk$Inbox" "BoilerDesk$Inbox" "stop" "Z") ∈ lw_st := st_in (List.mem_append_right _ (List.mem_append_left _ (List.mem_of_getElem? (i := 114) rfl))) rfl
set_option maxRecDepth 20000 in
theorem q_148 : (Jvm.Cond.lays "BoilerDesk$Inbox" "BoilerDesk$Inbox" "repairs" "I") ∈ lw_st := st_in (List.mem_append_right _ (List.mem_append_left _ (List.mem_of_getElem? (i := 116) rfl))) rfl
set_option maxRecDepth 20000 in
theorem q_150 : (Jvm.Cond.lays "BoilerDesk$Inbox" "BoilerDesk$Inbox" "acknowledgements" "I") ∈ lw_st := st_in (List.mem_append_right _ (List.mem_append_left _ (List.mem_of_getElem? (i := 118) rfl))) rfl
set_option maxRecDepth 20000 in
theorem q_153 : (Jvm.Cond.classLink "BoilerDesk" (23 : Nat) "BoilerDesk$Units") ∈ lw_st := st_in (List.mem_append_right _ (List.mem_append_left _ (List.mem_of_getElem? (i := 121) rfl))) rfl
set_option maxRecDepth 20000 in
theorem q_154 : (Jvm.Cond.instantiable "BoilerDesk$Units" (2 : Nat)) ∈ lw_st := st_in (List.mem_append_right _ (List.mem_append_left _ (List.mem_of_getElem? (i := 122) rfl))) rfl
set_option maxRecDepth 20000 in
theorem q_155 : (Jvm.Cond.methodLinkNest "BoilerDesk" (25 : Nat) ({ cls := "BoilerDesk$Units", name := "<init>", desc := "()V" } : Jvm.MethodName) "BoilerDesk") ∈ lw_st := st_in (List.mem_append_right _ (List.mem_append_left _ (List.mem_of_getElem? (i := 123) rfl))) rfl
set_option maxRecDepth 20000 in
theorem q_156 : (Jvm.Cond.instanceMethod ({ cls := "BoilerDesk$Units", name := "<init>", desc := "()V" } : Jvm.MethodName)) ∈ lw_st := st_in (List.mem_append_right _ (List.mem_append_left _ (List.mem_of_getElem? (i := 124) rfl))) rfl
set_option maxRecDepth 20000 in
theorem q_157 : (Jvm.Cond.code ({ cls := "BoilerDesk$Units", name := "<init>", desc := "()V" } : Jvm.MethodName) prog_7_method_1_code (1 : Nat) (Option.none : Option Jvm.ClassFile.FieldType)) ∈ lw_st := st_in (List.mem_append_right _ (List.mem_append_left _ (List.mem_of_getElem? (i := 125) rfl))) rfl
set_option maxRecDepth 20000 in
theorem q_158 : (Jvm.Cond.methodLink "BoilerDesk$Units" (1 : Nat) ({ cls := "java/lang/Object", name := "<init>", desc := "()V" } : Jvm.MethodName)) ∈ lw_st := st_in (List.mem_append_right _ (List.mem_append_left _ (List.mem_of_getElem? (i := 126) rfl))) rfl
set_option maxRecDepth 20000 in
theorem q_159 : (Jvm.Cond.fieldLink "BoilerDesk$Units" (7 : Nat) "BoilerDesk$Units" "failed" "I") ∈ lw_st := st_in (List.mem_append_right _ (List.mem_append_left _ (List.mem_of_getElem? (i := 127) rfl))) rfl
set_option maxRecDepth 20000 in
theorem q_160 : (Jvm.Cond.fieldLink "BoilerDesk" (182 : Nat) "BoilerDesk$Units" "failed" "I") ∈ lw_st := st_in (List.mem_append_right _ (List.mem_append_left _ (List.mem_of_getElem? (i := 128) rfl))) rfl
set_option maxRecDepth 20000 in
theorem q_161 : (Jvm.Cond.fieldLink "BoilerDesk$Units" (19 : Nat) "BoilerDesk$Units" "acknowledged" "I") ∈ lw_st := st_in (List.mem_append_right _ (List.mem_append_left _ (List.mem_of_getElem? (i := 129) rfl))) rfl
set_option maxRecDepth 20000 in
theorem q_162 : (Jvm.Cond.fieldLink "BoilerDesk" (185 : Nat) "BoilerDesk$Units" "acknowledged" "I") ∈ lw_st := st_in (List.mem_append_right _ (List.mem_append_left _ (List.mem_of_getElem? (i := 130) rfl))) rfl
set_option maxRecDepth 20000 in
theorem q_163 : (Jvm.Cond.lays "BoilerDesk$Units" "BoilerDesk$Units" "failed" "I") ∈ lw_st := st_in (List.mem_append_right _ (List.mem_append_left _ (List.mem_of_getElem? (i := 131) rfl))) rfl
set_option maxRecDepth 20000 in
theorem q_165 : (Jvm.Cond.lays "BoilerDesk$Units" "BoilerDesk$Units" "acknowledged" "I") ∈ lw_st := st_in (List.mem_append_right _ (List.mem_append_left _ (List.mem_of_getElem? (i := 133) rfl))) rfl
set_option maxRecDepth 20000 in
theorem q_168 : (Jvm.Cond.classLink "BoilerDesk" (30 : Nat) "BoilerDesk$Machines") ∈ lw_st := st_in (List.mem_append_right _ (List.mem_append_left _ (List.mem_of_getElem? (i := 136) rfl))) rfl
set_option maxRecDepth 20000 in
theorem q_169 : (Jvm.Cond.instantiable "BoilerDesk$Machines" (4 : Nat)) ∈ lw_st := st_in (List.mem_append_right _ (List.mem_append_left _ (List.mem_of_getElem? (i := 137) rfl))) rfl
set_option maxRecDepth 20000 in
theorem q_170 : (Jvm.Cond.methodLinkNest "BoilerDesk" (32 : Nat) ({ cls := "BoilerDesk$Machines", name := "<init>", desc := "()V" } : Jvm.MethodName) "BoilerDesk") ∈ lw_st := st_in (List.mem_append_right _ (List.mem_append_left _ (List.mem_of_getElem? (i := 138) rfl))) rfl
set_option maxRecDepth 20000 in
theorem q_171 : (Jvm.Cond.instanceMethod ({ cls := "BoilerDesk$Machines", name := "<init>", desc := "()V" } : Jvm.MethodName)) ∈ lw_st := st_in (List.mem_append_right _ (List.mem_append_left _ (List.mem_of_getElem? (i := 139) rfl))) rfl
set_option maxRecDepth 20000 in
theorem q_172 : (Jvm.Cond.code ({ cls := "BoilerDesk$Machines", name := "<init>", desc := "()V" } : Jvm.MethodName) prog_3_method_1_code (1 : Nat) (Option.none : Option Jvm.ClassFile.FieldType)) ∈ lw_st := st_in (List.mem_append_right _ (List.mem_append_left _ (List.mem_of_getElem? (i := 140) rfl))) rfl
set_option maxRecDepth 20000 in
theorem q_173 : (Jvm.Cond.methodLink "BoilerDesk$Machines" (3 : Nat) ({ cls := "java/lang/Object", name := "<init>", desc := "()V" } : Jvm.MethodName)) ∈ lw_st := st_in (List.mem_append_right _ (List.mem_append_left _ (List.mem_of_getElem? (i := 141) rfl))) rfl
set_option maxRecDepth 20000 in
theorem q_174 : (Jvm.Cond.fieldLink "BoilerDesk$Machines" (9 : Nat) "BoilerDesk$Machines" "pumpsOn" "I") ∈ lw_st := st_in (List.mem_append_right _ (List.mem_append_left _ (List.mem_of_getElem? (i := 142) rfl))) rfl
set_option maxRecDepth 20000 in
theorem q_175 : (Jvm.Cond.fieldLink "BoilerDesk" (188 : Nat) "BoilerDesk$Machines" "pumpsOn" "I") ∈ lw_st := st_in (List.mem_append_right _ (List.mem_append_left _ (List.mem_of_getElem? (i := 143) rfl))) rfl
set_option maxRecDepth 20000 in
theorem q_176 : (Jvm.Cond.fieldLink "BoilerDesk$Machines" (15 : Nat) "BoilerDesk$Machines" "pumpsOnBefore" "I") ∈ lw_st := st_in (List.mem_append_right _ (List.mem_append_left _ (List.mem_of_getElem? (i := 144) rfl))) rfl
set_option maxRecDepth 20000 in
theorem q_177 : (Jvm.Cond.fieldLink "BoilerDesk" (312 : Nat) "BoilerDesk$Machines" "pumpsOnBefore" "I") ∈ lw_st := st_in (List.mem_append_right _ (List.mem_append_left _ (List.mem_of_getElem? (i := 145) rfl))) rfl
set_option maxRecDepth 20000 in
theorem q_178 : (Jvm.Cond.fieldLink "BoilerDesk$Machines" (18 : Nat) "BoilerDesk$Machines" "pumpsSaidGivingBefore" "I") ∈ lw_st := st_in (List.mem_append_right _ (List.mem_append_left _ (List.mem_of_getElem? (i := 146) rfl))) rfl
set_option maxRecDepth 20000 in
theorem q_179 : (Jvm.Cond.fieldLink "BoilerDesk$Machines" (25 : Nat) "BoilerDesk$Machines" "valveOpen" "Z") ∈ lw_st := st_in (List.mem_append_right _ (List.mem_append_left _ (List.mem_of_getElem? (i := 147) rfl))) rfl
set_option maxRecDepth 20000 in
theorem q_180 : (Jvm.Cond.fieldLink "BoilerDesk" (191 : Nat) "BoilerDesk$Machines" "valveOpen" "Z") ∈ lw_st := st_in (List.mem_append_right _ (List.mem_append_left _ (List.mem_of_getElem? (i := 148) rfl))) rfl
set_option maxRecDepth 20000 in
theorem q_181 : (Jvm.Cond.lays "BoilerDesk$Machines" "BoilerDesk$Machines" "pumpsOn" "I") ∈ lw_st := st_in (List.mem_append_right _ (List.mem_append_left _ (List.mem_of_getElem? (i := 149) rfl))) rfl
set_option maxRecDepth 20000 in
theorem q_183 : (Jvm.Cond.lays "BoilerDesk$Machines" "BoilerDesk$Machines" "pumpsOnBefore" "I") ∈ lw_st := st_in (List.mem_append_right _ (List.mem_append_left _ (List.mem_of_getElem? (i := 151) rfl))) rfl
set_option maxRecDepth 20000 in
theorem q_185 : (Jvm.Cond.lays "BoilerDesk$Machines" "BoilerDesk$Machines" "pumpsSaidGivingBefore" "I") ∈ lw_st := st_in (List.mem_append_right _ (List.mem_append_left _ (List.mem_of_getElem? (i := 153) rfl))) rfl
set_option maxRecDepth 20000 in
theorem q_187 : (Jvm.Cond.lays "BoilerDesk$Machines" "BoilerDesk$Machines" "valveOpen" "Z") ∈ lw_st := st_in (List.mem_append_right _ (List.mem_append_left _ (List.mem_of_getElem? (i := 155) rfl))) rfl
set_option maxRecDepth 20000 in
theorem q_190 : (Jvm.Cond.classLink "BoilerDesk" (37 : Nat) "BoilerDesk$Report") ∈ lw_st := st_in (List.mem_append_right _ (List.mem_append_left _ (List.mem_of_getElem? (i := 158) rfl))) rfl
set_option maxRecDepth 20000 in
theorem q_191 : (Jvm.Cond.instantiable "BoilerDesk$Report" (7 : Nat)) ∈ lw_st := st_in (List.mem_append_right _ (List.mem_append_left _ (List.mem_of_getElem? (i := 159) rfl))) rfl
set_option maxRecDepth 20000 in
theorem q_192 : (Jvm.Cond.methodLinkNest "BoilerDesk" (39 : Nat) ({ cls := "BoilerDesk$Report", name := "<init>", desc := "()V" } : Jvm.MethodName) "BoilerDesk") ∈ lw_st := st_in (List.mem_append_right _ (List.mem_append_left _ (List.mem_of_getElem? (i := 160) rfl))) rfl
set_option maxRecDepth 20000 in
theorem q_193 : (Jvm.Cond.instanceMethod ({ cls := "BoilerDesk$Report", name := "<init>", desc := "()V" } : Jvm.MethodName)) ∈ lw_st := st_in (List.mem_append_right _ (List.mem_append_left _ (List.mem_of_getElem? (i := 161) rfl))) rfl
set_option maxRecDepth 20000 in
theorem q_194 : (Jvm.Cond.code ({ cls := "BoilerDesk$Report", name := "<init>", desc := "()V" } : Jvm.MethodName) prog_5_method_1_code (1 : Nat) (Option.none : Option Jvm.ClassFile.FieldType)) ∈ lw_st := st_in (List.mem_append_right _ (List.mem_append_left _ (List.mem_of_getElem? (i := 162) rfl))) rfl
set_option maxRecDepth 20000 in
theorem q_195 : (Jvm.Cond.methodLink "BoilerDesk$Report" (1 : Nat) ({ cls := "java/lang/Object", name := "<init>", desc := "()V" } : Jvm.MethodName)) ∈ lw_st := st_in (List.mem_append_right _ (List.mem_append_left _ (List.mem_of_getElem? (i := 163) rfl))) rfl
set_option maxRecDepth 20000 in
theorem q_196 : (Jvm.Cond.fieldLink "BoilerDesk$Report" (7 : Nat) "BoilerDesk$Report" "pumpsTurnedOn" "I") ∈ lw_st := st_in (List.mem_append_right _ (List.mem_append_left _ (List.mem_of_getElem? (i := 164) rfl))) rfl
set_option maxRecDepth 20000 in
theorem q_197 : (Jvm.Cond.fieldLink "BoilerDesk" (153 : Nat) "BoilerDesk$Report" "pumpsTurnedOn" "I") ∈ lw_st := st_in (List.mem_append_right _ (List.mem_append_left _ (List.mem_of_getElem? (i := 165) rfl))) rfl
set_option maxRecDepth 20000 in
theorem q_198 : (Jvm.Cond.fieldLink "BoilerDesk$Report" (13 : Nat) "BoilerDesk$Report" "pumpsShut" "I") ∈ lw_st := st_in (List.mem_append_right _ (List.mem_append_left _ (List.mem_of_getElem? (i := 166) rfl))) rfl
set_option maxRecDepth 20000 in
theorem q_199 : (Jvm.Cond.fieldLink "BoilerDesk" (156 : Nat) "BoilerDesk$Report" "pumpsShut" "I") ∈ lw_st := st_in (List.mem_append_right _ (List.mem_append_left _ (List.mem_of_getElem? (i := 167) rfl))) rfl
set_option maxRecDepth 20000 in
theorem q_200 : (Jvm.Cond.fieldLink "BoilerDesk$Report" (16 : Nat) "BoilerDesk$Report" "valveOpened" "Z") ∈ lw_st := st_in (List.mem_append_right _ (List.mem_append_left _ (List.mem_of_getElem? (i := 168) rfl))) rfl
set_option maxRecDepth 20000 in
theorem q_201 : (Jvm.Cond.fieldLink "BoilerDesk" (159 : Nat) "BoilerDesk$Report" "valveOpened" "Z") ∈ lw_st := st_in (List.mem_append_right _ (List.mem_append_left _ (List.mem_of_getElem? (i := 169) rfl))) rfl
set_option maxRecDepth 20000 in
theorem q_202 : (Jvm.Cond.fieldLink "BoilerDesk$Report" (20 : Nat) "BoilerDesk$Report" "valveShut" "Z") ∈ lw_st := st_in (List.mem_append_right _ (List.mem_append_left _ (List.mem_of_getElem? (i := 170) rfl))) rfl
set_option maxRecDepth 20000 in
theorem q_203 : (Jvm.Cond.fieldLink "BoilerDesk" (162 : Nat) "BoilerDesk$Report" "valveShut" "Z") ∈ lw_st := st_in (List.mem_append_right _ (List.mem_append_left _ (List.mem_of_getElem? (i := 171) rfl))) rfl
set_option maxRecDepth 20000 in
theorem q_204 : (Jvm.Cond.fieldLink "BoilerDesk$Report" (23 : Nat) "BoilerDesk$Report" "detected" "I") ∈ lw_st := st_in (List.mem_append_right _ (List.mem_append_left _ (List.mem_of_getElem? (i := 172) rfl))) rfl
set_option maxRecDepth 20000 in
theorem q_205 : (Jvm.Cond.fieldLink "BoilerDesk" (165 : Nat) "BoilerDesk$Report" "detected" "I") ∈ lw_st := st_in (List.mem_append_right _ (List.mem_append_left _ (List.mem_of_getElem? (i := 173) rfl))) rfl
set_option maxRecDepth 20000 in
theorem q_206 : (Jvm.Cond.fieldLink "BoilerDesk$Report" (26 : Nat) "BoilerDesk$Report" "repaired" "I") ∈ lw_st := st_in (List.mem_append_right _ (List.mem_append_left _ (List.mem_of_getElem? (i := 174) rfl))) rfl
set_option maxRecDepth 20000 in
theorem q_207 : (Jvm.Cond.fieldLink "BoilerDesk" (168 : Nat) "BoilerDesk$Report" "repaired" "I") ∈ lw_st := st_in (List.mem_append_right _ (List.mem_append_left _ (List.mem_of_getElem? (i := 175) rfl))) rfl
set_option maxRecDepth 20000 in
theorem q_208 : (Jvm.Cond.fieldLink "BoilerDesk$Report" (29 : Nat) "BoilerDesk$Report" "programReady" "Z") ∈ lw_st := st_in (List.mem_append_right _ (List.mem_append_left _ (List.mem_of_getElem? (i := 176) rfl))) rfl
set_option maxRecDepth 20000 in
theorem q_209 : (Jvm.Cond.fieldLink "BoilerDesk" (171 : Nat) "BoilerDesk$Report" "programReady" "Z") ∈ lw_st := st_in (List.mem_append_right _ (List.mem_append_left _ (List.mem_of_getElem? (i := 177) rfl))) rfl
set_option maxRecDepth 20000 in
theorem q_210 : (Jvm.Cond.lays "BoilerDesk$Report" "BoilerDesk$Report" "pumpsTurnedOn" "I") ∈ lw_st := st_in (List.mem_append_right _ (List.mem_append_left _ (List.mem_of_getElem? (i := 178) rfl))) rfl
set_option maxRecDepth 20000 in
theorem q_212 : (Jvm.Cond.lays "BoilerDesk$Report" "BoilerDesk$Report" "pumpsShut" "I") ∈ lw_st := st_in (List.mem_append_right _ (List.mem_append_left _ (List.mem_of_getElem? (i := 180) rfl))) rfl
set_option maxRecDepth 20000 in
theorem q_214 : (Jvm.Cond.lays "BoilerDesk$Report" "BoilerDesk$Report" "valveOpened" "Z") ∈ lw_st := st_in (List.mem_append_right _ (List.mem_append_left _ (List.mem_of_getElem? (i := 182) rfl))) rfl
set_option maxRecDepth 20000 in
theorem q_216 : (Jvm.Cond.lays "BoilerDesk$Report" "BoilerDesk$Report" "valveShut" "Z") ∈ lw_st := st_in (List.mem_append_right _ (List.mem_append_left _ (List.mem_of_getElem? (i := 184) rfl))) rfl
set_option maxRecDepth 20000 in
theorem q_218 : (Jvm.Cond.lays "BoilerDesk$Report" "BoilerDesk$Report" "detected" "I") ∈ lw_st := st_in (List.mem_append_right _ (List.mem_append_left _ (List.mem_of_getElem? (i := 186) rfl))) rfl
set_option maxRecDepth 20000 in
theorem q_220 : (Jvm.Cond.lays "BoilerDesk$Report" "BoilerDesk$Report" "repaired" "I") ∈ lw_st := st_in (List.mem_append_right _ (List.mem_append_left _ (List.mem_of_getElem? (i := 188) rfl))) rfl
set_option maxRecDepth 20000 in
theorem q_222 : (Jvm.Cond.lays "BoilerDesk$Report" "BoilerDesk$Report" "programReady" "Z") ∈ lw_st := st_in (List.mem_append_right _ (List.mem_append_left _ (List.mem_of_getElem? (i := 190) rfl))) rfl
set_option maxRecDepth 20000 in
theorem q_225 : (Jvm.Cond.classLink "BoilerDesk" (44 : Nat) "BoilerDesk$Span") ∈ lw_st := st_in (List.mem_append_right _ (List.mem_append_left _ (List.mem_of_getElem? (i := 193) rfl))) rfl
set_option maxRecDepth 20000 in
theorem q_226 : (Jvm.Cond.instantiable "BoilerDesk$Span" (2 : Nat)) ∈ lw_st := st_in (List.mem_append_right _ (List.mem_append_left _ (List.mem_of_getElem? (i := 194) rfl))) rfl
set_option maxRecDepth 20000 in
theorem q_227 : (Jvm.Cond.methodLinkNest "BoilerDesk" (46 : Nat) ({ cls := "BoilerDesk$Span", name := "<init>", desc := "()V" } : Jvm.MethodName) "BoilerDesk") ∈ lw_st := st_in (List.mem_append_right _ (List.mem_append_left _ (List.mem_of_getElem? (i := 195) rfl))) rfl
set_option maxRecDepth 20000 in
theorem q_228 : (Jvm.Cond.instanceMethod ({ cls := "BoilerDesk$Span", name := "<init>", desc := "()V" } : Jvm.MethodName)) ∈ lw_st := st_in (List.mem_append_right _ (List.mem_append_left _ (List.mem_of_getElem? (i := 196) rfl))) rfl
set_option maxRecDepth 20000 in
theorem q_229 : (Jvm.Cond.code ({ cls := "BoilerDesk$Span", name := "<init>", desc := "()V" } : Jvm.MethodName) prog_6_method_1_code (1 : Nat) (Option.none : Option Jvm.ClassFile.FieldType)) ∈ lw_st := st_in (List.mem_append_right _ (List.mem_append_left _ (List.mem_of_getElem? (i := 197) rfl))) rfl
set_option maxRecDepth 20000 in
theorem q_230 : (Jvm.Cond.methodLink "BoilerDesk$Span" (1 : Nat) ({ cls := "java/lang/Object", name := "<init>", desc := "()V" } : Jvm.MethodName)) ∈ lw_st := st_in (List.mem_append_right _ (List.mem_append_left _ (List.mem_of_getElem? (i := 198) rfl))) rfl
set_option maxRecDepth 20000 in
theorem q_231 : (Jvm.Cond.fieldLink "BoilerDesk$Span" (7 : Nat) "BoilerDesk$Span" "from" "I") ∈ lw_st := st_in (List.mem_append_right _ (List.mem_append_left _ (List.mem_of_getElem? (i := 199) rfl))) rfl
set_option maxRecDepth 20000 in
theorem q_232 : (Jvm.Cond.fieldLink "BoilerDesk" (176 : Nat) "BoilerDesk$Span" "from" "I") ∈ lw_st := st_in (List.mem_append_right _ (List.mem_append_left _ (List.mem_of_getElem? (i := 200) rfl))) rfl
set_option maxRecDepth 20000 in
theorem q_233 : (Jvm.Cond.fieldLink "BoilerDesk$Span" (13 : Nat) "BoilerDesk$Span" "to" "I") ∈ lw_st := st_in (List.mem_append_right _ (List.mem_append_left _ (List.mem_of_getElem? (i := 201) rfl))) rfl
set_option maxRecDepth 20000 in
theorem q_234 : (Jvm.Cond.fieldLink "BoilerDesk" (179 : Nat) "BoilerDesk$Span" "to" "I") ∈ lw_st := st_in (List.mem_append_right _ (List.mem_append_left _ (List.mem_of_getElem? (i := 202) rfl))) rfl
set_option maxRecDepth 20000 in
theorem q_235 : (Jvm.Cond.lays "BoilerDesk$Span" "BoilerDesk$Span" "from" "I") ∈ lw_st := st_in (List.mem_append_right _ (List.mem_append_left _ (List.mem_of_getElem? (i := 203) rfl))) rfl
set_option maxRecDepth 20000 in
theorem q_237 : (Jvm.Cond.lays "BoilerDesk$Span" "BoilerDesk$Span" "to" "I") ∈ lw_st := st_in (List.mem_append_right _ (List.mem_append_left _ (List.mem_of_getElem? (i := 205) rfl))) rfl
set_option maxRecDepth 20000 in
theorem q_240 : (Jvm.Cond.methodLink "BoilerDesk" (60 : Nat) ({ cls := "BoilerDesk$Plant", name := "setLimits", desc := "(IIIII)V" } : Jvm.MethodName)) ∈ lw_st := st_in (List.mem_append_right _ (List.mem_append_left _ (List.mem_of_getElem? (i := 208) rfl))) rfl
set_option maxRecDepth 20000 in
theorem q_241 : (Jvm.Cond.instanceMethod ({ cls := "BoilerDesk$Plant", name := "setLimits", desc := "(IIIII)V" } : Jvm.MethodName)) ∈ lw_st := st_in (List.mem_append_right _ (List.mem_append_left _ (List.mem_of_getElem? (i := 209) rfl))) rfl
set_option maxRecDepth 20000 in
theorem q_242 : (Jvm.Cond.selects "BoilerDesk$Plant" ({ cls := "BoilerDesk$Plant", name := "setLimits", desc := "(IIIII)V" } : Jvm.MethodName) ({ cls := "BoilerDesk$Plant", name := "setLimits", desc := "(IIIII)V" } : Jvm.MethodName)) ∈ lw_st := st_in (List.mem_append_right _ (List.mem_append_left _ (List.mem_of_getElem? (i := 210) rfl))) rfl
set_option maxRecDepth 20000 in
theorem q_243 : (Jvm.Cond.code ({ cls := "BoilerDesk$Plant", name := "setLimits", desc := "(IIIII)V" } : Jvm.MethodName) prog_4_method_2_code (6 : Nat) (Option.none : Option Jvm.ClassFile.FieldType)) ∈ lw_st := st_in (List.mem_append_right _ (List.mem_append_left _ (List.mem_of_getElem? (i := 211) rfl))) rfl
set_option maxRecDepth 20000 in
theorem q_244 : (Jvm.Cond.methodLink "BoilerDesk" (64 : Nat) ({ cls := "BoilerDesk$Plant", name := "setRates", desc := "(IIII)V" } : Jvm.MethodName)) ∈ lw_st := st_in (List.mem_append_right _ (List.mem_append_left _ (List.mem_of_getElem? (i := 212) rfl))) rfl
set_option maxRecDepth 20000 in
theorem q_245 : (Jvm.Cond.instanceMethod ({ cls := "BoilerDesk$Plant", name := "setRates", desc := "(IIII)V" } : Jvm.MethodName)) ∈ lw_st := st_in (List.mem_append_right _ (List.mem_append_left _ (List.mem_of_getElem? (i := 213) rfl))) rfl
set_option maxRecDepth 20000 in
theorem q_246 : (Jvm.Cond.selects "BoilerDesk$Plant" ({ cls := "BoilerDesk$Plant", name := "setRates", desc := "(IIII)V" } : Jvm.MethodName) ({ cls := "BoilerDesk$Plant", name := "setRates", desc := "(IIII)V" } : Jvm.MethodName)) ∈ lw_st := st_in (List.mem_append_right _ (List.mem_append_left _ (List.mem_of_getElem? (i := 214) rfl))) rfl
set_option maxRecDepth 20000 in
theorem q_247 : (Jvm.Cond.code ({ cls := "BoilerDesk$Plant", name := "setRates", desc := "(IIII)V" } : Jvm.MethodName) prog_4_method_3_code (5 : Nat) (Option.none : Option Jvm.ClassFile.FieldType)) ∈ lw_st := st_in (List.mem_append_right _ (List.mem_append_left _ (List.mem_of_getElem? (i := 215) rfl))) rfl
set_option maxRecDepth 20000 in
theorem q_248 : (Jvm.Cond.methodLink "BoilerDesk" (68 : Nat) ({ cls := "BoilerDesk", name := "startAnew", desc := "()V" } : Jvm.MethodName)) ∈ lw_st := st_in (List.mem_append_right _ (List.mem_append_left _ (List.mem_of_getElem? (i := 216) rfl))) rfl
set_option maxRecDepth 20000 in
theorem q_250 : (Jvm.Cond.instanceMethod ({ cls := "BoilerDesk", name := "startAnew", desc := "()V" } : Jvm.MethodName)) ∈ lw_st := st_in (List.mem_append_right _ (List.mem_append_left _ (List.mem_of_getElem? (i := 218) rfl))) rfl
set_option maxRecDepth 20000 in
theorem q_251 : (Jvm.Cond.code ({ cls := "BoilerDesk", name := "startAnew", desc := "()V" } : Jvm.MethodName) prog_1_method_13_code (1 : Nat) (Option.none : Option Jvm.ClassFile.FieldType)) ∈ lw_st := st_in (List.mem_append_right _ (List.mem_append_left _ (List.mem_of_getElem? (i := 219) rfl))) rfl
set_option maxRecDepth 20000 in
theorem q_252 : (Jvm.Cond.methodLink "BoilerDesk" (152 : Nat) ({ cls := "BoilerDesk$Inbox", name := "clear", desc := "()V" } : Jvm.MethodName)) ∈ lw_st := st_in (List.mem_append_right _ (List.mem_append_left _ (List.mem_of_getElem? (i := 220) rfl))) rfl
set_option maxRecDepth 20000 in
theorem q_253 : (Jvm.Cond.instanceMethod ({ cls := "BoilerDesk$Inbox", name := "clear", desc := "()V" } : Jvm.MethodName)) ∈ lw_st := st_in (List.mem_append_right _ (List.mem_append_left _ (List.mem_of_getElem? (i := 221) rfl))) rfl
set_option maxRecDepth 20000 in
theorem q_254 : (Jvm.Cond.selects "BoilerDesk$Inbox" ({ cls := "BoilerDesk$Inbox", name := "clear", desc := "()V" } : Jvm.MethodName) ({ cls := "BoilerDesk$Inbox", name := "clear", desc := "()V" } : Jvm.MethodName)) ∈ lw_st := st_in (List.mem_append_right _ (List.mem_append_left _ (List.mem_of_getElem? (i := 222) rfl))) rfl
set_option maxRecDepth 20000 in
theorem q_255 : (Jvm.Cond.code ({ cls := "BoilerDesk$Inbox", name := "clear", desc := "()V" } : Jvm.MethodName) prog_2_method_3_code (1 : Nat) (Option.none : Option Jvm.ClassFile.FieldType)) ∈ lw_st := st_in (List.mem_append_right _ (List.mem_append_left _ (List.mem_of_getElem? (i := 223) rfl))) rfl
set_option maxRecDepth 20000 in
theorem q_256 : (Jvm.Cond.methodLink "BoilerDesk" (207 : Nat) ({ cls := "BoilerDesk$Units", name := "clear", desc := "()V" } : Jvm.MethodName)) ∈ lw_st := st_in (List.mem_append_right _ (List.mem_append_left _ (List.mem_of_getElem? (i := 224) rfl))) rfl
set_option maxRecDepth 20000 in
theorem q_257 : (Jvm.Cond.instanceMethod ({ cls := "BoilerDesk$Units", name := "clear", desc := "()V" } : Jvm.MethodName)) ∈ lw_st := st_in (List.mem_append_right _ (List.mem_append_left _ (List.mem_of_getElem? (i := 225) rfl))) rfl
set_option maxRecDepth 20000 in
theorem q_258 : (Jvm.Cond.selects "BoilerDesk$Units" ({ cls := "BoilerDesk$Units", name := "clear", desc := "()V" } : Jvm.MethodName) ({ cls := "BoilerDesk$Units", name := "clear", desc := "()V" } : Jvm.MethodName)) ∈ lw_st := st_in (List.mem_append_right _ (List.mem_append_left _ (List.mem_of_getElem? (i := 226) rfl))) rfl
set_option maxRecDepth 20000 in
theorem q_259 : (Jvm.Cond.code ({ cls := "BoilerDesk$Units", name := "clear", desc := "()V" } : Jvm.MethodName) prog_7_method_7_code (1 : Nat) (Option.none : Option Jvm.ClassFile.FieldType)) ∈ lw_st := st_in (List.mem_append_right _ (List.mem_append_left _ (List.mem_of_getElem? (i := 227) rfl))) rfl
set_option maxRecDepth 20000 in
theorem q_260 : (Jvm.Cond.methodLink "BoilerDesk" (208 : Nat) ({ cls := "BoilerDesk$Machines", name := "clear", desc := "()V" } : Jvm.MethodName)) ∈ lw_st := st_in (List.mem_append_right _ (List.mem_append_left _ (List.mem_of_getElem? (i := 228) rfl))) rfl
set_option maxRecDepth 20000 in
theorem q_261 : (Jvm.Cond.instanceMethod ({ cls := "BoilerDesk$Machines", name := "clear", desc := "()V" } : Jvm.MethodName)) ∈ lw_st := st_in (List.mem_append_right _ (List.mem_append_left _ (List.mem_of_getElem? (i := 229) rfl))) rfl
set_option maxRecDepth 20000 in
theorem q_262 : (Jvm.Cond.selects "BoilerDesk$Machines" ({ cls := "BoilerDesk$Machines", name := "clear", desc := "()V" } : Jvm.MethodName) ({ cls := "BoilerDesk$Machines", name := "clear", desc := "()V" } : Jvm.MethodName)) ∈ lw_st := st_in (List.mem_append_right _ (List.mem_append_left _ (List.mem_of_getElem? (i := 230) rfl))) rfl
set_option maxRecDepth 20000 in
theorem q_263 : (Jvm.Cond.code ({ cls := "BoilerDesk$Machines", name := "clear", desc := "()V" } : Jvm.MethodName) prog_3_method_6_code (1 : Nat) (Option.none : Option Jvm.ClassFile.FieldType)) ∈ lw_st := st_in (List.mem_append_right _ (List.mem_append_left _ (List.mem_of_getElem? (i := 231) rfl))) rfl
set_option maxRecDepth 20000 in
theorem q_264 : (Jvm.Cond.methodLink "BoilerDesk" (143 : Nat) ({ cls := "BoilerDesk$Report", name := "clear", desc := "()V" } : Jvm.MethodName)) ∈ lw_st := st_in (List.mem_append_right _ (List.mem_append_left _ (List.mem_of_getElem? (i := 232) rfl))) rfl
set_option maxRecDepth 20000 in
theorem q_265 : (Jvm.Cond.instanceMethod ({ cls := "BoilerDesk$Report", name := "clear", desc := "()V" } : Jvm.MethodName)) ∈ lw_st := st_in (List.mem_append_right _ (List.mem_append_left _ (List.mem_of_getElem? (i := 233) rfl))) rfl
set_option maxRecDepth 20000 in
theorem q_266 : (Jvm.Cond.selects "BoilerDesk$Report" ({ cls := "BoilerDesk$Report", name := "clear", desc := "()V" } : Jvm.MethodName) ({ cls := "BoilerDesk$Report", name := "clear", desc := "()V" } : Jvm.MethodName)) ∈ lw_st := st_in (List.mem_append_right _ (List.mem_append_left _ (List.mem_of_getElem? (i := 234) rfl))) rfl
set_option maxRecDepth 20000 in
theorem q_267 : (Jvm.Cond.code ({ cls := "BoilerDesk$Report", name := "clear", desc := "()V" } : Jvm.MethodName) prog_5_method_2_code (1 : Nat) (Option.none : Option Jvm.ClassFile.FieldType)) ∈ lw_st := st_in (List.mem_append_right _ (List.mem_append_left _ (List.mem_of_getElem? (i := 235) rfl))) rfl
set_option maxRecDepth 20000 in
theorem q_268 : (Jvm.Cond.methodLink "BoilerDesk" (212 : Nat) ({ cls := "BoilerDesk$Span", name := "put", desc := "(II)V" } : Jvm.MethodName)) ∈ lw_st := st_in (List.mem_append_right _ (List.mem_append_left _ (List.mem_of_getElem? (i := 236) rfl))) rfl
set_option maxRecDepth 20000 in
theorem q_269 : (Jvm.Cond.instanceMethod ({ cls := "BoilerDesk$Span", name := "put", desc := "(II)V" } : Jvm.MethodName)) ∈ lw_st := st_in (List.mem_append_right _ (List.mem_append_left _ (List.mem_of_getElem? (i := 237) rfl))) rfl
set_option maxRecDepth 20000 in
theorem q_270 : (Jvm.Cond.selects "BoilerDesk$Span" ({ cls := "BoilerDesk$Span", name := "put", desc := "(II)V" } : Jvm.MethodName) ({ cls := "BoilerDesk$Span", name := "put", desc := "(II)V" } : Jvm.MethodName)) ∈ lw_st := st_in (List.mem_append_right _ (List.mem_append_left _ (List.mem_of_getElem? (i := 238) rfl))) rfl
set_option maxRecDepth 20000 in
theorem q_271 : (Jvm.Cond.code ({ cls := "BoilerDesk$Span", name := "put", desc := "(II)V" } : Jvm.MethodName) prog_6_method_2_code (3 : Nat) (Option.none : Option Jvm.ClassFile.FieldType)) ∈ lw_st := st_in (List.mem_append_right _ (List.mem_append_left _ (List.mem_of_getElem? (i := 239) rfl))) rfl
set_option maxRecDepth 20000 in
theorem q_272 : (Jvm.Cond.fieldLink "BoilerDesk" (12 : Nat) "BoilerDesk" "plant" "LBoilerDesk$Plant;") ∈ lw_st := st_in (List.mem_append_right _ (List.mem_append_right _ (List.mem_append_left _ (List.mem_of_getElem? (i := 0) rfl)))) rfl
set_option maxRecDepth 20000 in
theorem q_273 : (Jvm.Cond.fieldLink "BoilerDesk" (19 : Nat) "BoilerDesk" "inbox" "LBoilerDesk$Inbox;") ∈ lw_st := st_in (List.mem_append_right _ (List.mem_append_right _ (List.mem_append_left _ (List.mem_of_getElem? (i := 1) rfl)))) rfl
set_option maxRecDepth 20000 in
theorem q_274 : (Jvm.Cond.fieldLink "BoilerDesk" (26 : Nat) "BoilerDesk" "units" "LBoilerDesk$Units;") ∈ lw_st := st_in (List.mem_append_right _ (List.mem_append_right _ (List.mem_append_left _ (List.mem_of_getElem? (i := 2) rfl)))) rfl
set_option maxRecDepth 20000 in
theorem q_275 : (Jvm.Cond.fieldLink "BoilerDesk" (33 : Nat) "BoilerDesk" "machines" "LBoilerDesk$Machines;") ∈ lw_st := st_in (List.mem_append_right _ (List.mem_append_right _ (List.mem_append_left _ (List.mem_of_getElem? (i := 3) rfl)))) rfl
set_option maxRecDepth 20000 in
theorem q_276 : (Jvm.Cond.fieldLink "BoilerDesk" (40 : Nat) "BoilerDesk" "report" "LBoilerDesk$Report;") ∈ lw_st := st_in (List.mem_append_right _ (List.mem_append_right _ (List.mem_append_left _ (List.mem_of_getElem? (i := 4) rfl)))) rfl
set_option maxRecDepth 20000 in
theorem q_277 : (Jvm.Cond.fieldLink "BoilerDesk" (47 : Nat) "BoilerDesk" "levelEstimate" "LBoilerDesk$Span;") ∈ lw_st := st_in (List.mem_append_right _ (List.mem_append_right _ (List.mem_append_left _ (List.mem_of_getElem? (i := 5) rfl)))) rfl
set_option maxRecDepth 20000 in
theorem q_278 : (Jvm.Cond.fieldLink "BoilerDesk" (51 : Nat) "BoilerDesk" "steamEstimate" "LBoilerDesk$Span;") ∈ lw_st := st_in (List.mem_append_right _ (List.mem_append_right _ (List.mem_append_left _ (List.mem_of_getElem? (i := 6) rfl)))) rfl
set_option maxRecDepth 20000 in
theorem q_279 : (Jvm.Cond.fieldLink "BoilerDesk" (54 : Nat) "BoilerDesk" "levelExpected" "LBoilerDesk$Span;") ∈ lw_st := st_in (List.mem_append_right _ (List.mem_append_right _ (List.mem_append_left _ (List.mem_of_getElem? (i := 7) rfl)))) rfl
set_option maxRecDepth 20000 in
theorem q_280 : (Jvm.Cond.fieldLink "BoilerDesk" (57 : Nat) "BoilerDesk" "steamExpected" "LBoilerDesk$Span;") ∈ lw_st := st_in (List.mem_append_right _ (List.mem_append_right _ (List.mem_append_left _ (List.mem_of_getElem? (i := 8) rfl)))) rfl
set_option maxRecDepth 20000 in
theorem q_281 : (Jvm.Cond.fieldLink "BoilerDesk" (146 : Nat) "BoilerDesk" "mode" "I") ∈ lw_st := st_in (List.mem_append_right _ (List.mem_append_right _ (List.mem_append_left _ (List.mem_of_getElem? (i := 9) rfl)))) rfl
set_option maxRecDepth 20000 in
theorem q_282 : (Jvm.Cond.fieldLink "BoilerDesk" (134 : Nat) "BoilerDesk" "cycles" "I") ∈ lw_st := st_in (List.mem_append_right _ (List.mem_append_right _ (List.mem_append_left _ (List.mem_of_getElem? (i := 10) rfl)))) rfl
set_option maxRecDepth 20000 in
theorem q_283 : (Jvm.Cond.fieldLink "BoilerDesk" (201 : Nat) "BoilerDesk" "stopsInARow" "I") ∈ lw_st := st_in (List.mem_append_right _ (List.mem_append_right _ (List.mem_append_left _ (List.mem_of_getElem? (i := 11) rfl)))) rfl
set_option maxRecDepth 20000 in
theorem q_284 : (Jvm.Cond.fieldLink "BoilerDesk" (204 : Nat) "BoilerDesk" "hasWaited" "Z") ∈ lw_st := st_in (List.mem_append_right _ (List.mem_append_right _ (List.mem_append_left _ (List.mem_of_getElem? (i := 12) rfl)))) rfl
set_option maxRecDepth 20000 in
theorem q_285 : (Jvm.Cond.laysFinal "BoilerDesk" "BoilerDesk" "plant" "LBoilerDesk$Plant;") ∈ lw_st := st_in (List.mem_append_right _ (List.mem_append_right _ (List.mem_append_left _ (List.mem_of_getElem? (i := 13) rfl)))) rfl
set_option maxRecDepth 20000 in
theorem q_287 : (Jvm.Cond.laysFinal "BoilerDesk" "BoilerDesk" "inbox" "LBoilerDesk$Inbox;") ∈ lw_st := st_in (List.mem_append_right _ (List.mem_append_right _ (List.mem_append_left _ (List.mem_of_getElem? (i := 15) rfl)))) rfl
set_option maxRecDepth 20000 in
theorem q_289 : (Jvm.Cond.laysFinal "BoilerDesk" "BoilerDesk" "units" "LBoilerDesk$Units;") ∈ lw_st := st_in (List.mem_append_right _ (List.mem_append_right _ (List.mem_append_left _ (List.mem_of_getElem? (i := 17) rfl)))) rfl
set_option maxRecDepth 20000 in
theorem q_291 : (Jvm.Cond.laysFinal "BoilerDesk" "BoilerDesk" "machines" "LBoilerDesk$Machines;") ∈ lw_st := st_in (List.mem_append_right _ (List.mem_append_right _ (List.mem_append_left _ (List.mem_of_getElem? (i := 19) rfl)))) rfl
set_option maxRecDepth 20000 in
theorem q_293 : (Jvm.Cond.laysFinal "BoilerDesk" "BoilerDesk" "report" "LBoilerDesk$Report;") ∈ lw_st := st_in (List.mem_append_right _ (List.mem_append_right _ (List.mem_append_left _ (List.mem_of_getElem? (i := 21) rfl)))) rfl
set_option maxRecDepth 20000 in
theorem q_295 : (Jvm.Cond.laysFinal "BoilerDesk" "BoilerDesk" "levelEstimate" "LBoilerDesk$Span;") ∈ lw_st := st_in (List.mem_append_right _ (List.mem_append_right _ (List.mem_append_left _ (List.mem_of_getElem? (i := 23) rfl)))) rfl
set_option maxRecDepth 20000 in
theorem q_297 : (Jvm.Cond.laysFinal "BoilerDesk" "BoilerDesk" "steamEstimate" "LBoilerDesk$Span;") ∈ lw_st := st_in (List.mem_append_right _ (List.mem_append_right _ (List.mem_append_left _ (List.mem_of_getElem? (i := 25) rfl)))) rfl
set_option maxRecDepth 20000 in
theorem q_299 : (Jvm.Cond.laysFinal "BoilerDesk" "BoilerDesk" "levelExpected" "LBoilerDesk$Span;") ∈ lw_st := st_in (List.mem_append_right _ (List.mem_append_right _ (List.mem_append_left _ (List.mem_of_getElem? (i := 27) rfl)))) rfl
set_option maxRecDepth 20000 in
theorem q_301 : (Jvm.Cond.laysFinal "BoilerDesk" "BoilerDesk" "steamExpected" "LBoilerDesk$Span;") ∈ lw_st := st_in (List.mem_append_right _ (List.mem_append_right _ (List.mem_append_left _ (List.mem_of_getElem? (i := 29) rfl)))) rfl
set_option maxRecDepth 20000 in
theorem q_303 : (Jvm.Cond.lays "BoilerDesk" "BoilerDesk" "mode" "I") ∈ lw_st := st_in (List.mem_append_right _ (List.mem_append_right _ (List.mem_append_left _ (List.mem_of_getElem? (i := 31) rfl)))) rfl
set_option maxRecDepth 20000 in
theorem q_305 : (Jvm.Cond.lays "BoilerDesk" "BoilerDesk" "cycles" "I") ∈ lw_st := st_in (List.mem_append_right _ (List.mem_append_right _ (List.mem_append_left _ (List.mem_of_getElem? (i := 33) rfl)))) rfl
set_option maxRecDepth 20000 in
theorem q_307 : (Jvm.Cond.lays "BoilerDesk" "BoilerDesk" "stopsInARow" "I") ∈ lw_st := st_in (List.mem_append_right _ (List.mem_append_right _ (List.mem_append_left _ (List.mem_of_getElem? (i := 35) rfl)))) rfl
set_option maxRecDepth 20000 in
theorem q_309 : (Jvm.Cond.lays "BoilerDesk" "BoilerDesk" "hasWaited" "Z") ∈ lw_st := st_in (List.mem_append_right _ (List.mem_append_right _ (List.mem_append_left _ (List.mem_of_getElem? (i := 37) rfl)))) rfl
set_option maxRecDepth 20000 in
theorem q_312 : (Jvm.Cond.methodLink "BoilerDeskLaw" (53 : Nat) ({ cls := "BoilerDesk", name := "level", desc := "(I)V" } : Jvm.MethodName)) ∈ lw_st := st_in (List.mem_append_right _ (List.mem_append_right _ (List.mem_append_left _ (List.mem_of_getElem? (i := 40) rfl)))) rfl
set_option maxRecDepth 20000 in
theorem q_313 : (Jvm.Cond.instanceMethod ({ cls := "BoilerDesk", name := "level", desc := "(I)V" } : Jvm.MethodName)) ∈ lw_st := st_in (List.mem_append_right _ (List.mem_append_right _ (List.mem_append_left _ (List.mem_of_getElem? (i := 41) rfl)))) rfl
set_option maxRecDepth 20000 in
theorem q_314 : (Jvm.Cond.selects "BoilerDesk" ({ cls := "BoilerDesk", name := "level", desc := "(I)V" } : Jvm.MethodName) ({ cls := "BoilerDesk", name := "level", desc := "(I)V" } : Jvm.MethodName)) ∈ lw_st := st_in (List.mem_append_right _ (List.mem_append_right _ (List.mem_append_left _ (List.mem_of_getElem? (i := 42) rfl)))) rfl
set_option maxRecDepth 20000 in
theorem q_315 : (Jvm.Cond.code ({ cls := "BoilerDesk", name := "level", desc := "(I)V" } : Jvm.MethodName) prog_1_method_3_code (2 : Nat) (Option.none : Option Jvm.ClassFile.FieldType)) ∈ lw_st := st_in (List.mem_append_right _ (List.mem_append_right _ (List.mem_append_left _ (List.mem_of_getElem? (i := 43) rfl)))) rfl
set_option maxRecDepth 20000 in
theorem q_316 : (Jvm.Cond.methodLink "BoilerDeskLaw" (57 : Nat) ({ cls := "BoilerDesk", name := "steam", desc := "(I)V" } : Jvm.MethodName)) ∈ lw_st := st_in (List.mem_append_right _ (List.mem_append_right _ (List.mem_append_left _ (List.mem_of_getElem? (i := 44) rfl)))) rfl
set_option maxRecDepth 20000 in
theorem q_317 : (Jvm.Cond.instanceMethod ({ cls := "BoilerDesk", name := "steam", desc := "(I)V" } : Jvm.MethodName)) ∈ lw_st := st_in (List.mem_append_right _ (List.mem_append_right _ (List.mem_append_left _ (List.mem_of_getElem? (i := 45) rfl)))) rfl
set_option maxRecDepth 20000 in
theorem q_318 : (Jvm.Cond.selects "BoilerDesk" ({ cls := "BoilerDesk", name := "steam", desc := "(I)V" } : Jvm.MethodName) ({ cls := "BoilerDesk", name := "steam", desc := "(I)V" } : Jvm.MethodName)) ∈ lw_st := st_in (List.mem_append_right _ (List.mem_append_right _ (List.mem_append_left _ (List.mem_of_getElem? (i := 46) rfl)))) rfl
set_option maxRecDepth 20000 in
theorem q_319 : (Jvm.Cond.code ({ cls := "BoilerDesk", name := "steam", desc := "(I)V" } : Jvm.MethodName) prog_1_method_4_code (2 : Nat) (Option.none : Option Jvm.ClassFile.FieldType)) ∈ lw_st := st_in (List.mem_append_right _ (List.mem_append_right _ (List.mem_append_left _ (List.mem_of_getElem? (i := 47) rfl)))) rfl
set_option maxRecDepth 20000 in
theorem q_320 : (Jvm.Cond.methodLink "BoilerDeskLaw" (44 : Nat) ({ cls := "BoilerDeskLaw", name := "begin", desc := "(LBoilerDesk;IIIIIIIII)I" } : Jvm.MethodName)) ∈ lw_st := st_in (List.mem_append_right _ (List.mem_append_right _ (List.mem_append_left _ (List.mem_of_getElem? (i := 48) rfl)))) rfl
set_option maxRecDepth 20000 in
theorem q_321 : (Jvm.Cond.static ({ cls := "BoilerDeskLaw", name := "begin", desc := "(LBoilerDesk;IIIIIIIII)I" } : Jvm.MethodName)) ∈ lw_st := st_in (List.mem_append_right _ (List.mem_append_right _ (List.mem_append_left _ (List.mem_of_getElem? (i := 49) rfl)))) rfl
set_option maxRecDepth 20000 in
theorem q_322 : (Jvm.Cond.codeWith ({ cls := "BoilerDeskLaw", name := "begin", desc := "(LBoilerDesk;IIIIIIIII)I" } : Jvm.MethodName) method_3_code (11 : Nat) (Option.some Jvm.ClassFile.FieldType.int) [((0 : Nat), (19 : Nat), (22 : Nat), (13 : Nat))]) ∈ lw_st := st_in (List.mem_append_right _ (List.mem_append_right _ (List.mem_append_left _ (List.mem_of_getElem? (i := 50) rfl)))) rfl
set_option maxRecDepth 20000 in
theorem q_323 : (Jvm.Cond.classLink "BoilerDeskLaw" (13 : Nat) "java/lang/IllegalArgumentException") ∈ lw_st := st_in (List.mem_append_right _ (List.mem_append_right _ (List.mem_append_left _ (List.mem_of_getElem? (i := 51) rfl)))) rfl
set_option maxRecDepth 20000 in
theorem q_324 : (Jvm.Cond.methodLink "BoilerDeskLaw" (7 : Nat) ({ cls := "BoilerDesk", name := "begin", desc := "(IIIIIIIII)V" } : Jvm.MethodName)) ∈ lw_st := st_in (List.mem_append_right _ (List.mem_append_right _ (List.mem_append_left _ (List.mem_of_getElem? (i := 52) rfl)))) rfl
set_option maxRecDepth 20000 in
theorem q_325 : (Jvm.Cond.instanceMethod ({ cls := "BoilerDesk", name := "begin", desc := "(IIIIIIIII)V" } : Jvm.MethodName)) ∈ lw_st := st_in (List.mem_append_right _ (List.mem_append_right _ (List.mem_append_left _ (List.mem_of_getElem? (i := 53) rfl)))) rfl
set_option maxRecDepth 20000 in
theorem q_326 : (Jvm.Cond.selects "BoilerDesk" ({ cls := "BoilerDesk", name := "begin", desc := "(IIIIIIIII)V" } : Jvm.MethodName) ({ cls := "BoilerDesk", name := "begin", desc := "(IIIIIIIII)V" } : Jvm.MethodName)) ∈ lw_st := st_in (List.mem_append_right _ (List.mem_append_right _ (List.mem_append_left _ (List.mem_of_getElem? (i := 54) rfl)))) rfl
set_option maxRecDepth 20000 in
theorem q_327 : (Jvm.Cond.code ({ cls := "BoilerDesk", name := "begin", desc := "(IIIIIIIII)V" } : Jvm.MethodName) prog_1_method_2_code (10 : Nat) (Option.none : Option Jvm.ClassFile.FieldType)) ∈ lw_st := st_in (List.mem_append_right _ (List.mem_append_right _ (List.mem_append_left _ (List.mem_of_getElem? (i := 55) rfl)))) rfl
set_option maxRecDepth 20000 in
theorem q_328 : (Jvm.Cond.methodLink "BoilerDesk" (71 : Nat) ({ cls := "BoilerDesk", name := "limitsAreSound", desc := "(IIIII)Z" } : Jvm.MethodName)) ∈ lw_st := st_in (List.mem_append_right _ (List.mem_append_right _ (List.mem_append_left _ (List.mem_of_getElem? (i := 56) rfl)))) rfl
set_option maxRecDepth 20000 in
theorem q_329 : (Jvm.Cond.static ({ cls := "BoilerDesk", name := "limitsAreSound", desc := "(IIIII)Z" } : Jvm.MethodName)) ∈ lw_st := st_in (List.mem_append_right _ (List.mem_append_right _ (List.mem_append_left _ (List.mem_of_getElem? (i := 57) rfl)))) rfl
set_option maxRecDepth 20000 in
theorem q_330 : (Jvm.Cond.code ({ cls := "BoilerDesk", name := "limitsAreSound", desc := "(IIIII)Z" } : Jvm.MethodName) prog_1_method_11_code (5 : Nat) (Option.some Jvm.ClassFile.FieldType.boolean)) ∈ lw_st := st_in (List.mem_append_right _ (List.mem_append_right _ (List.mem_append_left _ (List.mem_of_getElem? (i := 58) rfl)))) rfl
set_option maxRecDepth 20000 in
theorem q_331 : (Jvm.Cond.constant "BoilerDesk" (137 : Nat) (1000000 : Int32)) ∈ lw_st := st_in (List.mem_append_right _ (List.mem_append_right _ (List.mem_append_left _ (List.mem_of_getElem? (i := 59) rfl)))) rfl
set_option maxRecDepth 20000 in
theorem q_332 : (Jvm.Cond.methodLink "BoilerDesk" (75 : Nat) ({ cls := "BoilerDesk", name := "ratesAreSound", desc := "(IIII)Z" } : Jvm.MethodName)) ∈ lw_st := st_in (List.mem_append_right _ (List.mem_append_right _ (List.mem_append_left _ (List.mem_of_getElem? (i := 60) rfl)))) rfl
set_option maxRecDepth 20000 in
theorem q_333 : (Jvm.Cond.static ({ cls := "BoilerDesk", name := "ratesAreSound", desc := "(IIII)Z" } : Jvm.MethodName)) ∈ lw_st := st_in (List.mem_append_right _ (List.mem_append_right _ (List.mem_append_left _ (List.mem_of_getElem? (i := 61) rfl)))) rfl
set_option maxRecDepth 20000 in
theorem q_334 : (Jvm.Cond.code ({ cls := "BoilerDesk", name := "ratesAreSound", desc := "(IIII)Z" } : Jvm.MethodName) prog_1_method_12_code (4 : Nat) (Option.some Jvm.ClassFile.FieldType.boolean)) ∈ lw_st := st_in (List.mem_append_right _ (List.mem_append_right _ (List.mem_append_left _ (List.mem_of_getElem? (i := 62) rfl)))) rfl
set_option maxRecDepth 20000 in
theorem q_335 : (Jvm.Cond.constant "BoilerDesk" (196 : Nat) (100000 : Int32)) ∈ lw_st := st_in (List.mem_append_right _ (List.mem_append_right _ (List.mem_append_left _ (List.mem_of_getElem? (i := 63) rfl)))) rfl
set_option maxRecDepth 20000 in
theorem q_336 : (Jvm.Cond.methodLink "BoilerDesk" (197 : Nat) ({ cls := "BoilerDesk", name := "isWithin", desc := "(III)Z" } : Jvm.MethodName)) ∈ lw_st := st_in (List.mem_append_right _ (List.mem_append_right _ (List.mem_append_left _ (List.mem_of_getElem? (i := 64) rfl)))) rfl
set_option maxRecDepth 20000 in
theorem q_337 : (Jvm.Cond.static ({ cls := "BoilerDesk", name := "isWithin", desc := "(III)Z" } : Jvm.MethodName)) ∈ lw_st := st_in (List.mem_append_right _ (List.mem_append_right _ (List.mem_append_left _ (List.mem_of_getElem? (i := 65) rfl)))) rfl
set_option maxRecDepth 20000 in
theorem q_338 : (Jvm.Cond.code ({ cls := "BoilerDesk", name := "isWithin", desc := "(III)Z" } : Jvm.MethodName) prog_1_method_33_code (3 : Nat) (Option.some Jvm.ClassFile.FieldType.boolean)) ∈ lw_st := st_in (List.mem_append_right _ (List.mem_append_right _ (List.mem_append_left _ (List.mem_of_getElem? (i := 66) rfl)))) rfl
set_option maxRecDepth 20000 in
theorem q_339 : (Jvm.Cond.classLink "BoilerDesk" (79 : Nat) "java/lang/IllegalArgumentException") ∈ lw_st := st_in (List.mem_append_right _ (List.mem_append_right _ (List.mem_append_left _ (List.mem_of_getElem? (i := 67) rfl)))) rfl
set_option maxRecDepth 20000 in
theorem q_340 : (Jvm.Cond.instantiable "java/lang/IllegalArgumentException" (6 : Nat)) ∈ lw_st := st_in (List.mem_append_right _ (List.mem_append_right _ (List.mem_append_left _ (List.mem_of_getElem? (i := 68) rfl)))) rfl
set_option maxRecDepth 20000 in
theorem q_348 : (Jvm.Cond.selects "java/lang/IllegalArgumentException" ({ cls := "java/lang/Throwable", name := "fillInStackTrace", desc := "(I)Ljava/lang/Throwable;" } : Jvm.MethodName) ({ cls := "java/lang/Throwable", name := "fillInStackTrace", desc := "(I)Ljava/lang/Throwable;" } : Jvm.MethodName)) ∈ lw_st := st_in (List.mem_append_right _ (List.mem_append_right _ (List.mem_append_left _ (List.mem_of_getElem? (i := 76) rfl)))) rfl
set_option maxRecDepth 20000 in
theorem q_349 : (Jvm.Cond.selects "java/lang/IllegalArgumentException" ({ cls := "java/lang/Throwable", name := "fillInStackTrace", desc := "()Ljava/lang/Throwable;" } : Jvm.MethodName) ({ cls := "java/lang/Throwable", name := "fillInStackTrace", desc := "()Ljava/lang/Throwable;" } : Jvm.MethodName)) ∈ lw_st := st_in (List.mem_append_right _ (List.mem_append_right _ (List.mem_append_left _ (List.mem_of_getElem? (i := 77) rfl)))) rfl
set_option maxRecDepth 20000 in
theorem q_350 : (Jvm.Cond.lays "java/lang/IllegalArgumentException" "java/lang/Throwable" "cause" "Ljava/lang/Throwable;") ∈ lw_st := st_in (List.mem_append_right _ (List.mem_append_right _ (List.mem_append_left _ (List.mem_of_getElem? (i := 78) rfl)))) rfl
set_option maxRecDepth 20000 in
theorem q_351 : (Jvm.Cond.lays "java/lang/Throwable" "java/lang/Throwable" "cause" "Ljava/lang/Throwable;") ∈ lw_st := st_in (List.mem_append_right _ (List.mem_append_right _ (List.mem_append_left _ (List.mem_of_getElem? (i := 79) rfl)))) rfl
set_option maxRecDepth 20000 in
theorem q_352 : (Jvm.Cond.lays "java/lang/IllegalArgumentException" "java/lang/Throwable" "stackTrace" "[Ljava/lang/StackTraceElement;") ∈ lw_st := st_in (List.mem_append_right _ (List.mem_append_right _ (List.mem_append_left _ (List.mem_of_getElem? (i := 80) rfl)))) rfl
set_option maxRecDepth 20000 in
theorem q_353 : (Jvm.Cond.lays "java/lang/Throwable" "java/lang/Throwable" "stackTrace" "[Ljava/lang/StackTraceElement;") ∈ lw_st := st_in (List.mem_append_right _ (List.mem_append_right _ (List.mem_append_left _ (List.mem_of_getElem? (i := 81) rfl)))) rfl
set_option maxRecDepth 20000 in
theorem q_354 : (Jvm.Cond.lays "java/lang/IllegalArgumentException" "java/lang/Throwable" "suppressedExceptions" "Ljava/util/List;") ∈ lw_st := st_in (List.mem_append_right _ (List.mem_append_right _ (List.mem_append_left _ (List.mem_of_getElem? (i := 82) rfl)))) rfl
set_option maxRecDepth 20000 in
theorem q_355 : (Jvm.Cond.lays "java/lang/Throwable" "java/lang/Throwable" "suppressedExceptions" "Ljava/util/List;") ∈ lw_st := st_in (List.mem_append_right _ (List.mem_append_right _ (List.mem_append_left _ (List.mem_of_getElem? (i := 83) rfl)))) rfl
set_option maxRecDepth 20000 in
theorem q_356 : (Jvm.Cond.lays "java/lang/IllegalArgumentException" "java/lang/Throwable" "detailMessage" "Ljava/lang/String;") ∈ lw_st := st_in (List.mem_append_right _ (List.mem_append_right _ (List.mem_append_left _ (List.mem_of_getElem? (i := 84) rfl)))) rfl
set_option maxRecDepth 20000 in
theorem q_357 : (Jvm.Cond.lays "java/lang/Throwable" "java/lang/Throwable" "detailMessage" "Ljava/lang/String;") ∈ lw_st := st_in (List.mem_append_right _ (List.mem_append_right _ (List.mem_append_left _ (List.mem_of_getElem? (i := 85) rfl)))) rfl
set_option maxRecDepth 20000 in
theorem q_358 : (Jvm.Cond.lays "java/lang/IllegalArgumentException" "java/lang/Throwable" "backtrace" "Ljava/lang/Object;") ∈ lw_st := st_in (List.mem_append_right _ (List.mem_append_right _ (List.mem_append_left _ (List.mem_of_getElem? (i := 86) rfl)))) rfl
set_option maxRecDepth 20000 in
theorem q_359 : (Jvm.Cond.lays "java/lang/Throwable" "java/lang/Throwable" "backtrace" "Ljava/lang/Object;") ∈ lw_st := st_in (List.mem_append_right _ (List.mem_append_right _ (List.mem_append_left _ (List.mem_of_getElem? (i := 87) rfl)))) rfl
set_option maxRecDepth 20000 in
theorem q_360 : (Jvm.Cond.fieldLink "java/lang/Throwable" (198 : Nat) "java/lang/Throwable" "backtrace" "Ljava/lang/Object;") ∈ lw_st := st_in (List.mem_append_right _ (List.mem_append_right _ (List.mem_append_left _ (List.mem_of_getElem? (i := 88) rfl)))) rfl
set_option maxRecDepth 20000 in
theorem q_362 : (Jvm.Cond.instanceMethod ({ cls := "java/lang/Throwable", name := "<init>", desc := "()V" } : Jvm.MethodName)) ∈ lw_st := st_in (List.mem_append_right _ (List.mem_append_right _ (List.mem_append_left _ (List.mem_of_getElem? (i := 90) rfl)))) rfl
set_option maxRecDepth 20000 in
theorem q_363 : (Jvm.Cond.code ({ cls := "java/lang/Throwable", name := "<init>", desc := "()V" } : Jvm.MethodName) prog_17_method_1_code (1 : Nat) (Option.none : Option Jvm.ClassFile.FieldType)) ∈ lw_st := st_in (List.mem_append_right _ (List.mem_append_right _ (List.mem_append_left _ (List.mem_of_getElem? (i := 91) rfl)))) rfl
set_option maxRecDepth 20000 in
theorem q_364 : (Jvm.Cond.methodLink "java/lang/Throwable" (1 : Nat) ({ cls := "java/lang/Object", name := "<init>", desc := "()V" } : Jvm.MethodName)) ∈ lw_st := st_in (List.mem_append_right _ (List.mem_append_right _ (List.mem_append_left _ (List.mem_of_getElem? (i := 92) rfl)))) rfl
set_option maxRecDepth 20000 in
theorem q_365 : (Jvm.Cond.fieldLink "java/lang/Throwable" (13 : Nat) "java/lang/Throwable" "UNASSIGNED_STACK" "[Ljava/lang/StackTraceElement;") ∈ lw_st := st_in (List.mem_append_right _ (List.mem_append_right _ (List.mem_append_left _ (List.mem_of_getElem? (i := 93) rfl)))) rfl
set_option maxRecDepth 20000 in
theorem q_367 : (Jvm.Cond.fieldLink "java/lang/Throwable" (20 : Nat) "java/lang/Throwable" "SUPPRESSED_SENTINEL" "Ljava/util/List;") ∈ lw_st := st_in (List.mem_append_right _ (List.mem_append_right _ (List.mem_append_left _ (List.mem_of_getElem? (i := 95) rfl)))) rfl
set_option maxRecDepth 20000 in
theorem q_369 : (Jvm.Cond.methodLink "java/lang/Throwable" (27 : Nat) ({ cls := "java/lang/Throwable", name := "fillInStackTrace", desc := "()Ljava/lang/Throwable;" } : Jvm.MethodName)) ∈ lw_st := st_in (List.mem_append_right _ (List.mem_append_right _ (List.mem_append_left _ (List.mem_of_getElem? (i := 97) rfl)))) rfl
set_option maxRecDepth 20000 in
theorem q_370 : (Jvm.Cond.instanceMethod ({ cls := "java/lang/Throwable", name := "fillInStackTrace", desc := "()Ljava/lang/Throwable;" } : Jvm.MethodName)) ∈ lw_st := st_in (List.mem_append_right _ (List.mem_append_right _ (List.mem_append_left _ (List.mem_of_getElem? (i := 98) rfl)))) rfl
set_option maxRecDepth 20000 in
theorem q_372 : (Jvm.Cond.selects "java/lang/IllegalStateException" ({ cls := "java/lang/Throwable", name := "fillInStackTrace", desc := "()Ljava/lang/Throwable;" } : Jvm.MethodName) ({ cls := "java/lang/Throwable", name := "fillInStackTrace", desc := "()Ljava/lang/Throwable;" } : Jvm.MethodName)) ∈ lw_st := st_in (List.mem_append_right _ (List.mem_append_right _ (List.mem_append_left _ (List.mem_of_getElem? (i := 100) rfl)))) rfl
set_option maxRecDepth 20000 in
theorem q_374 : (Jvm.Cond.methodLink "java/lang/Throwable" (202 : Nat) ({ cls := "java/lang/Throwable", name := "fillInStackTrace", desc := "(I)Ljava/lang/Throwable;" } : Jvm.MethodName)) ∈ lw_st := st_in (List.mem_append_right _ (List.mem_append_right _ (List.mem_append_left _ (List.mem_of_getElem? (i := 102) rfl)))) rfl
set_option maxRecDepth 20000 in
theorem q_376 : (Jvm.Cond.instanceMethod ({ cls := "java/lang/Throwable", name := "fillInStackTrace", desc := "(I)Ljava/lang/Throwable;" } : Jvm.MethodName)) ∈ lw_st := st_in (List.mem_append_right _ (List.mem_append_right _ (List.mem_append_left _ (List.mem_of_getElem? (i := 104) rfl)))) rfl
set_option maxRecDepth 20000 in
theorem q_377 : (Jvm.Cond.instantiable "java/lang/Throwable" (6 : Nat)) ∈ lw_st := st_in (List.mem_append_right _ (List.mem_append_right _ (List.mem_append_left _ (List.mem_of_getElem? (i := 105) rfl)))) rfl
set_option maxRecDepth 20000 in
theorem q_380 : (Jvm.Cond.methodLink "BoilerDesk" (83 : Nat) ({ cls := "java/lang/IllegalArgumentException", name := "<init>", desc := "(Ljava/lang/String;)V" } : Jvm.MethodName)) ∈ lw_st := st_in (List.mem_append_right _ (List.mem_append_right _ (List.mem_append_left _ (List.mem_of_getElem? (i := 108) rfl)))) rfl
set_option maxRecDepth 20000 in
theorem q_381 : (Jvm.Cond.instanceMethod ({ cls := "java/lang/IllegalArgumentException", name := "<init>", desc := "(Ljava/lang/String;)V" } : Jvm.MethodName)) ∈ lw_st := st_in (List.mem_append_right _ (List.mem_append_right _ (List.mem_append_left _ (List.mem_of_getElem? (i := 109) rfl)))) rfl
set_option maxRecDepth 20000 in
theorem q_382 : (Jvm.Cond.code ({ cls := "java/lang/IllegalArgumentException", name := "<init>", desc := "(Ljava/lang/String;)V" } : Jvm.MethodName) prog_11_method_2_code (2 : Nat) (Option.none : Option Jvm.ClassFile.FieldType)) ∈ lw_st := st_in (List.mem_append_right _ (List.mem_append_right _ (List.mem_append_left _ (List.mem_of_getElem? (i := 110) rfl)))) rfl
set_option maxRecDepth 20000 in
theorem q_383 : (Jvm.Cond.methodLink "java/lang/IllegalArgumentException" (7 : Nat) ({ cls := "java/lang/RuntimeException", name := "<init>", desc := "(Ljava/lang/String;)V" } : Jvm.MethodName)) ∈ lw_st := st_in (List.mem_append_right _ (List.mem_append_right _ (List.mem_append_left _ (List.mem_of_getElem? (i := 111) rfl)))) rfl
set_option maxRecDepth 20000 in
theorem q_384 : (Jvm.Cond.instanceMethod ({ cls := "java/lang/RuntimeException", name := "<init>", desc := "(Ljava/lang/String;)V" } : Jvm.MethodName)) ∈ lw_st := st_in (List.mem_append_right _ (List.mem_append_right _ (List.mem_append_left _ (List.mem_of_getElem? (i := 112) rfl)))) rfl
set_option maxRecDepth 20000 in
theorem q_385 : (Jvm.Cond.code ({ cls := "java/lang/RuntimeException", name := "<init>", desc := "(Ljava/lang/String;)V" } : Jvm.MethodName) prog_15_method_2_code (2 : Nat) (Option.none : Option Jvm.ClassFile.FieldType)) ∈ lw_st := st_in (List.mem_append_right _ (List.mem_append_right _ (List.mem_append_left _ (List.mem_of_getElem? (i := 113) rfl)))) rfl
set_option maxRecDepth 20000 in
theorem q_386 : (Jvm.Cond.methodLink "java/lang/RuntimeException" (7 : Nat) ({ cls := "java/lang/Exception", name := "<init>", desc := "(Ljava/lang/String;)V" } : Jvm.MethodName)) ∈ lw_st := st_in (List.mem_append_right _ (List.mem_append_right _ (List.mem_append_left _ (List.mem_of_getElem? (i := 114) rfl)))) rfl
set_option maxRecDepth 20000 in
theorem q_387 : (Jvm.Cond.instanceMethod ({ cls := "java/lang/Exception", name := "<init>", desc := "(Ljava/lang/String;)V" } : Jvm.MethodName)) ∈ lw_st := st_in (List.mem_append_right _ (List.mem_append_right _ (List.mem_append_left _ (List.mem_of_getElem? (i := 115) rfl)))) rfl
set_option maxRecDepth 20000 in
theorem q_388 : (Jvm.Cond.code ({ cls := "java/lang/Exception", name := "<init>", desc := "(Ljava/lang/String;)V" } : Jvm.MethodName) prog_10_method_2_code (2 : Nat) (Option.none : Option Jvm.ClassFile.FieldType)) ∈ lw_st := st_in (List.mem_append_right _ (List.mem_append_right _ (List.mem_append_left _ (List.mem_of_getElem? (i := 116) rfl)))) rfl
set_option maxRecDepth 20000 in
theorem q_389 : (Jvm.Cond.methodLink "java/lang/Exception" (7 : Nat) ({ cls := "java/lang/Throwable", name := "<init>", desc := "(Ljava/lang/String;)V" } : Jvm.MethodName)) ∈ lw_st := st_in (List.mem_append_right _ (List.mem_append_right _ (List.mem_append_left _ (List.mem_of_getElem? (i := 117) rfl)))) rfl
set_option maxRecDepth 20000 in
theorem q_390 : (Jvm.Cond.instanceMethod ({ cls := "java/lang/Throwable", name := "<init>", desc := "(Ljava/lang/String;)V" } : Jvm.MethodName)) ∈ lw_st := st_in (List.mem_append_right _ (List.mem_append_right _ (List.mem_append_left _ (List.mem_of_getElem? (i := 118) rfl)))) rfl
set_option maxRecDepth 20000 in
theorem q_391 : (Jvm.Cond.code ({ cls := "java/lang/Throwable", name := "<init>", desc := "(Ljava/lang/String;)V" } : Jvm.MethodName) prog_17_method_2_code (2 : Nat) (Option.none : Option Jvm.ClassFile.FieldType)) ∈ lw_st := st_in (List.mem_append_right _ (List.mem_append_right _ (List.mem_append_left _ (List.mem_of_getElem? (i := 119) rfl)))) rfl
set_option maxRecDepth 20000 in
theorem q_392 : (Jvm.Cond.fieldLink "java/lang/Throwable" (198 : Nat) "java/lang/Throwable" "backtrace" "Ljava/lang/Object;") ∈ lw_st := st_in (List.mem_append_right _ (List.mem_append_right _ (List.mem_append_left _ (List.mem_of_getElem? (i := 120) rfl)))) rfl
set_option maxRecDepth 20000 in
theorem q_393 : (Jvm.Cond.fieldLink "java/lang/Throwable" (31 : Nat) "java/lang/Throwable" "detailMessage" "Ljava/lang/String;") ∈ lw_st := st_in (List.mem_append_right _ (List.mem_append_right _ (List.mem_append_left _ (List.mem_of_getElem? (i := 121) rfl)))) rfl
set_option maxRecDepth 20000 in
theorem q_394 : (Jvm.Cond.fieldLink "java/lang/Throwable" (7 : Nat) "java/lang/Throwable" "cause" "Ljava/lang/Throwable;") ∈ lw_st := st_in (List.mem_append_right _ (List.mem_append_right _ (List.mem_append_left _ (List.mem_of_getElem? (i := 122) rfl)))) rfl
set_option maxRecDepth 20000 in
theorem q_395 : (Jvm.Cond.fieldLink "java/lang/Throwable" (17 : Nat) "java/lang/Throwable" "stackTrace" "[Ljava/lang/StackTraceElement;") ∈ lw_st := st_in (List.mem_append_right _ (List.mem_append_right _ (List.mem_append_left _ (List.mem_of_getElem? (i := 123) rfl)))) rfl
set_option maxRecDepth 20000 in
theorem q_396 : (Jvm.Cond.fieldLink "java/lang/Throwable" (24 : Nat) "java/lang/Throwable" "suppressedExceptions" "Ljava/util/List;") ∈ lw_st := st_in (List.mem_append_right _ (List.mem_append_right _ (List.mem_append_left _ (List.mem_of_getElem? (i := 124) rfl)))) rfl
set_option maxRecDepth 20000 in
theorem q_401 : (Jvm.Cond.lays "java/lang/IllegalArgumentException" "java/lang/Throwable" "depth" "I") ∈ lw_st := st_in (List.mem_append_right _ (List.mem_append_right _ (List.mem_append_left _ (List.mem_of_getElem? (i := 129) rfl)))) rfl
set_option maxRecDepth 20000 in
theorem q_405 : (Jvm.Cond.arrayClass Jvm.ClassFile.FieldType.byte) ∈ lw_st := st_in (List.mem_append_right _ (List.mem_append_right _ (List.mem_append_left _ (List.mem_of_getElem? (i := 133) rfl)))) rfl
set_option maxRecDepth 20000 in
theorem q_406 : (Jvm.Cond.methodLink "BoilerDeskLaw" (61 : Nat) ({ cls := "BoilerDeskLaw", name := "pump", desc := "(LBoilerDesk;IZZ)I" } : Jvm.MethodName)) ∈ lw_st := st_in (List.mem_append_right _ (List.mem_append_right _ (List.mem_append_left _ (List.mem_of_getElem? (i := 134) rfl)))) rfl
set_option maxRecDepth 20000 in
theorem q_407 : (Jvm.Cond.static ({ cls := "BoilerDeskLaw", name := "pump", desc := "(LBoilerDesk;IZZ)I" } : Jvm.MethodName)) ∈ lw_st := st_in (List.mem_append_right _ (List.mem_append_right _ (List.mem_append_left _ (List.mem_of_getElem? (i := 135) rfl)))) rfl
set_option maxRecDepth 20000 in
theorem q_408 : (Jvm.Cond.codeWith ({ cls := "BoilerDeskLaw", name := "pump", desc := "(LBoilerDesk;IZZ)I" } : Jvm.MethodName) method_4_code (5 : Nat) (Option.some Jvm.ClassFile.FieldType.int) [((0 : Nat), (7 : Nat), (10 : Nat), (13 : Nat))]) ∈ lw_st := st_in (List.mem_append_right _ (List.mem_append_right _ (List.mem_append_left _ (List.mem_of_getElem? (i := 136) rfl)))) rfl
set_option maxRecDepth 20000 in
theorem q_409 : (Jvm.Cond.methodLink "BoilerDeskLaw" (15 : Nat) ({ cls := "BoilerDesk", name := "pump", desc := "(IZZ)V" } : Jvm.MethodName)) ∈ lw_st := st_in (List.mem_append_right _ (List.mem_append_right _ (List.mem_append_left _ (List.mem_of_getElem? (i := 137) rfl)))) rfl
set_option maxRecDepth 20000 in
theorem q_410 : (Jvm.Cond.instanceMethod ({ cls := "BoilerDesk", name := "pump", desc := "(IZZ)V" } : Jvm.MethodName)) ∈ lw_st := st_in (List.mem_append_right _ (List.mem_append_right _ (List.mem_append_left _ (List.mem_of_getElem? (i := 138) rfl)))) rfl
set_option maxRecDepth 20000 in
theorem q_411 : (Jvm.Cond.selects "BoilerDesk" ({ cls := "BoilerDesk", name := "pump", desc := "(IZZ)V" } : Jvm.MethodName) ({ cls := "BoilerDesk", name := "pump", desc := "(IZZ)V" } : Jvm.MethodName)) ∈ lw_st := st_in (List.mem_append_right _ (List.mem_append_right _ (List.mem_append_left _ (List.mem_of_getElem? (i := 139) rfl)))) rfl
set_option maxRecDepth 20000 in
theorem q_412 : (Jvm.Cond.code ({ cls := "BoilerDesk", name := "pump", desc := "(IZZ)V" } : Jvm.MethodName) prog_1_method_5_code (4 : Nat) (Option.none : Option Jvm.ClassFile.FieldType)) ∈ lw_st := st_in (List.mem_append_right _ (List.mem_append_right _ (List.mem_append_left _ (List.mem_of_getElem? (i := 140) rfl)))) rfl
set_option maxRecDepth 20000 in
theorem q_414 : (Jvm.Cond.methodLink "BoilerDesk" (105 : Nat) ({ cls := "BoilerDesk", name := "withBit", desc := "(IIZ)I" } : Jvm.MethodName)) ∈ lw_st := st_in (List.mem_append_right _ (List.mem_append_right _ (List.mem_append_left _ (List.mem_of_getElem? (i := 142) rfl)))) rfl
set_option maxRecDepth 20000 in
theorem q_415 : (Jvm.Cond.static ({ cls := "BoilerDesk", name := "withBit", desc := "(IIZ)I" } : Jvm.MethodName)) ∈ lw_st := st_in (List.mem_append_right _ (List.mem_append_right _ (List.mem_append_left _ (List.mem_of_getElem? (i := 143) rfl)))) rfl
set_option maxRecDepth 20000 in
theorem q_416 : (Jvm.Cond.code ({ cls := "BoilerDesk", name := "withBit", desc := "(IIZ)I" } : Jvm.MethodName) prog_1_method_35_code (3 : Nat) (Option.some Jvm.ClassFile.FieldType.int)) ∈ lw_st := st_in (List.mem_append_right _ (List.mem_append_right _ (List.mem_append_left _ (List.mem_of_getElem? (i := 144) rfl)))) rfl
set_option maxRecDepth 20000 in
theorem q_417 : (Jvm.Cond.methodLink "BoilerDeskLaw" (65 : Nat) ({ cls := "BoilerDeskLaw", name := "say", desc := "(LBoilerDesk;I)I" } : Jvm.MethodName)) ∈ lw_st := st_in (List.mem_append_right _ (List.mem_append_right _ (List.mem_append_left _ (List.mem_of_getElem? (i := 145) rfl)))) rfl
set_option maxRecDepth 20000 in
theorem q_418 : (Jvm.Cond.static ({ cls := "BoilerDeskLaw", name := "say", desc := "(LBoilerDesk;I)I" } : Jvm.MethodName)) ∈ lw_st := st_in (List.mem_append_right _ (List.mem_append_right _ (List.mem_append_left _ (List.mem_of_getElem? (i := 146) rfl)))) rfl
set_option maxRecDepth 20000 in
theorem q_419 : (Jvm.Cond.codeWith ({ cls := "BoilerDeskLaw", name := "say", desc := "(LBoilerDesk;I)I" } : Jvm.MethodName) method_5_code (3 : Nat) (Option.some Jvm.ClassFile.FieldType.int) [((0 : Nat), (5 : Nat), (8 : Nat), (13 : Nat))]) ∈ lw_st := st_in (List.mem_append_right _ (List.mem_append_right _ (List.mem_append_left _ (List.mem_of_getElem? (i := 147) rfl)))) rfl
set_option maxRecDepth 20000 in
theorem q_420 : (Jvm.Cond.methodLink "BoilerDeskLaw" (19 : Nat) ({ cls := "BoilerDesk", name := "say", desc := "(I)V" } : Jvm.MethodName)) ∈ lw_st := st_in (List.mem_append_right _ (List.mem_append_right _ (List.mem_append_left _ (List.mem_of_getElem? (i := 148) rfl)))) rfl
set_option maxRecDepth 20000 in
theorem q_421 : (Jvm.Cond.instanceMethod ({ cls := "BoilerDesk", name := "say", desc := "(I)V" } : Jvm.MethodName)) ∈ lw_st := st_in (List.mem_append_right _ (List.mem_append_right _ (List.mem_append_left _ (List.mem_of_getElem? (i := 149) rfl)))) rfl
set_option maxRecDepth 20000 in
theorem q_422 : (Jvm.Cond.selects "BoilerDesk" ({ cls := "BoilerDesk", name := "say", desc := "(I)V" } : Jvm.MethodName) ({ cls := "BoilerDesk", name := "say", desc := "(I)V" } : Jvm.MethodName)) ∈ lw_st := st_in (List.mem_append_right _ (List.mem_append_right _ (List.mem_append_left _ (List.mem_of_getElem? (i := 150) rfl)))) rfl
set_option maxRecDepth 20000 in
theorem q_423 : (Jvm.Cond.code ({ cls := "BoilerDesk", name := "say", desc := "(I)V" } : Jvm.MethodName) prog_1_method_6_code (2 : Nat) (Option.none : Option Jvm.ClassFile.FieldType)) ∈ lw_st := st_in (List.mem_append_right _ (List.mem_append_right _ (List.mem_append_left _ (List.mem_of_getElem? (i := 151) rfl)))) rfl
set_option maxRecDepth 20000 in
theorem q_425 : (Jvm.Cond.methodLink "BoilerDeskLaw" (69 : Nat) ({ cls := "BoilerDeskLaw", name := "unit", desc := "(LBoilerDesk;IZ)I" } : Jvm.MethodName)) ∈ lw_st := st_in (List.mem_append_right _ (List.mem_append_right _ (List.mem_append_left _ (List.mem_of_getElem? (i := 153) rfl)))) rfl
set_option maxRecDepth 20000 in
theorem q_426 : (Jvm.Cond.static ({ cls := "BoilerDeskLaw", name := "unit", desc := "(LBoilerDesk;IZ)I" } : Jvm.MethodName)) ∈ lw_st := st_in (List.mem_append_right _ (List.mem_append_right _ (List.mem_append_left _ (List.mem_of_getElem? (i := 154) rfl)))) rfl
set_option maxRecDepth 20000 in
theorem q_427 : (Jvm.Cond.codeWith ({ cls := "BoilerDeskLaw", name := "unit", desc := "(LBoilerDesk;IZ)I" } : Jvm.MethodName) method_6_code (4 : Nat) (Option.some Jvm.ClassFile.FieldType.int) [((0 : Nat), (6 : Nat), (9 : Nat), (13 : Nat))]) ∈ lw_st := st_in (List.mem_append_right _ (List.mem_append_right _ (List.mem_append_left _ (List.mem_of_getElem? (i := 155) rfl)))) rfl
set_option maxRecDepth 20000 in
theorem q_428 : (Jvm.Cond.methodLink "BoilerDeskLaw" (23 : Nat) ({ cls := "BoilerDesk", name := "unit", desc := "(IZ)V" } : Jvm.MethodName)) ∈ lw_st := st_in (List.mem_append_right _ (List.mem_append_right _ (List.mem_append_left _ (List.mem_of_getElem? (i := 156) rfl)))) rfl
set_option maxRecDepth 20000 in
theorem q_429 : (Jvm.Cond.instanceMethod ({ cls := "BoilerDesk", name := "unit", desc := "(IZ)V" } : Jvm.MethodName)) ∈ lw_st := st_in (List.mem_append_right _ (List.mem_append_right _ (List.mem_append_left _ (List.mem_of_getElem? (i := 157) rfl)))) rfl
set_option maxRecDepth 20000 in
theorem q_430 : (Jvm.Cond.selects "BoilerDesk" ({ cls := "BoilerDesk", name := "unit", desc := "(IZ)V" } : Jvm.MethodName) ({ cls := "BoilerDesk", name := "unit", desc := "(IZ)V" } : Jvm.MethodName)) ∈ lw_st := st_in (List.mem_append_right _ (List.mem_append_right _ (List.mem_append_left _ (List.mem_of_getElem? (i := 158) rfl)))) rfl
set_option maxRecDepth 20000 in
theorem q_431 : (Jvm.Cond.code ({ cls := "BoilerDesk", name := "unit", desc := "(IZ)V" } : Jvm.MethodName) prog_1_method_7_code (3 : Nat) (Option.none : Option Jvm.ClassFile.FieldType)) ∈ lw_st := st_in (List.mem_append_right _ (List.mem_append_right _ (List.mem_append_left _ (List.mem_of_getElem? (i := 159) rfl)))) rfl
set_option maxRecDepth 20000 in
theorem q_433 : (Jvm.Cond.methodLink "BoilerDeskLaw" (73 : Nat) ({ cls := "BoilerDeskLaw", name := "cycle", desc := "(LBoilerDesk;[J)I" } : Jvm.MethodName)) ∈ lw_st := st_in (List.mem_append_right _ (List.mem_append_right _ (List.mem_append_left _ (List.mem_of_getElem? (i := 161) rfl)))) rfl
set_option maxRecDepth 20000 in
theorem q_434 : (Jvm.Cond.static ({ cls := "BoilerDeskLaw", name := "cycle", desc := "(LBoilerDesk;[J)I" } : Jvm.MethodName)) ∈ lw_st := st_in (List.mem_append_right _ (List.mem_append_right _ (List.mem_append_left _ (List.mem_of_getElem? (i := 162) rfl)))) rfl
set_option maxRecDepth 20000 in
theorem q_435 : (Jvm.Cond.codeWith ({ cls := "BoilerDeskLaw", name := "cycle", desc := "(LBoilerDesk;[J)I" } : Jvm.MethodName) method_7_code (3 : Nat) (Option.some Jvm.ClassFile.FieldType.int) [((0 : Nat), (8 : Nat), (11 : Nat), (31 : Nat))]) ∈ lw_st := st_in (List.mem_append_right _ (List.mem_append_right _ (List.mem_append_left _ (List.mem_of_getElem? (i := 163) rfl)))) rfl
set_option maxRecDepth 20000 in
theorem q_436 : (Jvm.Cond.classLink "BoilerDeskLaw" (31 : Nat) "java/lang/IllegalStateException") ∈ lw_st := st_in (List.mem_append_right _ (List.mem_append_right _ (List.mem_append_left _ (List.mem_of_getElem? (i := 164) rfl)))) rfl
set_option maxRecDepth 20000 in
theorem q_437 : (Jvm.Cond.methodLink "BoilerDeskLaw" (27 : Nat) ({ cls := "BoilerDesk", name := "cycle", desc := "()I" } : Jvm.MethodName)) ∈ lw_st := st_in (List.mem_append_right _ (List.mem_append_right _ (List.mem_append_left _ (List.mem_of_getElem? (i := 165) rfl)))) rfl
set_option maxRecDepth 20000 in
theorem q_438 : (Jvm.Cond.instanceMethod ({ cls := "BoilerDesk", name := "cycle", desc := "()I" } : Jvm.MethodName)) ∈ lw_st := st_in (List.mem_append_right _ (List.mem_append_right _ (List.mem_append_left _ (List.mem_of_getElem? (i := 166) rfl)))) rfl
set_option maxRecDepth 20000 in
theorem q_439 : (Jvm.Cond.selects "BoilerDesk" ({ cls := "BoilerDesk", name := "cycle", desc := "()I" } : Jvm.MethodName) ({ cls := "BoilerDesk", name := "cycle", desc := "()I" } : Jvm.MethodName)) ∈ lw_st := st_in (List.mem_append_right _ (List.mem_append_right _ (List.mem_append_left _ (List.mem_of_getElem? (i := 167) rfl)))) rfl
set_option maxRecDepth 20000 in
theorem q_440 : (Jvm.Cond.code ({ cls := "BoilerDesk", name := "cycle", desc := "()I" } : Jvm.MethodName) prog_1_method_8_code (1 : Nat) (Option.some Jvm.ClassFile.FieldType.int)) ∈ lw_st := st_in (List.mem_append_right _ (List.mem_append_right _ (List.mem_append_left _ (List.mem_of_getElem? (i := 168) rfl)))) rfl
set_option maxRecDepth 20000 in
theorem q_441 : (Jvm.Cond.classLink "BoilerDesk" (138 : Nat) "java/lang/IllegalStateException") ∈ lw_st := st_in (List.mem_append_right _ (List.mem_append_right _ (List.mem_append_left _ (List.mem_of_getElem? (i := 169) rfl)))) rfl
set_option maxRecDepth 20000 in
theorem q_442 : (Jvm.Cond.instantiable "java/lang/IllegalStateException" (6 : Nat)) ∈ lw_st := st_in (List.mem_append_right _ (List.mem_append_right _ (List.mem_append_left _ (List.mem_of_getElem? (i := 170) rfl)))) rfl
set_option maxRecDepth 20000 in
theorem q_444 : (Jvm.Cond.selects "java/lang/IllegalStateException" ({ cls := "java/lang/Throwable", name := "fillInStackTrace", desc := "(I)Ljava/lang/Throwable;" } : Jvm.MethodName) ({ cls := "java/lang/Throwable", name := "fillInStackTrace", desc := "(I)Ljava/lang/Throwable;" } : Jvm.MethodName)) ∈ lw_st := st_in (List.mem_append_right _ (List.mem_append_right _ (List.mem_append_left _ (List.mem_of_getElem? (i := 172) rfl)))) rfl
set_option maxRecDepth 20000 in
theorem q_445 : (Jvm.Cond.lays "java/lang/IllegalStateException" "java/lang/Throwable" "cause" "Ljava/lang/Throwable;") ∈ lw_st := st_in (List.mem_append_right _ (List.mem_append_right _ (List.mem_append_left _ (List.mem_of_getElem? (i := 173) rfl)))) rfl
set_option maxRecDepth 20000 in
theorem q_446 : (Jvm.Cond.lays "java/lang/IllegalStateException" "java/lang/Throwable" "stackTrace" "[Ljava/lang/StackTraceElement;") ∈ lw_st := st_in (List.mem_append_right _ (List.mem_append_right _ (List.mem_append_left _ (List.mem_of_getElem? (i := 174) rfl)))) rfl
set_option maxRecDepth 20000 in
theorem q_447 : (Jvm.Cond.lays "java/lang/IllegalStateException" "java/lang/Throwable" "suppressedExceptions" "Ljava/util/List;") ∈ lw_st := st_in (List.mem_append_right _ (List.mem_append_right _ (List.mem_append_left _ (List.mem_of_getElem? (i := 175) rfl)))) rfl
set_option maxRecDepth 20000 in
theorem q_448 : (Jvm.Cond.lays "java/lang/IllegalStateException" "java/lang/Throwable" "detailMessage" "Ljava/lang/String;") ∈ lw_st := st_in (List.mem_append_right _ (List.mem_append_right _ (List.mem_append_left _ (List.mem_of_getElem? (i := 176) rfl)))) rfl
set_option maxRecDepth 20000 in
theorem q_449 : (Jvm.Cond.lays "java/lang/IllegalStateException" "java/lang/Throwable" "backtrace" "Ljava/lang/Object;") ∈ lw_st := st_in (List.mem_append_right _ (List.mem_append_right _ (List.mem_append_left _ (List.mem_of_getElem? (i := 177) rfl)))) rfl
set_option maxRecDepth 20000 in
theorem q_451 : (Jvm.Cond.methodLink "BoilerDesk" (142 : Nat) ({ cls := "java/lang/IllegalStateException", name := "<init>", desc := "(Ljava/lang/String;)V" } : Jvm.MethodName)) ∈ lw_st := st_in (List.mem_append_right _ (List.mem_append_right _ (List.mem_append_left _ (List.mem_of_getElem? (i := 179) rfl)))) rfl
set_option maxRecDepth 20000 in
theorem q_452 : (Jvm.Cond.instanceMethod ({ cls := "java/lang/IllegalStateException", name := "<init>", desc := "(Ljava/lang/String;)V" } : Jvm.MethodName)) ∈ lw_st := st_in (List.mem_append_right _ (List.mem_append_right _ (List.mem_append_left _ (List.mem_of_getElem? (i := 180) rfl)))) rfl
set_option maxRecDepth 20000 in
theorem q_453 : (Jvm.Cond.code ({ cls := "java/lang/IllegalStateException", name := "<init>", desc := "(Ljava/lang/String;)V" } : Jvm.MethodName) prog_12_method_2_code (2 : Nat) (Option.none : Option Jvm.ClassFile.FieldType)) ∈ lw_st := st_in (List.mem_append_right _ (List.mem_append_right _ (List.mem_append_left _ (List.mem_of_getElem? (i := 181) rfl)))) rfl
set_option maxRecDepth 20000 in
theorem q_454 : (Jvm.Cond.methodLink "java/lang/IllegalStateException" (7 : Nat) ({ cls := "java/lang/RuntimeException", name := "<init>", desc := "(Ljava/lang/String;)V" } : Jvm.MethodName)) ∈ lw_st := st_in (List.mem_append_right _ (List.mem_append_right _ (List.mem_append_left _ (List.mem_of_getElem? (i := 182) rfl)))) rfl
set_option maxRecDepth 20000 in
theorem q_455 : (Jvm.Cond.lays "java/lang/IllegalStateException" "java/lang/Throwable" "depth" "I") ∈ lw_st := st_in (List.mem_append_right _ (List.mem_append_right _ (List.mem_append_left _ (List.mem_of_getElem? (i := 183) rfl)))) rfl
set_option maxRecDepth 20000 in
theorem q_457 : (Jvm.Cond.methodLink "BoilerDesk" (149 : Nat) ({ cls := "BoilerDesk", name := "runSteps", desc := "()V" } : Jvm.MethodName)) ∈ lw_st := st_in (List.mem_append_right _ (List.mem_append_right _ (List.mem_append_left _ (List.mem_of_getElem? (i := 185) rfl)))) rfl
set_option maxRecDepth 20000 in
theorem q_459 : (Jvm.Cond.instanceMethod ({ cls := "BoilerDesk", name := "runSteps", desc := "()V" } : Jvm.MethodName)) ∈ lw_st := st_in (List.mem_append_right _ (List.mem_append_right _ (List.mem_append_left _ (List.mem_of_getElem? (i := 187) rfl)))) rfl
set_option maxRecDepth 20000 in
theorem q_460 : (Jvm.Cond.code ({ cls := "BoilerDesk", name := "runSteps", desc := "()V" } : Jvm.MethodName) prog_1_method_14_code (2 : Nat) (Option.none : Option Jvm.ClassFile.FieldType)) ∈ lw_st := st_in (List.mem_append_right _ (List.mem_append_right _ (List.mem_append_left _ (List.mem_of_getElem? (i := 188) rfl)))) rfl
set_option maxRecDepth 20000 in
theorem q_461 : (Jvm.Cond.methodLink "BoilerDesk" (219 : Nat) ({ cls := "BoilerDesk", name := "noteWords", desc := "()V" } : Jvm.MethodName)) ∈ lw_st := st_in (List.mem_append_right _ (List.mem_append_right _ (List.mem_append_left _ (List.mem_of_getElem? (i := 189) rfl)))) rfl
set_option maxRecDepth 20000 in
theorem q_463 : (Jvm.Cond.instanceMethod ({ cls := "BoilerDesk", name := "noteWords", desc := "()V" } : Jvm.MethodName)) ∈ lw_st := st_in (List.mem_append_right _ (List.mem_append_right _ (List.mem_append_left _ (List.mem_of_getElem? (i := 191) rfl)))) rfl
set_option maxRecDepth 20000 in
theorem q_464 : (Jvm.Cond.code ({ cls := "BoilerDesk", name := "noteWords", desc := "()V" } : Jvm.MethodName) prog_1_method_15_code (1 : Nat) (Option.none : Option Jvm.ClassFile.FieldType)) ∈ lw_st := st_in (List.mem_append_right _ (List.mem_append_right _ (List.mem_append_left _ (List.mem_of_getElem? (i := 192) rfl)))) rfl
set_option maxRecDepth 20000 in
theorem q_465 : (Jvm.Cond.methodLink "BoilerDesk" (222 : Nat) ({ cls := "BoilerDesk$Inbox", name := "hasAllReadings", desc := "()Z" } : Jvm.MethodName)) ∈ lw_st := st_in (List.mem_append_right _ (List.mem_append_right _ (List.mem_append_left _ (List.mem_of_getElem? (i := 193) rfl)))) rfl
set_option maxRecDepth 20000 in
theorem q_466 : (Jvm.Cond.instanceMethod ({ cls := "BoilerDesk$Inbox", name := "hasAllReadings", desc := "()Z" } : Jvm.MethodName)) ∈ lw_st := st_in (List.mem_append_right _ (List.mem_append_right _ (List.mem_append_left _ (List.mem_of_getElem? (i := 194) rfl)))) rfl
set_option maxRecDepth 20000 in
theorem q_467 : (Jvm.Cond.selects "BoilerDesk$Inbox" ({ cls := "BoilerDesk$Inbox", name := "hasAllReadings", desc := "()Z" } : Jvm.MethodName) ({ cls := "BoilerDesk$Inbox", name := "hasAllReadings", desc := "()Z" } : Jvm.MethodName)) ∈ lw_st := st_in (List.mem_append_right _ (List.mem_append_right _ (List.mem_append_left _ (List.mem_of_getElem? (i := 195) rfl)))) rfl
set_option maxRecDepth 20000 in
theorem q_468 : (Jvm.Cond.code ({ cls := "BoilerDesk$Inbox", name := "hasAllReadings", desc := "()Z" } : Jvm.MethodName) prog_2_method_2_code (1 : Nat) (Option.some Jvm.ClassFile.FieldType.boolean)) ∈ lw_st := st_in (List.mem_append_right _ (List.mem_append_right _ (List.mem_append_left _ (List.mem_of_getElem? (i := 196) rfl)))) rfl
set_option maxRecDepth 20000 in
theorem q_469 : (Jvm.Cond.methodLink "BoilerDesk" (226 : Nat) ({ cls := "BoilerDesk", name := "takeRepairs", desc := "()V" } : Jvm.MethodName)) ∈ lw_st := st_in (List.mem_append_right _ (List.mem_append_right _ (List.mem_append_left _ (List.mem_of_getElem? (i := 197) rfl)))) rfl
set_option maxRecDepth 20000 in
theorem q_471 : (Jvm.Cond.instanceMethod ({ cls := "BoilerDesk", name := "takeRepairs", desc := "()V" } : Jvm.MethodName)) ∈ lw_st := st_in (List.mem_append_right _ (List.mem_append_right _ (List.mem_append_left _ (List.mem_of_getElem? (i := 199) rfl)))) rfl
set_option maxRecDepth 20000 in
theorem q_472 : (Jvm.Cond.code ({ cls := "BoilerDesk", name := "takeRepairs", desc := "()V" } : Jvm.MethodName) prog_1_method_16_code (2 : Nat) (Option.none : Option Jvm.ClassFile.FieldType)) ∈ lw_st := st_in (List.mem_append_right _ (List.mem_append_right _ (List.mem_append_left _ (List.mem_of_getElem? (i := 200) rfl)))) rfl
set_option maxRecDepth 20000 in
theorem q_473 : (Jvm.Cond.methodLink "BoilerDesk" (255 : Nat) ({ cls := "BoilerDesk", name := "hasBit", desc := "(II)Z" } : Jvm.MethodName)) ∈ lw_st := st_in (List.mem_append_right _ (List.mem_append_right _ (List.mem_append_left _ (List.mem_of_getElem? (i := 201) rfl)))) rfl
set_option maxRecDepth 20000 in
theorem q_474 : (Jvm.Cond.static ({ cls := "BoilerDesk", name := "hasBit", desc := "(II)Z" } : Jvm.MethodName)) ∈ lw_st := st_in (List.mem_append_right _ (List.mem_append_right _ (List.mem_append_left _ (List.mem_of_getElem? (i := 202) rfl)))) rfl
set_option maxRecDepth 20000 in
theorem q_475 : (Jvm.Cond.code ({ cls := "BoilerDesk", name := "hasBit", desc := "(II)Z" } : Jvm.MethodName) prog_1_method_34_code (2 : Nat) (Option.some Jvm.ClassFile.FieldType.boolean)) ∈ lw_st := st_in (List.mem_append_right _ (List.mem_append_right _ (List.mem_append_left _ (List.mem_of_getElem? (i := 203) rfl)))) rfl
set_option maxRecDepth 20000 in
theorem q_476 : (Jvm.Cond.methodLink "BoilerDesk" (259 : Nat) ({ cls := "BoilerDesk$Units", name := "hasFailed", desc := "(I)Z" } : Jvm.MethodName)) ∈ lw_st := st_in (List.mem_append_right _ (List.mem_append_right _ (List.mem_append_left _ (List.mem_of_getElem? (i := 204) rfl)))) rfl
set_option maxRecDepth 20000 in
theorem q_477 : (Jvm.Cond.instanceMethod ({ cls := "BoilerDesk$Units", name := "hasFailed", desc := "(I)Z" } : Jvm.MethodName)) ∈ lw_st := st_in (List.mem_append_right _ (List.mem_append_right _ (List.mem_append_left _ (List.mem_of_getElem? (i := 205) rfl)))) rfl
set_option maxRecDepth 20000 in
theorem q_478 : (Jvm.Cond.selects "BoilerDesk$Units" ({ cls := "BoilerDesk$Units", name := "hasFailed", desc := "(I)Z" } : Jvm.MethodName) ({ cls := "BoilerDesk$Units", name := "hasFailed", desc := "(I)Z" } : Jvm.MethodName)) ∈ lw_st := st_in (List.mem_append_right _ (List.mem_append_right _ (List.mem_append_left _ (List.mem_of_getElem? (i := 206) rfl)))) rfl
set_option maxRecDepth 20000 in
theorem q_479 : (Jvm.Cond.code ({ cls := "BoilerDesk$Units", name := "hasFailed", desc := "(I)Z" } : Jvm.MethodName) prog_7_method_2_code (2 : Nat) (Option.some Jvm.ClassFile.FieldType.boolean)) ∈ lw_st := st_in (List.mem_append_right _ (List.mem_append_right _ (List.mem_append_left _ (List.mem_of_getElem? (i := 207) rfl)))) rfl
set_option maxRecDepth 20000 in
theorem q_480 : (Jvm.Cond.methodLinkNest "BoilerDesk$Units" (13 : Nat) ({ cls := "BoilerDesk", name := "hasBit", desc := "(II)Z" } : Jvm.MethodName) "BoilerDesk") ∈ lw_st := st_in (List.mem_append_right _ (List.mem_append_right _ (List.mem_append_left _ (List.mem_of_getElem? (i := 208) rfl)))) rfl
set_option maxRecDepth 20000 in
theorem q_481 : (Jvm.Cond.methodLink "BoilerDesk" (263 : Nat) ({ cls := "BoilerDesk$Units", name := "repair", desc := "(I)V" } : Jvm.MethodName)) ∈ lw_st := st_in (List.mem_append_right _ (List.mem_append_right _ (List.mem_append_left _ (List.mem_of_getElem? (i := 209) rfl)))) rfl
set_option maxRecDepth 20000 in
theorem q_482 : (Jvm.Cond.instanceMethod ({ cls := "BoilerDesk$Units", name := "repair", desc := "(I)V" } : Jvm.MethodName)) ∈ lw_st := st_in (List.mem_append_right _ (List.mem_append_right _ (List.mem_append_left _ (List.mem_of_getElem? (i := 210) rfl)))) rfl
set_option maxRecDepth 20000 in
theorem q_483 : (Jvm.Cond.selects "BoilerDesk$Units" ({ cls := "BoilerDesk$Units", name := "repair", desc := "(I)V" } : Jvm.MethodName) ({ cls := "BoilerDesk$Units", name := "repair", desc := "(I)V" } : Jvm.MethodName)) ∈ lw_st := st_in (List.mem_append_right _ (List.mem_append_right _ (List.mem_append_left _ (List.mem_of_getElem? (i := 211) rfl)))) rfl
set_option maxRecDepth 20000 in
theorem q_484 : (Jvm.Cond.code ({ cls := "BoilerDesk$Units", name := "repair", desc := "(I)V" } : Jvm.MethodName) prog_7_method_6_code (2 : Nat) (Option.none : Option Jvm.ClassFile.FieldType)) ∈ lw_st := st_in (List.mem_append_right _ (List.mem_append_right _ (List.mem_append_left _ (List.mem_of_getElem? (i := 212) rfl)))) rfl
set_option maxRecDepth 20000 in
theorem q_485 : (Jvm.Cond.methodLinkNest "BoilerDesk$Units" (22 : Nat) ({ cls := "BoilerDesk", name := "withBit", desc := "(IIZ)I" } : Jvm.MethodName) "BoilerDesk") ∈ lw_st := st_in (List.mem_append_right _ (List.mem_append_right _ (List.mem_append_left _ (List.mem_of_getElem? (i := 213) rfl)))) rfl
set_option maxRecDepth 20000 in
theorem q_486 : (Jvm.Cond.methodLink "BoilerDesk" (266 : Nat) ({ cls := "BoilerDesk", name := "stopUnlessInitial", desc := "()V" } : Jvm.MethodName)) ∈ lw_st := st_in (List.mem_append_right _ (List.mem_append_right _ (List.mem_append_left _ (List.mem_of_getElem? (i := 214) rfl)))) rfl
set_option maxRecDepth 20000 in
theorem q_488 : (Jvm.Cond.instanceMethod ({ cls := "BoilerDesk", name := "stopUnlessInitial", desc := "()V" } : Jvm.MethodName)) ∈ lw_st := st_in (List.mem_append_right _ (List.mem_append_right _ (List.mem_append_left _ (List.mem_of_getElem? (i := 216) rfl)))) rfl
set_option maxRecDepth 20000 in
theorem q_489 : (Jvm.Cond.code ({ cls := "BoilerDesk", name := "stopUnlessInitial", desc := "()V" } : Jvm.MethodName) prog_1_method_18_code (1 : Nat) (Option.none : Option Jvm.ClassFile.FieldType)) ∈ lw_st := st_in (List.mem_append_right _ (List.mem_append_right _ (List.mem_append_left _ (List.mem_of_getElem? (i := 217) rfl)))) rfl
set_option maxRecDepth 20000 in
theorem q_490 : (Jvm.Cond.methodLink "BoilerDesk" (229 : Nat) ({ cls := "BoilerDesk", name := "takeAcknowledgements", desc := "()V" } : Jvm.MethodName)) ∈ lw_st := st_in (List.mem_append_right _ (List.mem_append_right _ (List.mem_append_left _ (List.mem_of_getElem? (i := 218) rfl)))) rfl
set_option maxRecDepth 20000 in
theorem q_492 : (Jvm.Cond.instanceMethod ({ cls := "BoilerDesk", name := "takeAcknowledgements", desc := "()V" } : Jvm.MethodName)) ∈ lw_st := st_in (List.mem_append_right _ (List.mem_append_right _ (List.mem_append_left _ (List.mem_of_getElem? (i := 220) rfl)))) rfl
set_option maxRecDepth 20000 in
theorem q_493 : (Jvm.Cond.code ({ cls := "BoilerDesk", name := "takeAcknowledgements", desc := "()V" } : Jvm.MethodName) prog_1_method_17_code (2 : Nat) (Option.none : Option Jvm.ClassFile.FieldType)) ∈ lw_st := st_in (List.mem_append_right _ (List.mem_append_right _ (List.mem_append_left _ (List.mem_of_getElem? (i := 221) rfl)))) rfl
set_option maxRecDepth 20000 in
theorem q_494 : (Jvm.Cond.methodLink "BoilerDesk" (269 : Nat) ({ cls := "BoilerDesk$Units", name := "awaitsAcknowledgement", desc := "(I)Z" } : Jvm.MethodName)) ∈ lw_st := st_in (List.mem_append_right _ (List.mem_append_right _ (List.mem_append_left _ (List.mem_of_getElem? (i := 222) rfl)))) rfl
set_option maxRecDepth 20000 in
theorem q_495 : (Jvm.Cond.instanceMethod ({ cls := "BoilerDesk$Units", name := "awaitsAcknowledgement", desc := "(I)Z" } : Jvm.MethodName)) ∈ lw_st := st_in (List.mem_append_right _ (List.mem_append_right _ (List.mem_append_left _ (List.mem_of_getElem? (i := 223) rfl)))) rfl
set_option maxRecDepth 20000 in
theorem q_496 : (Jvm.Cond.selects "BoilerDesk$Units" ({ cls := "BoilerDesk$Units", name := "awaitsAcknowledgement", desc := "(I)Z" } : Jvm.MethodName) ({ cls := "BoilerDesk$Units", name := "awaitsAcknowledgement", desc := "(I)Z" } : Jvm.MethodName)) ∈ lw_st := st_in (List.mem_append_right _ (List.mem_append_right _ (List.mem_append_left _ (List.mem_of_getElem? (i := 224) rfl)))) rfl
set_option maxRecDepth 20000 in
theorem q_497 : (Jvm.Cond.code ({ cls := "BoilerDesk$Units", name := "awaitsAcknowledgement", desc := "(I)Z" } : Jvm.MethodName) prog_7_method_3_code (2 : Nat) (Option.some Jvm.ClassFile.FieldType.boolean)) ∈ lw_st := st_in (List.mem_append_right _ (List.mem_append_right _ (List.mem_append_left _ (List.mem_of_getElem? (i := 225) rfl)))) rfl
set_option maxRecDepth 20000 in
theorem q_498 : (Jvm.Cond.methodLink "BoilerDesk" (272 : Nat) ({ cls := "BoilerDesk$Units", name := "acknowledge", desc := "(I)V" } : Jvm.MethodName)) ∈ lw_st := st_in (List.mem_append_right _ (List.mem_append_right _ (List.mem_append_left _ (List.mem_of_getElem? (i := 226) rfl)))) rfl
set_option maxRecDepth 20000 in
theorem q_499 : (Jvm.Cond.instanceMethod ({ cls := "BoilerDesk$Units", name := "acknowledge", desc := "(I)V" } : Jvm.MethodName)) ∈ lw_st := st_in (List.mem_append_right _ (List.mem_append_right _ (List.mem_append_left _ (List.mem_of_getElem? (i := 227) rfl)))) rfl
set_option maxRecDepth 20000 in
theorem q_500 : (Jvm.Cond.selects "BoilerDesk$Units" ({ cls := "BoilerDesk$Units", name := "acknowledge", desc := "(I)V" } : Jvm.MethodName) ({ cls := "BoilerDesk$Units", name := "acknowledge", desc := "(I)V" } : Jvm.MethodName)) ∈ lw_st := st_in (List.mem_append_right _ (List.mem_append_right _ (List.mem_append_left _ (List.mem_of_getElem? (i := 228) rfl)))) rfl
set_option maxRecDepth 20000 in
theorem q_501 : (Jvm.Cond.code ({ cls := "BoilerDesk$Units", name := "acknowledge", desc := "(I)V" } : Jvm.MethodName) prog_7_method_5_code (2 : Nat) (Option.none : Option Jvm.ClassFile.FieldType)) ∈ lw_st := st_in (List.mem_append_right _ (List.mem_append_right _ (List.mem_append_left _ (List.mem_of_getElem? (i := 229) rfl)))) rfl
set_option maxRecDepth 20000 in
theorem q_502 : (Jvm.Cond.methodLink "BoilerDesk" (232 : Nat) ({ cls := "BoilerDesk", name := "expectReadings", desc := "(I)V" } : Jvm.MethodName)) ∈ lw_st := st_in (List.mem_append_right _ (List.mem_append_right _ (List.mem_append_left _ (List.mem_of_getElem? (i := 230) rfl)))) rfl
set_option maxRecDepth 20000 in
theorem q_504 : (Jvm.Cond.instanceMethod ({ cls := "BoilerDesk", name := "expectReadings", desc := "(I)V" } : Jvm.MethodName)) ∈ lw_st := st_in (List.mem_append_right _ (List.mem_append_right _ (List.mem_append_left _ (List.mem_of_getElem? (i := 232) rfl)))) rfl
set_option maxRecDepth 20000 in
theorem q_505 : (Jvm.Cond.code ({ cls := "BoilerDesk", name := "expectReadings", desc := "(I)V" } : Jvm.MethodName) prog_1_method_19_code (6 : Nat) (Option.none : Option Jvm.ClassFile.FieldType)) ∈ lw_st := st_in (List.mem_append_right _ (List.mem_append_right _ (List.mem_append_left _ (List.mem_of_getElem? (i := 233) rfl)))) rfl
set_option maxRecDepth 20000 in
theorem q_506 : (Jvm.Cond.methodLink "BoilerDesk" (278 : Nat) ({ cls := "java/lang/Math", name := "max", desc := "(II)I" } : Jvm.MethodName)) ∈ lw_st := st_in (List.mem_append_right _ (List.mem_append_right _ (List.mem_append_left _ (List.mem_of_getElem? (i := 234) rfl)))) rfl
set_option maxRecDepth 20000 in
theorem q_507 : (Jvm.Cond.static ({ cls := "java/lang/Math", name := "max", desc := "(II)I" } : Jvm.MethodName)) ∈ lw_st := st_in (List.mem_append_right _ (List.mem_append_right _ (List.mem_append_left _ (List.mem_of_getElem? (i := 235) rfl)))) rfl
set_option maxRecDepth 20000 in
theorem q_508 : (Jvm.Cond.code ({ cls := "java/lang/Math", name := "max", desc := "(II)I" } : Jvm.MethodName) prog_14_method_65_code (2 : Nat) (Option.some Jvm.ClassFile.FieldType.int)) ∈ lw_st := st_in (List.mem_append_right _ (List.mem_append_right _ (List.mem_append_left _ (List.mem_of_getElem? (i := 236) rfl)))) rfl
set_option maxRecDepth 20000 in
theorem q_509 : (Jvm.Cond.methodLink "BoilerDesk" (287 : Nat) ({ cls := "java/lang/Math", name := "min", desc := "(II)I" } : Jvm.MethodName)) ∈ lw_st := st_in (List.mem_append_right _ (List.mem_append_right _ (List.mem_append_left _ (List.mem_of_getElem? (i := 237) rfl)))) rfl
set_option maxRecDepth 20000 in
theorem q_510 : (Jvm.Cond.static ({ cls := "java/lang/Math", name := "min", desc := "(II)I" } : Jvm.MethodName)) ∈ lw_st := st_in (List.mem_append_right _ (List.mem_append_right _ (List.mem_append_left _ (List.mem_of_getElem? (i := 238) rfl)))) rfl
set_option maxRecDepth 20000 in
theorem q_511 : (Jvm.Cond.code ({ cls := "java/lang/Math", name := "min", desc := "(II)I" } : Jvm.MethodName) prog_14_method_69_code (2 : Nat) (Option.some Jvm.ClassFile.FieldType.int)) ∈ lw_st := st_in (List.mem_append_right _ (List.mem_append_right _ (List.mem_append_left _ (List.mem_of_getElem? (i := 239) rfl)))) rfl
set_option maxRecDepth 20000 in
theorem q_512 : (Jvm.Cond.methodLink "BoilerDesk" (290 : Nat) ({ cls := "BoilerDesk$Machines", name := "pumpsSurelyGiving", desc := "(I)I" } : Jvm.MethodName)) ∈ lw_st := st_in (List.mem_append_right _ (List.mem_append_right _ (List.mem_append_right _ (List.mem_append_left _ (List.mem_of_getElem? (i := 0) rfl))))) rfl
set_option maxRecDepth 20000 in
theorem q_513 : (Jvm.Cond.instanceMethod ({ cls := "BoilerDesk$Machines", name := "pumpsSurelyGiving", desc := "(I)I" } : Jvm.MethodName)) ∈ lw_st := st_in (List.mem_append_right _ (List.mem_append_right _ (List.mem_append_right _ (List.mem_append_left _ (List.mem_of_getElem? (i := 1) rfl))))) rfl
set_option maxRecDepth 20000 in
theorem q_514 : (Jvm.Cond.selects "BoilerDesk$Machines" ({ cls := "BoilerDesk$Machines", name := "pumpsSurelyGiving", desc := "(I)I" } : Jvm.MethodName) ({ cls := "BoilerDesk$Machines", name := "pumpsSurelyGiving", desc := "(I)I" } : Jvm.MethodName)) ∈ lw_st := st_in (List.mem_append_right _ (List.mem_append_right _ (List.mem_append_right _ (List.mem_append_left _ (List.mem_of_getElem? (i := 2) rfl))))) rfl
set_option maxRecDepth 20000 in
theorem q_515 : (Jvm.Cond.code ({ cls := "BoilerDesk$Machines", name := "pumpsSurelyGiving", desc := "(I)I" } : Jvm.MethodName) prog_3_method_3_code (2 : Nat) (Option.some Jvm.ClassFile.FieldType.int)) ∈ lw_st := st_in (List.mem_append_right _ (List.mem_append_right _ (List.mem_append_right _ (List.mem_append_left _ (List.mem_of_getElem? (i := 3) rfl))))) rfl
set_option maxRecDepth 20000 in
theorem q_516 : (Jvm.Cond.methodLink "BoilerDesk$Machines" (21 : Nat) ({ cls := "BoilerDesk$Machines", name := "trusted", desc := "(I)I" } : Jvm.MethodName)) ∈ lw_st := st_in (List.mem_append_right _ (List.mem_append_right _ (List.mem_append_right _ (List.mem_append_left _ (List.mem_of_getElem? (i := 4) rfl))))) rfl
set_option maxRecDepth 20000 in
theorem q_517 : (Jvm.Cond.static ({ cls := "BoilerDesk$Machines", name := "trusted", desc := "(I)I" } : Jvm.MethodName)) ∈ lw_st := st_in (List.mem_append_right _ (List.mem_append_right _ (List.mem_append_right _ (List.mem_append_left _ (List.mem_of_getElem? (i := 5) rfl))))) rfl
set_option maxRecDepth 20000 in
theorem q_518 : (Jvm.Cond.code ({ cls := "BoilerDesk$Machines", name := "trusted", desc := "(I)I" } : Jvm.MethodName) prog_3_method_5_code (1 : Nat) (Option.some Jvm.ClassFile.FieldType.int)) ∈ lw_st := st_in (List.mem_append_right _ (List.mem_append_right _ (List.mem_append_right _ (List.mem_append_left _ (List.mem_of_getElem? (i := 6) rfl))))) rfl
set_option maxRecDepth 20000 in
theorem q_519 : (Jvm.Cond.methodLink "BoilerDesk" (294 : Nat) ({ cls := "BoilerDesk$Machines", name := "pumpsSurelyIdle", desc := "(I)I" } : Jvm.MethodName)) ∈ lw_st := st_in (List.mem_append_right _ (List.mem_append_right _ (List.mem_append_right _ (List.mem_append_left _ (List.mem_of_getElem? (i := 7) rfl))))) rfl
set_option maxRecDepth 20000 in
theorem q_520 : (Jvm.Cond.instanceMethod ({ cls := "BoilerDesk$Machines", name := "pumpsSurelyIdle", desc := "(I)I" } : Jvm.MethodName)) ∈ lw_st := st_in (List.mem_append_right _ (List.mem_append_right _ (List.mem_append_right _ (List.mem_append_left _ (List.mem_of_getElem? (i := 8) rfl))))) rfl
set_option maxRecDepth 20000 in
theorem q_521 : (Jvm.Cond.selects "BoilerDesk$Machines" ({ cls := "BoilerDesk$Machines", name := "pumpsSurelyIdle", desc := "(I)I" } : Jvm.MethodName) ({ cls := "BoilerDesk$Machines", name := "pumpsSurelyIdle", desc := "(I)I" } : Jvm.MethodName)) ∈ lw_st := st_in (List.mem_append_right _ (List.mem_append_right _ (List.mem_append_right _ (List.mem_append_left _ (List.mem_of_getElem? (i := 9) rfl))))) rfl
set_option maxRecDepth 20000 in
theorem q_522 : (Jvm.Cond.code ({ cls := "BoilerDesk$Machines", name := "pumpsSurelyIdle", desc := "(I)I" } : Jvm.MethodName) prog_3_method_4_code (2 : Nat) (Option.some Jvm.ClassFile.FieldType.int)) ∈ lw_st := st_in (List.mem_append_right _ (List.mem_append_right _ (List.mem_append_right _ (List.mem_append_left _ (List.mem_of_getElem? (i := 10) rfl))))) rfl
set_option maxRecDepth 20000 in
theorem q_523 : (Jvm.Cond.methodLink "BoilerDesk" (297 : Nat) ({ cls := "BoilerDesk$Plant", name := "given", desc := "(I)I" } : Jvm.MethodName)) ∈ lw_st := st_in (List.mem_append_right _ (List.mem_append_right _ (List.mem_append_right _ (List.mem_append_left _ (List.mem_of_getElem? (i := 11) rfl))))) rfl
set_option maxRecDepth 20000 in
theorem q_524 : (Jvm.Cond.instanceMethod ({ cls := "BoilerDesk$Plant", name := "given", desc := "(I)I" } : Jvm.MethodName)) ∈ lw_st := st_in (List.mem_append_right _ (List.mem_append_right _ (List.mem_append_right _ (List.mem_append_left _ (List.mem_of_getElem? (i := 12) rfl))))) rfl
set_option maxRecDepth 20000 in
theorem q_525 : (Jvm.Cond.selects "BoilerDesk$Plant" ({ cls := "BoilerDesk$Plant", name := "given", desc := "(I)I" } : Jvm.MethodName) ({ cls := "BoilerDesk$Plant", name := "given", desc := "(I)I" } : Jvm.MethodName)) ∈ lw_st := st_in (List.mem_append_right _ (List.mem_append_right _ (List.mem_append_right _ (List.mem_append_left _ (List.mem_of_getElem? (i := 13) rfl))))) rfl
set_option maxRecDepth 20000 in
theorem q_526 : (Jvm.Cond.code ({ cls := "BoilerDesk$Plant", name := "given", desc := "(I)I" } : Jvm.MethodName) prog_4_method_6_code (2 : Nat) (Option.some Jvm.ClassFile.FieldType.int)) ∈ lw_st := st_in (List.mem_append_right _ (List.mem_append_right _ (List.mem_append_right _ (List.mem_append_left _ (List.mem_of_getElem? (i := 14) rfl))))) rfl
set_option maxRecDepth 20000 in
theorem q_527 : (Jvm.Cond.methodLink "BoilerDesk$Plant" (52 : Nat) ({ cls := "java/lang/Integer", name := "bitCount", desc := "(I)I" } : Jvm.MethodName)) ∈ lw_st := st_in (List.mem_append_right _ (List.mem_append_right _ (List.mem_append_right _ (List.mem_append_left _ (List.mem_of_getElem? (i := 15) rfl))))) rfl
set_option maxRecDepth 20000 in
theorem q_528 : (Jvm.Cond.static ({ cls := "java/lang/Integer", name := "bitCount", desc := "(I)I" } : Jvm.MethodName)) ∈ lw_st := st_in (List.mem_append_right _ (List.mem_append_right _ (List.mem_append_right _ (List.mem_append_left _ (List.mem_of_getElem? (i := 16) rfl))))) rfl
set_option maxRecDepth 20000 in
theorem q_529 : (Jvm.Cond.code ({ cls := "java/lang/Integer", name := "bitCount", desc := "(I)I" } : Jvm.MethodName) prog_13_method_49_code (1 : Nat) (Option.some Jvm.ClassFile.FieldType.int)) ∈ lw_st := st_in (List.mem_append_right _ (List.mem_append_right _ (List.mem_append_right _ (List.mem_append_left _ (List.mem_of_getElem? (i := 17) rfl))))) rfl
set_option maxRecDepth 20000 in
theorem q_530 : (Jvm.Cond.constant "java/lang/Integer" (265 : Nat) (1431655765 : Int32)) ∈ lw_st := st_in (List.mem_append_right _ (List.mem_append_right _ (List.mem_append_right _ (List.mem_append_left _ (List.mem_of_getElem? (i := 18) rfl))))) rfl
set_option maxRecDepth 20000 in
theorem q_531 : (Jvm.Cond.constant "java/lang/Integer" (266 : Nat) (858993459 : Int32)) ∈ lw_st := st_in (List.mem_append_right _ (List.mem_append_right _ (List.mem_append_right _ (List.mem_append_left _ (List.mem_of_getElem? (i := 19) rfl))))) rfl
set_option maxRecDepth 20000 in
theorem q_532 : (Jvm.Cond.constant "java/lang/Integer" (267 : Nat) (252645135 : Int32)) ∈ lw_st := st_in (List.mem_append_right _ (List.mem_append_right _ (List.mem_append_right _ (List.mem_append_left _ (List.mem_of_getElem? (i := 20) rfl))))) rfl
set_option maxRecDepth 20000 in
theorem q_533 : (Jvm.Cond.methodLink "BoilerDesk" (300 : Nat) ({ cls := "BoilerDesk$Plant", name := "withinCapacity", desc := "(I)I" } : Jvm.MethodName)) ∈ lw_st := st_in (List.mem_append_right _ (List.mem_append_right _ (List.mem_append_right _ (List.mem_append_left _ (List.mem_of_getElem? (i := 21) rfl))))) rfl
set_option maxRecDepth 20000 in
theorem q_534 : (Jvm.Cond.instanceMethod ({ cls := "BoilerDesk$Plant", name := "withinCapacity", desc := "(I)I" } : Jvm.MethodName)) ∈ lw_st := st_in (List.mem_append_right _ (List.mem_append_right _ (List.mem_append_right _ (List.mem_append_left _ (List.mem_of_getElem? (i := 22) rfl))))) rfl
set_option maxRecDepth 20000 in
theorem q_535 : (Jvm.Cond.selects "BoilerDesk$Plant" ({ cls := "BoilerDesk$Plant", name := "withinCapacity", desc := "(I)I" } : Jvm.MethodName) ({ cls := "BoilerDesk$Plant", name := "withinCapacity", desc := "(I)I" } : Jvm.MethodName)) ∈ lw_st := st_in (List.mem_append_right _ (List.mem_append_right _ (List.mem_append_right _ (List.mem_append_left _ (List.mem_of_getElem? (i := 23) rfl))))) rfl
set_option maxRecDepth 20000 in
theorem q_536 : (Jvm.Cond.code ({ cls := "BoilerDesk$Plant", name := "withinCapacity", desc := "(I)I" } : Jvm.MethodName) prog_4_method_5_code (2 : Nat) (Option.some Jvm.ClassFile.FieldType.int)) ∈ lw_st := st_in (List.mem_append_right _ (List.mem_append_right _ (List.mem_append_right _ (List.mem_append_left _ (List.mem_of_getElem? (i := 24) rfl))))) rfl
set_option maxRecDepth 20000 in
theorem q_537 : (Jvm.Cond.methodLink "BoilerDesk$Plant" (43 : Nat) ({ cls := "java/lang/Math", name := "min", desc := "(II)I" } : Jvm.MethodName)) ∈ lw_st := st_in (List.mem_append_right _ (List.mem_append_right _ (List.mem_append_right _ (List.mem_append_left _ (List.mem_of_getElem? (i := 25) rfl))))) rfl
set_option maxRecDepth 20000 in
theorem q_538 : (Jvm.Cond.methodLink "BoilerDesk$Plant" (49 : Nat) ({ cls := "java/lang/Math", name := "max", desc := "(II)I" } : Jvm.MethodName)) ∈ lw_st := st_in (List.mem_append_right _ (List.mem_append_right _ (List.mem_append_right _ (List.mem_append_left _ (List.mem_of_getElem? (i := 26) rfl))))) rfl
set_option maxRecDepth 20000 in
theorem q_539 : (Jvm.Cond.methodLink "BoilerDesk" (236 : Nat) ({ cls := "BoilerDesk", name := "detectFailures", desc := "()V" } : Jvm.MethodName)) ∈ lw_st := st_in (List.mem_append_right _ (List.mem_append_right _ (List.mem_append_right _ (List.mem_append_left _ (List.mem_of_getElem? (i := 27) rfl))))) rfl
set_option maxRecDepth 20000 in
theorem q_541 : (Jvm.Cond.instanceMethod ({ cls := "BoilerDesk", name := "detectFailures", desc := "()V" } : Jvm.MethodName)) ∈ lw_st := st_in (List.mem_append_right _ (List.mem_append_right _ (List.mem_append_right _ (List.mem_append_left _ (List.mem_of_getElem? (i := 29) rfl))))) rfl
set_option maxRecDepth 20000 in
theorem q_542 : (Jvm.Cond.code ({ cls := "BoilerDesk", name := "detectFailures", desc := "()V" } : Jvm.MethodName) prog_1_method_20_code (2 : Nat) (Option.none : Option Jvm.ClassFile.FieldType)) ∈ lw_st := st_in (List.mem_append_right _ (List.mem_append_right _ (List.mem_append_right _ (List.mem_append_left _ (List.mem_of_getElem? (i := 30) rfl))))) rfl
set_option maxRecDepth 20000 in
theorem q_543 : (Jvm.Cond.methodLink "BoilerDesk" (303 : Nat) ({ cls := "BoilerDesk$Span", name := "holds", desc := "(I)Z" } : Jvm.MethodName)) ∈ lw_st := st_in (List.mem_append_right _ (List.mem_append_right _ (List.mem_append_right _ (List.mem_append_left _ (List.mem_of_getElem? (i := 31) rfl))))) rfl
set_option maxRecDepth 20000 in
theorem q_544 : (Jvm.Cond.instanceMethod ({ cls := "BoilerDesk$Span", name := "holds", desc := "(I)Z" } : Jvm.MethodName)) ∈ lw_st := st_in (List.mem_append_right _ (List.mem_append_right _ (List.mem_append_right _ (List.mem_append_left _ (List.mem_of_getElem? (i := 32) rfl))))) rfl
set_option maxRecDepth 20000 in
theorem q_545 : (Jvm.Cond.selects "BoilerDesk$Span" ({ cls := "BoilerDesk$Span", name := "holds", desc := "(I)Z" } : Jvm.MethodName) ({ cls := "BoilerDesk$Span", name := "holds", desc := "(I)Z" } : Jvm.MethodName)) ∈ lw_st := st_in (List.mem_append_right _ (List.mem_append_right _ (List.mem_append_right _ (List.mem_append_left _ (List.mem_of_getElem? (i := 33) rfl))))) rfl
set_option maxRecDepth 20000 in
theorem q_546 : (Jvm.Cond.code ({ cls := "BoilerDesk$Span", name := "holds", desc := "(I)Z" } : Jvm.MethodName) prog_6_method_3_code (2 : Nat) (Option.some Jvm.ClassFile.FieldType.boolean)) ∈ lw_st := st_in (List.mem_append_right _ (List.mem_append_right _ (List.mem_append_right _ (List.mem_append_left _ (List.mem_of_getElem? (i := 34) rfl))))) rfl
set_option maxRecDepth 20000 in
theorem q_547 : (Jvm.Cond.methodLinkNest "BoilerDesk$Span" (16 : Nat) ({ cls := "BoilerDesk", name := "isWithin", desc := "(III)Z" } : Jvm.MethodName) "BoilerDesk") ∈ lw_st := st_in (List.mem_append_right _ (List.mem_append_right _ (List.mem_append_right _ (List.mem_append_left _ (List.mem_of_getElem? (i := 35) rfl))))) rfl
set_option maxRecDepth 20000 in
theorem q_548 : (Jvm.Cond.methodLink "BoilerDesk" (306 : Nat) ({ cls := "BoilerDesk", name := "detect", desc := "(I)V" } : Jvm.MethodName)) ∈ lw_st := st_in (List.mem_append_right _ (List.mem_append_right _ (List.mem_append_right _ (List.mem_append_left _ (List.mem_of_getElem? (i := 36) rfl))))) rfl
set_option maxRecDepth 20000 in
theorem q_550 : (Jvm.Cond.instanceMethod ({ cls := "BoilerDesk", name := "detect", desc := "(I)V" } : Jvm.MethodName)) ∈ lw_st := st_in (List.mem_append_right _ (List.mem_append_right _ (List.mem_append_right _ (List.mem_append_left _ (List.mem_of_getElem? (i := 38) rfl))))) rfl
set_option maxRecDepth 20000 in
theorem q_551 : (Jvm.Cond.code ({ cls := "BoilerDesk", name := "detect", desc := "(I)V" } : Jvm.MethodName) prog_1_method_22_code (2 : Nat) (Option.none : Option Jvm.ClassFile.FieldType)) ∈ lw_st := st_in (List.mem_append_right _ (List.mem_append_right _ (List.mem_append_right _ (List.mem_append_left _ (List.mem_of_getElem? (i := 39) rfl))))) rfl
set_option maxRecDepth 20000 in
theorem q_552 : (Jvm.Cond.methodLink "BoilerDesk" (315 : Nat) ({ cls := "BoilerDesk$Units", name := "fail", desc := "(I)V" } : Jvm.MethodName)) ∈ lw_st := st_in (List.mem_append_right _ (List.mem_append_right _ (List.mem_append_right _ (List.mem_append_left _ (List.mem_of_getElem? (i := 40) rfl))))) rfl
set_option maxRecDepth 20000 in
theorem q_553 : (Jvm.Cond.instanceMethod ({ cls := "BoilerDesk$Units", name := "fail", desc := "(I)V" } : Jvm.MethodName)) ∈ lw_st := st_in (List.mem_append_right _ (List.mem_append_right _ (List.mem_append_right _ (List.mem_append_left _ (List.mem_of_getElem? (i := 41) rfl))))) rfl
set_option maxRecDepth 20000 in
theorem q_554 : (Jvm.Cond.selects "BoilerDesk$Units" ({ cls := "BoilerDesk$Units", name := "fail", desc := "(I)V" } : Jvm.MethodName) ({ cls := "BoilerDesk$Units", name := "fail", desc := "(I)V" } : Jvm.MethodName)) ∈ lw_st := st_in (List.mem_append_right _ (List.mem_append_right _ (List.mem_append_right _ (List.mem_append_left _ (List.mem_of_getElem? (i := 42) rfl))))) rfl
set_option maxRecDepth 20000 in
theorem q_555 : (Jvm.Cond.code ({ cls := "BoilerDesk$Units", name := "fail", desc := "(I)V" } : Jvm.MethodName) prog_7_method_4_code (2 : Nat) (Option.none : Option Jvm.ClassFile.FieldType)) ∈ lw_st := st_in (List.mem_append_right _ (List.mem_append_right _ (List.mem_append_right _ (List.mem_append_left _ (List.mem_of_getElem? (i := 43) rfl))))) rfl
set_option maxRecDepth 20000 in
theorem q_556 : (Jvm.Cond.methodLink "BoilerDesk" (309 : Nat) ({ cls := "BoilerDesk", name := "isToldWrongly", desc := "(I)Z" } : Jvm.MethodName)) ∈ lw_st := st_in (List.mem_append_right _ (List.mem_append_right _ (List.mem_append_right _ (List.mem_append_left _ (List.mem_of_getElem? (i := 44) rfl))))) rfl
set_option maxRecDepth 20000 in
theorem q_558 : (Jvm.Cond.instanceMethod ({ cls := "BoilerDesk", name := "isToldWrongly", desc := "(I)Z" } : Jvm.MethodName)) ∈ lw_st := st_in (List.mem_append_right _ (List.mem_append_right _ (List.mem_append_right _ (List.mem_append_left _ (List.mem_of_getElem? (i := 46) rfl))))) rfl
set_option maxRecDepth 20000 in
theorem q_559 : (Jvm.Cond.code ({ cls := "BoilerDesk", name := "isToldWrongly", desc := "(I)Z" } : Jvm.MethodName) prog_1_method_21_code (2 : Nat) (Option.some Jvm.ClassFile.FieldType.boolean)) ∈ lw_st := st_in (List.mem_append_right _ (List.mem_append_right _ (List.mem_append_right _ (List.mem_append_left _ (List.mem_of_getElem? (i := 47) rfl))))) rfl
set_option maxRecDepth 20000 in
theorem q_560 : (Jvm.Cond.methodLink "BoilerDesk" (239 : Nat) ({ cls := "BoilerDesk", name := "estimate", desc := "()V" } : Jvm.MethodName)) ∈ lw_st := st_in (List.mem_append_right _ (List.mem_append_right _ (List.mem_append_right _ (List.mem_append_left _ (List.mem_of_getElem? (i := 48) rfl))))) rfl
set_option maxRecDepth 20000 in
theorem q_562 : (Jvm.Cond.instanceMethod ({ cls := "BoilerDesk", name := "estimate", desc := "()V" } : Jvm.MethodName)) ∈ lw_st := st_in (List.mem_append_right _ (List.mem_append_right _ (List.mem_append_right _ (List.mem_append_left _ (List.mem_of_getElem? (i := 50) rfl))))) rfl
set_option maxRecDepth 20000 in
theorem q_563 : (Jvm.Cond.code ({ cls := "BoilerDesk", name := "estimate", desc := "()V" } : Jvm.MethodName) prog_1_method_23_code (1 : Nat) (Option.none : Option Jvm.ClassFile.FieldType)) ∈ lw_st := st_in (List.mem_append_right _ (List.mem_append_right _ (List.mem_append_right _ (List.mem_append_left _ (List.mem_of_getElem? (i := 51) rfl))))) rfl
set_option maxRecDepth 20000 in
theorem q_564 : (Jvm.Cond.methodLink "BoilerDesk" (242 : Nat) ({ cls := "BoilerDesk", name := "modeBehindInitial", desc := "()I" } : Jvm.MethodName)) ∈ lw_st := st_in (List.mem_append_right _ (List.mem_append_right _ (List.mem_append_right _ (List.mem_append_left _ (List.mem_of_getElem? (i := 52) rfl))))) rfl
set_option maxRecDepth 20000 in
theorem q_566 : (Jvm.Cond.instanceMethod ({ cls := "BoilerDesk", name := "modeBehindInitial", desc := "()I" } : Jvm.MethodName)) ∈ lw_st := st_in (List.mem_append_right _ (List.mem_append_right _ (List.mem_append_right _ (List.mem_append_left _ (List.mem_of_getElem? (i := 54) rfl))))) rfl
set_option maxRecDepth 20000 in
theorem q_567 : (Jvm.Cond.code ({ cls := "BoilerDesk", name := "modeBehindInitial", desc := "()I" } : Jvm.MethodName) prog_1_method_24_code (1 : Nat) (Option.some Jvm.ClassFile.FieldType.int)) ∈ lw_st := st_in (List.mem_append_right _ (List.mem_append_right _ (List.mem_append_right _ (List.mem_append_left _ (List.mem_of_getElem? (i := 55) rfl))))) rfl
set_option maxRecDepth 20000 in
theorem q_568 : (Jvm.Cond.methodLink "BoilerDesk" (318 : Nat) ({ cls := "BoilerDesk$Plant", name := "isNormalLevel", desc := "(I)Z" } : Jvm.MethodName)) ∈ lw_st := st_in (List.mem_append_right _ (List.mem_append_right _ (List.mem_append_right _ (List.mem_append_left _ (List.mem_of_getElem? (i := 56) rfl))))) rfl
set_option maxRecDepth 20000 in
theorem q_569 : (Jvm.Cond.instanceMethod ({ cls := "BoilerDesk$Plant", name := "isNormalLevel", desc := "(I)Z" } : Jvm.MethodName)) ∈ lw_st := st_in (List.mem_append_right _ (List.mem_append_right _ (List.mem_append_right _ (List.mem_append_left _ (List.mem_of_getElem? (i := 57) rfl))))) rfl
set_option maxRecDepth 20000 in
theorem q_570 : (Jvm.Cond.selects "BoilerDesk$Plant" ({ cls := "BoilerDesk$Plant", name := "isNormalLevel", desc := "(I)Z" } : Jvm.MethodName) ({ cls := "BoilerDesk$Plant", name := "isNormalLevel", desc := "(I)Z" } : Jvm.MethodName)) ∈ lw_st := st_in (List.mem_append_right _ (List.mem_append_right _ (List.mem_append_right _ (List.mem_append_left _ (List.mem_of_getElem? (i := 58) rfl))))) rfl
set_option maxRecDepth 20000 in
theorem q_571 : (Jvm.Cond.code ({ cls := "BoilerDesk$Plant", name := "isNormalLevel", desc := "(I)Z" } : Jvm.MethodName) prog_4_method_4_code (2 : Nat) (Option.some Jvm.ClassFile.FieldType.boolean)) ∈ lw_st := st_in (List.mem_append_right _ (List.mem_append_right _ (List.mem_append_right _ (List.mem_append_left _ (List.mem_of_getElem? (i := 59) rfl))))) rfl
set_option maxRecDepth 20000 in
theorem q_572 : (Jvm.Cond.methodLinkNest "BoilerDesk$Plant" (37 : Nat) ({ cls := "BoilerDesk", name := "isWithin", desc := "(III)Z" } : Jvm.MethodName) "BoilerDesk") ∈ lw_st := st_in (List.mem_append_right _ (List.mem_append_right _ (List.mem_append_right _ (List.mem_append_left _ (List.mem_of_getElem? (i := 60) rfl))))) rfl
set_option maxRecDepth 20000 in
theorem q_573 : (Jvm.Cond.methodLink "BoilerDesk" (321 : Nat) ({ cls := "BoilerDesk", name := "modeByAnyFailure", desc := "()I" } : Jvm.MethodName)) ∈ lw_st := st_in (List.mem_append_right _ (List.mem_append_right _ (List.mem_append_right _ (List.mem_append_left _ (List.mem_of_getElem? (i := 61) rfl))))) rfl
set_option maxRecDepth 20000 in
theorem q_575 : (Jvm.Cond.instanceMethod ({ cls := "BoilerDesk", name := "modeByAnyFailure", desc := "()I" } : Jvm.MethodName)) ∈ lw_st := st_in (List.mem_append_right _ (List.mem_append_right _ (List.mem_append_right _ (List.mem_append_left _ (List.mem_of_getElem? (i := 63) rfl))))) rfl
set_option maxRecDepth 20000 in
theorem q_576 : (Jvm.Cond.code ({ cls := "BoilerDesk", name := "modeByAnyFailure", desc := "()I" } : Jvm.MethodName) prog_1_method_26_code (1 : Nat) (Option.some Jvm.ClassFile.FieldType.int)) ∈ lw_st := st_in (List.mem_append_right _ (List.mem_append_right _ (List.mem_append_right _ (List.mem_append_left _ (List.mem_of_getElem? (i := 64) rfl))))) rfl
set_option maxRecDepth 20000 in
theorem q_577 : (Jvm.Cond.methodLink "BoilerDesk" (246 : Nat) ({ cls := "BoilerDesk", name := "modeInOperation", desc := "()I" } : Jvm.MethodName)) ∈ lw_st := st_in (List.mem_append_right _ (List.mem_append_right _ (List.mem_append_right _ (List.mem_append_left _ (List.mem_of_getElem? (i := 65) rfl))))) rfl
set_option maxRecDepth 20000 in
theorem q_579 : (Jvm.Cond.instanceMethod ({ cls := "BoilerDesk", name := "modeInOperation", desc := "()I" } : Jvm.MethodName)) ∈ lw_st := st_in (List.mem_append_right _ (List.mem_append_right _ (List.mem_append_right _ (List.mem_append_left _ (List.mem_of_getElem? (i := 67) rfl))))) rfl
set_option maxRecDepth 20000 in
theorem q_580 : (Jvm.Cond.code ({ cls := "BoilerDesk", name := "modeInOperation", desc := "()I" } : Jvm.MethodName) prog_1_method_25_code (2 : Nat) (Option.some Jvm.ClassFile.FieldType.int)) ∈ lw_st := st_in (List.mem_append_right _ (List.mem_append_right _ (List.mem_append_right _ (List.mem_append_left _ (List.mem_of_getElem? (i := 68) rfl))))) rfl
set_option maxRecDepth 20000 in
theorem q_581 : (Jvm.Cond.methodLink "BoilerDesk" (249 : Nat) ({ cls := "BoilerDesk$Machines", name := "remember", desc := "(I)V" } : Jvm.MethodName)) ∈ lw_st := st_in (List.mem_append_right _ (List.mem_append_right _ (List.mem_append_right _ (List.mem_append_left _ (List.mem_of_getElem? (i := 69) rfl))))) rfl
set_option maxRecDepth 20000 in
theorem q_582 : (Jvm.Cond.instanceMethod ({ cls := "BoilerDesk$Machines", name := "remember", desc := "(I)V" } : Jvm.MethodName)) ∈ lw_st := st_in (List.mem_append_right _ (List.mem_append_right _ (List.mem_append_right _ (List.mem_append_left _ (List.mem_of_getElem? (i := 70) rfl))))) rfl
set_option maxRecDepth 20000 in
theorem q_583 : (Jvm.Cond.selects "BoilerDesk$Machines" ({ cls := "BoilerDesk$Machines", name := "remember", desc := "(I)V" } : Jvm.MethodName) ({ cls := "BoilerDesk$Machines", name := "remember", desc := "(I)V" } : Jvm.MethodName)) ∈ lw_st := st_in (List.mem_append_right _ (List.mem_append_right _ (List.mem_append_right _ (List.mem_append_left _ (List.mem_of_getElem? (i := 71) rfl))))) rfl
set_option maxRecDepth 20000 in
theorem q_584 : (Jvm.Cond.code ({ cls := "BoilerDesk$Machines", name := "remember", desc := "(I)V" } : Jvm.MethodName) prog_3_method_2_code (2 : Nat) (Option.none : Option Jvm.ClassFile.FieldType)) ∈ lw_st := st_in (List.mem_append_right _ (List.mem_append_right _ (List.mem_append_right _ (List.mem_append_left _ (List.mem_of_getElem? (i := 72) rfl))))) rfl
set_option maxRecDepth 20000 in
theorem q_585 : (Jvm.Cond.methodLink "BoilerDesk" (252 : Nat) ({ cls := "BoilerDesk", name := "giveCommands", desc := "()V" } : Jvm.MethodName)) ∈ lw_st := st_in (List.mem_append_right _ (List.mem_append_right _ (List.mem_append_right _ (List.mem_append_left _ (List.mem_of_getElem? (i := 73) rfl))))) rfl
set_option maxRecDepth 20000 in
theorem q_587 : (Jvm.Cond.instanceMethod ({ cls := "BoilerDesk", name := "giveCommands", desc := "()V" } : Jvm.MethodName)) ∈ lw_st := st_in (List.mem_append_right _ (List.mem_append_right _ (List.mem_append_right _ (List.mem_append_left _ (List.mem_of_getElem? (i := 75) rfl))))) rfl
set_option maxRecDepth 20000 in
theorem q_588 : (Jvm.Cond.code ({ cls := "BoilerDesk", name := "giveCommands", desc := "()V" } : Jvm.MethodName) prog_1_method_27_code (1 : Nat) (Option.none : Option Jvm.ClassFile.FieldType)) ∈ lw_st := st_in (List.mem_append_right _ (List.mem_append_right _ (List.mem_append_right _ (List.mem_append_left _ (List.mem_of_getElem? (i := 76) rfl))))) rfl
set_option maxRecDepth 20000 in
theorem q_589 : (Jvm.Cond.methodLink "BoilerDesk" (330 : Nat) ({ cls := "BoilerDesk", name := "commandInOperation", desc := "()V" } : Jvm.MethodName)) ∈ lw_st := st_in (List.mem_append_right _ (List.mem_append_right _ (List.mem_append_right _ (List.mem_append_left _ (List.mem_of_getElem? (i := 77) rfl))))) rfl
set_option maxRecDepth 20000 in
theorem q_591 : (Jvm.Cond.instanceMethod ({ cls := "BoilerDesk", name := "commandInOperation", desc := "()V" } : Jvm.MethodName)) ∈ lw_st := st_in (List.mem_append_right _ (List.mem_append_right _ (List.mem_append_right _ (List.mem_append_left _ (List.mem_of_getElem? (i := 79) rfl))))) rfl
set_option maxRecDepth 20000 in
theorem q_592 : (Jvm.Cond.code ({ cls := "BoilerDesk", name := "commandInOperation", desc := "()V" } : Jvm.MethodName) prog_1_method_29_code (3 : Nat) (Option.none : Option Jvm.ClassFile.FieldType)) ∈ lw_st := st_in (List.mem_append_right _ (List.mem_append_right _ (List.mem_append_right _ (List.mem_append_left _ (List.mem_of_getElem? (i := 80) rfl))))) rfl
set_option maxRecDepth 20000 in
theorem q_593 : (Jvm.Cond.methodLink "BoilerDesk" (339 : Nat) ({ cls := "BoilerDesk", name := "commandValve", desc := "(Z)V" } : Jvm.MethodName)) ∈ lw_st := st_in (List.mem_append_right _ (List.mem_append_right _ (List.mem_append_right _ (List.mem_append_left _ (List.mem_of_getElem? (i := 81) rfl))))) rfl
set_option maxRecDepth 20000 in
theorem q_595 : (Jvm.Cond.instanceMethod ({ cls := "BoilerDesk", name := "commandValve", desc := "(Z)V" } : Jvm.MethodName)) ∈ lw_st := st_in (List.mem_append_right _ (List.mem_append_right _ (List.mem_append_right _ (List.mem_append_left _ (List.mem_of_getElem? (i := 83) rfl))))) rfl
set_option maxRecDepth 20000 in
theorem q_596 : (Jvm.Cond.code ({ cls := "BoilerDesk", name := "commandValve", desc := "(Z)V" } : Jvm.MethodName) prog_1_method_32_code (2 : Nat) (Option.none : Option Jvm.ClassFile.FieldType)) ∈ lw_st := st_in (List.mem_append_right _ (List.mem_append_right _ (List.mem_append_right _ (List.mem_append_left _ (List.mem_of_getElem? (i := 84) rfl))))) rfl
set_option maxRecDepth 20000 in
theorem q_597 : (Jvm.Cond.methodLink "BoilerDesk" (346 : Nat) ({ cls := "BoilerDesk", name := "turnOnGoodPumps", desc := "()V" } : Jvm.MethodName)) ∈ lw_st := st_in (List.mem_append_right _ (List.mem_append_right _ (List.mem_append_right _ (List.mem_append_left _ (List.mem_of_getElem? (i := 85) rfl))))) rfl
set_option maxRecDepth 20000 in
theorem q_599 : (Jvm.Cond.instanceMethod ({ cls := "BoilerDesk", name := "turnOnGoodPumps", desc := "()V" } : Jvm.MethodName)) ∈ lw_st := st_in (List.mem_append_right _ (List.mem_append_right _ (List.mem_append_right _ (List.mem_append_left _ (List.mem_of_getElem? (i := 87) rfl))))) rfl
set_option maxRecDepth 20000 in
theorem q_600 : (Jvm.Cond.code ({ cls := "BoilerDesk", name := "turnOnGoodPumps", desc := "()V" } : Jvm.MethodName) prog_1_method_30_code (2 : Nat) (Option.none : Option Jvm.ClassFile.FieldType)) ∈ lw_st := st_in (List.mem_append_right _ (List.mem_append_right _ (List.mem_append_right _ (List.mem_append_left _ (List.mem_of_getElem? (i := 88) rfl))))) rfl
set_option maxRecDepth 20000 in
theorem q_601 : (Jvm.Cond.methodLink "BoilerDesk" (349 : Nat) ({ cls := "BoilerDesk", name := "commandPumps", desc := "(I)V" } : Jvm.MethodName)) ∈ lw_st := st_in (List.mem_append_right _ (List.mem_append_right _ (List.mem_append_right _ (List.mem_append_left _ (List.mem_of_getElem? (i := 89) rfl))))) rfl
set_option maxRecDepth 20000 in
theorem q_603 : (Jvm.Cond.instanceMethod ({ cls := "BoilerDesk", name := "commandPumps", desc := "(I)V" } : Jvm.MethodName)) ∈ lw_st := st_in (List.mem_append_right _ (List.mem_append_right _ (List.mem_append_right _ (List.mem_append_left _ (List.mem_of_getElem? (i := 91) rfl))))) rfl
set_option maxRecDepth 20000 in
theorem q_604 : (Jvm.Cond.code ({ cls := "BoilerDesk", name := "commandPumps", desc := "(I)V" } : Jvm.MethodName) prog_1_method_31_code (2 : Nat) (Option.none : Option Jvm.ClassFile.FieldType)) ∈ lw_st := st_in (List.mem_append_right _ (List.mem_append_right _ (List.mem_append_right _ (List.mem_append_left _ (List.mem_of_getElem? (i := 92) rfl))))) rfl
set_option maxRecDepth 20000 in
theorem q_605 : (Jvm.Cond.methodLink "BoilerDesk" (333 : Nat) ({ cls := "BoilerDesk", name := "commandInInitial", desc := "()V" } : Jvm.MethodName)) ∈ lw_st := st_in (List.mem_append_right _ (List.mem_append_right _ (List.mem_append_right _ (List.mem_append_left _ (List.mem_of_getElem? (i := 93) rfl))))) rfl
set_option maxRecDepth 20000 in
theorem q_607 : (Jvm.Cond.instanceMethod ({ cls := "BoilerDesk", name := "commandInInitial", desc := "()V" } : Jvm.MethodName)) ∈ lw_st := st_in (List.mem_append_right _ (List.mem_append_right _ (List.mem_append_right _ (List.mem_append_left _ (List.mem_of_getElem? (i := 95) rfl))))) rfl
set_option maxRecDepth 20000 in
theorem q_608 : (Jvm.Cond.code ({ cls := "BoilerDesk", name := "commandInInitial", desc := "()V" } : Jvm.MethodName) prog_1_method_28_code (1 : Nat) (Option.none : Option Jvm.ClassFile.FieldType)) ∈ lw_st := st_in (List.mem_append_right _ (List.mem_append_right _ (List.mem_append_right _ (List.mem_append_left _ (List.mem_of_getElem? (i := 96) rfl))))) rfl
set_option maxRecDepth 20000 in
theorem q_609 : (Jvm.Cond.methodLink "BoilerDeskLaw" (77 : Nat) ({ cls := "BoilerDeskLaw", name := "told", desc := "(LBoilerDesk;I[J)I" } : Jvm.MethodName)) ∈ lw_st := st_in (List.mem_append_right _ (List.mem_append_right _ (List.mem_append_right _ (List.mem_append_left _ (List.mem_of_getElem? (i := 97) rfl))))) rfl
set_option maxRecDepth 20000 in
theorem q_610 : (Jvm.Cond.static ({ cls := "BoilerDeskLaw", name := "told", desc := "(LBoilerDesk;I[J)I" } : Jvm.MethodName)) ∈ lw_st := st_in (List.mem_append_right _ (List.mem_append_right _ (List.mem_append_right _ (List.mem_append_left _ (List.mem_of_getElem? (i := 98) rfl))))) rfl
set_option maxRecDepth 20000 in
theorem q_611 : (Jvm.Cond.codeWith ({ cls := "BoilerDeskLaw", name := "told", desc := "(LBoilerDesk;I[J)I" } : Jvm.MethodName) method_8_code (4 : Nat) (Option.some Jvm.ClassFile.FieldType.int) [((0 : Nat), (9 : Nat), (12 : Nat), (13 : Nat))]) ∈ lw_st := st_in (List.mem_append_right _ (List.mem_append_right _ (List.mem_append_right _ (List.mem_append_left _ (List.mem_of_getElem? (i := 99) rfl))))) rfl
set_option maxRecDepth 20000 in
theorem q_612 : (Jvm.Cond.methodLink "BoilerDeskLaw" (33 : Nat) ({ cls := "BoilerDesk", name := "told", desc := "(I)I" } : Jvm.MethodName)) ∈ lw_st := st_in (List.mem_append_right _ (List.mem_append_right _ (List.mem_append_right _ (List.mem_append_left _ (List.mem_of_getElem? (i := 100) rfl))))) rfl
set_option maxRecDepth 20000 in
theorem q_613 : (Jvm.Cond.instanceMethod ({ cls := "BoilerDesk", name := "told", desc := "(I)I" } : Jvm.MethodName)) ∈ lw_st := st_in (List.mem_append_right _ (List.mem_append_right _ (List.mem_append_right _ (List.mem_append_left _ (List.mem_of_getElem? (i := 101) rfl))))) rfl
set_option maxRecDepth 20000 in
theorem q_614 : (Jvm.Cond.selects "BoilerDesk" ({ cls := "BoilerDesk", name := "told", desc := "(I)I" } : Jvm.MethodName) ({ cls := "BoilerDesk", name := "told", desc := "(I)I" } : Jvm.MethodName)) ∈ lw_st := st_in (List.mem_append_right _ (List.mem_append_right _ (List.mem_append_right _ (List.mem_append_left _ (List.mem_of_getElem? (i := 102) rfl))))) rfl
set_option maxRecDepth 20000 in
theorem q_615 : (Jvm.Cond.code ({ cls := "BoilerDesk", name := "told", desc := "(I)I" } : Jvm.MethodName) prog_1_method_9_code (2 : Nat) (Option.some Jvm.ClassFile.FieldType.int)) ∈ lw_st := st_in (List.mem_append_right _ (List.mem_append_right _ (List.mem_append_right _ (List.mem_append_left _ (List.mem_of_getElem? (i := 103) rfl))))) rfl
set_option maxRecDepth 20000 in
theorem q_617 : (Jvm.Cond.methodLink "BoilerDeskLaw" (81 : Nat) ({ cls := "BoilerDeskLaw", name := "state", desc := "(LBoilerDesk;I[J)I" } : Jvm.MethodName)) ∈ lw_st := st_in (List.mem_append_right _ (List.mem_append_right _ (List.mem_append_right _ (List.mem_append_left _ (List.mem_of_getElem? (i := 105) rfl))))) rfl
set_option maxRecDepth 20000 in
theorem q_618 : (Jvm.Cond.static ({ cls := "BoilerDeskLaw", name := "state", desc := "(LBoilerDesk;I[J)I" } : Jvm.MethodName)) ∈ lw_st := st_in (List.mem_append_right _ (List.mem_append_right _ (List.mem_append_right _ (List.mem_append_left _ (List.mem_of_getElem? (i := 106) rfl))))) rfl
set_option maxRecDepth 20000 in
theorem q_619 : (Jvm.Cond.codeWith ({ cls := "BoilerDeskLaw", name := "state", desc := "(LBoilerDesk;I[J)I" } : Jvm.MethodName) method_9_code (4 : Nat) (Option.some Jvm.ClassFile.FieldType.int) [((0 : Nat), (9 : Nat), (12 : Nat), (13 : Nat))]) ∈ lw_st := st_in (List.mem_append_right _ (List.mem_append_right _ (List.mem_append_right _ (List.mem_append_left _ (List.mem_of_getElem? (i := 107) rfl))))) rfl
set_option maxRecDepth 20000 in
theorem q_620 : (Jvm.Cond.methodLink "BoilerDeskLaw" (37 : Nat) ({ cls := "BoilerDesk", name := "state", desc := "(I)I" } : Jvm.MethodName)) ∈ lw_st := st_in (List.mem_append_right _ (List.mem_append_right _ (List.mem_append_right _ (List.mem_append_left _ (List.mem_of_getElem? (i := 108) rfl))))) rfl
set_option maxRecDepth 20000 in
theorem q_621 : (Jvm.Cond.instanceMethod ({ cls := "BoilerDesk", name := "state", desc := "(I)I" } : Jvm.MethodName)) ∈ lw_st := st_in (List.mem_append_right _ (List.mem_append_right _ (List.mem_append_right _ (List.mem_append_left _ (List.mem_of_getElem? (i := 109) rfl))))) rfl
set_option maxRecDepth 20000 in
theorem q_622 : (Jvm.Cond.selects "BoilerDesk" ({ cls := "BoilerDesk", name := "state", desc := "(I)I" } : Jvm.MethodName) ({ cls := "BoilerDesk", name := "state", desc := "(I)I" } : Jvm.MethodName)) ∈ lw_st := st_in (List.mem_append_right _ (List.mem_append_right _ (List.mem_append_right _ (List.mem_append_left _ (List.mem_of_getElem? (i := 110) rfl))))) rfl
set_option maxRecDepth 20000 in
theorem q_623 : (Jvm.Cond.code ({ cls := "BoilerDesk", name := "state", desc := "(I)I" } : Jvm.MethodName) prog_1_method_10_code (2 : Nat) (Option.some Jvm.ClassFile.FieldType.int)) ∈ lw_st := st_in (List.mem_append_right _ (List.mem_append_right _ (List.mem_append_right _ (List.mem_append_left _ (List.mem_of_getElem? (i := 111) rfl))))) rfl
set_option maxRecDepth 20000 in
theorem q_625 : (Jvm.Cond.classLink "BoilerDeskLaw" (41 : Nat) "BoilerDeskModel") ∈ lw_st := st_in (List.mem_append_right _ (List.mem_append_right _ (List.mem_append_right _ (List.mem_append_left _ (List.mem_of_getElem? (i := 113) rfl))))) rfl
set_option maxRecDepth 20000 in
theorem q_626 : (Jvm.Cond.instantiable "BoilerDeskModel" (43 : Nat)) ∈ lw_st := st_in (List.mem_append_right _ (List.mem_append_right _ (List.mem_append_right _ (List.mem_append_left _ (List.mem_of_getElem? (i := 114) rfl))))) rfl
set_option maxRecDepth 20000 in
theorem q_627 : (Jvm.Cond.methodLink "BoilerDeskLaw" (43 : Nat) ({ cls := "BoilerDeskModel", name := "<init>", desc := "()V" } : Jvm.MethodName)) ∈ lw_st := st_in (List.mem_append_right _ (List.mem_append_right _ (List.mem_append_right _ (List.mem_append_left _ (List.mem_of_getElem? (i := 115) rfl))))) rfl
set_option maxRecDepth 20000 in
theorem q_628 : (Jvm.Cond.instanceMethod ({ cls := "BoilerDeskModel", name := "<init>", desc := "()V" } : Jvm.MethodName)) ∈ lw_st := st_in (List.mem_append_right _ (List.mem_append_right _ (List.mem_append_right _ (List.mem_append_left _ (List.mem_of_getElem? (i := 116) rfl))))) rfl
set_option maxRecDepth 20000 in
theorem q_629 : (Jvm.Cond.code ({ cls := "BoilerDeskModel", name := "<init>", desc := "()V" } : Jvm.MethodName) prog_9_method_1_code (1 : Nat) (Option.none : Option Jvm.ClassFile.FieldType)) ∈ lw_st := st_in (List.mem_append_right _ (List.mem_append_right _ (List.mem_append_right _ (List.mem_append_left _ (List.mem_of_getElem? (i := 117) rfl))))) rfl
set_option maxRecDepth 20000 in
theorem q_630 : (Jvm.Cond.methodLink "BoilerDeskModel" (1 : Nat) ({ cls := "java/lang/Object", name := "<init>", desc := "()V" } : Jvm.MethodName)) ∈ lw_st := st_in (List.mem_append_right _ (List.mem_append_right _ (List.mem_append_right _ (List.mem_append_left _ (List.mem_of_getElem? (i := 118) rfl))))) rfl
set_option maxRecDepth 20000 in
theorem q_631 : (Jvm.Cond.methodLink "BoilerDeskModel" (46 : Nat) ({ cls := "BoilerDeskModel", name := "anew", desc := "(IIIIIIIII)V" } : Jvm.MethodName)) ∈ lw_st := st_in (List.mem_append_right _ (List.mem_append_right _ (List.mem_append_right _ (List.mem_append_left _ (List.mem_of_getElem? (i := 119) rfl))))) rfl
set_option maxRecDepth 20000 in
theorem q_633 : (Jvm.Cond.instanceMethod ({ cls := "BoilerDeskModel", name := "anew", desc := "(IIIIIIIII)V" } : Jvm.MethodName)) ∈ lw_st := st_in (List.mem_append_right _ (List.mem_append_right _ (List.mem_append_right _ (List.mem_append_left _ (List.mem_of_getElem? (i := 121) rfl))))) rfl
set_option maxRecDepth 20000 in
theorem q_634 : (Jvm.Cond.code ({ cls := "BoilerDeskModel", name := "anew", desc := "(IIIIIIIII)V" } : Jvm.MethodName) prog_9_method_5_code (11 : Nat) (Option.none : Option Jvm.ClassFile.FieldType)) ∈ lw_st := st_in (List.mem_append_right _ (List.mem_append_right _ (List.mem_append_right _ (List.mem_append_left _ (List.mem_of_getElem? (i := 122) rfl))))) rfl
set_option maxRecDepth 20000 in
theorem q_635 : (Jvm.Cond.methodLink "BoilerDeskModel" (109 : Nat) ({ cls := "BoilerDeskModel", name := "forget", desc := "()V" } : Jvm.MethodName)) ∈ lw_st := st_in (List.mem_append_right _ (List.mem_append_right _ (List.mem_append_right _ (List.mem_append_left _ (List.mem_of_getElem? (i := 123) rfl))))) rfl
set_option maxRecDepth 20000 in
theorem q_637 : (Jvm.Cond.instanceMethod ({ cls := "BoilerDeskModel", name := "forget", desc := "()V" } : Jvm.MethodName)) ∈ lw_st := st_in (List.mem_append_right _ (List.mem_append_right _ (List.mem_append_right _ (List.mem_append_left _ (List.mem_of_getElem? (i := 125) rfl))))) rfl
set_option maxRecDepth 20000 in
theorem q_638 : (Jvm.Cond.code ({ cls := "BoilerDeskModel", name := "forget", desc := "()V" } : Jvm.MethodName) prog_9_method_6_code (2 : Nat) (Option.none : Option Jvm.ClassFile.FieldType)) ∈ lw_st := st_in (List.mem_append_right _ (List.mem_append_right _ (List.mem_append_right _ (List.mem_append_left _ (List.mem_of_getElem? (i := 126) rfl))))) rfl
set_option maxRecDepth 20000 in
theorem q_639 : (Jvm.Cond.methodLink "BoilerDeskModel" (112 : Nat) ({ cls := "BoilerDeskModel", name := "quiet", desc := "()V" } : Jvm.MethodName)) ∈ lw_st := st_in (List.mem_append_right _ (List.mem_append_right _ (List.mem_append_right _ (List.mem_append_left _ (List.mem_of_getElem? (i := 127) rfl))))) rfl
set_option maxRecDepth 20000 in
theorem q_641 : (Jvm.Cond.instanceMethod ({ cls := "BoilerDeskModel", name := "quiet", desc := "()V" } : Jvm.MethodName)) ∈ lw_st := st_in (List.mem_append_right _ (List.mem_append_right _ (List.mem_append_right _ (List.mem_append_left _ (List.mem_of_getElem? (i := 129) rfl))))) rfl
set_option maxRecDepth 20000 in
theorem q_642 : (Jvm.Cond.code ({ cls := "BoilerDeskModel", name := "quiet", desc := "()V" } : Jvm.MethodName) prog_9_method_7_code (1 : Nat) (Option.none : Option Jvm.ClassFile.FieldType)) ∈ lw_st := st_in (List.mem_append_right _ (List.mem_append_right _ (List.mem_append_right _ (List.mem_append_left _ (List.mem_of_getElem? (i := 130) rfl))))) rfl
set_option maxRecDepth 20000 in
theorem q_643 : (Jvm.Cond.fieldLink "BoilerDeskModel" (50 : Nat) "BoilerDeskModel" "err" "I") ∈ lw_st := st_in (List.mem_append_right _ (List.mem_append_right _ (List.mem_append_right _ (List.mem_append_left _ (List.mem_of_getElem? (i := 131) rfl))))) rfl
set_option maxRecDepth 20000 in
theorem q_644 : (Jvm.Cond.fieldLink "BoilerDeskModel" (54 : Nat) "BoilerDeskModel" "c" "I") ∈ lw_st := st_in (List.mem_append_right _ (List.mem_append_right _ (List.mem_append_right _ (List.mem_append_left _ (List.mem_of_getElem? (i := 132) rfl))))) rfl
set_option maxRecDepth 20000 in
theorem q_645 : (Jvm.Cond.fieldLink "BoilerDeskModel" (57 : Nat) "BoilerDeskModel" "m1" "I") ∈ lw_st := st_in (List.mem_append_right _ (List.mem_append_right _ (List.mem_append_right _ (List.mem_append_left _ (List.mem_of_getElem? (i := 133) rfl))))) rfl
set_option maxRecDepth 20000 in
theorem q_646 : (Jvm.Cond.fieldLink "BoilerDeskModel" (60 : Nat) "BoilerDeskModel" "n1" "I") ∈ lw_st := st_in (List.mem_append_right _ (List.mem_append_right _ (List.mem_append_right _ (List.mem_append_left _ (List.mem_of_getElem? (i := 134) rfl))))) rfl
set_option maxRecDepth 20000 in
theorem q_647 : (Jvm.Cond.fieldLink "BoilerDeskModel" (63 : Nat) "BoilerDeskModel" "n2" "I") ∈ lw_st := st_in (List.mem_append_right _ (List.mem_append_right _ (List.mem_append_right _ (List.mem_append_left _ (List.mem_of_getElem? (i := 135) rfl))))) rfl
set_option maxRecDepth 20000 in
theorem q_648 : (Jvm.Cond.fieldLink "BoilerDeskModel" (66 : Nat) "BoilerDeskModel" "m2" "I") ∈ lw_st := st_in (List.mem_append_right _ (List.mem_append_right _ (List.mem_append_right _ (List.mem_append_left _ (List.mem_of_getElem? (i := 136) rfl))))) rfl
set_option maxRecDepth 20000 in
theorem q_649 : (Jvm.Cond.fieldLink "BoilerDeskModel" (69 : Nat) "BoilerDeskModel" "most" "I") ∈ lw_st := st_in (List.mem_append_right _ (List.mem_append_right _ (List.mem_append_right _ (List.mem_append_left _ (List.mem_of_getElem? (i := 137) rfl))))) rfl
set_option maxRecDepth 20000 in
theorem q_650 : (Jvm.Cond.fieldLink "BoilerDeskModel" (72 : Nat) "BoilerDeskModel" "up" "I") ∈ lw_st := st_in (List.mem_append_right _ (List.mem_append_right _ (List.mem_append_right _ (List.mem_append_left _ (List.mem_of_getElem? (i := 138) rfl))))) rfl
set_option maxRecDepth 20000 in
theorem q_651 : (Jvm.Cond.fieldLink "BoilerDeskModel" (75 : Nat) "BoilerDeskModel" "down" "I") ∈ lw_st := st_in (List.mem_append_right _ (List.mem_append_right _ (List.mem_append_right _ (List.mem_append_left _ (List.mem_of_getElem? (i := 139) rfl))))) rfl
set_option maxRecDepth 20000 in
theorem q_652 : (Jvm.Cond.fieldLink "BoilerDeskModel" (78 : Nat) "BoilerDeskModel" "gives" "I") ∈ lw_st := st_in (List.mem_append_right _ (List.mem_append_right _ (List.mem_append_right _ (List.mem_append_left _ (List.mem_of_getElem? (i := 140) rfl))))) rfl
set_option maxRecDepth 20000 in
theorem q_653 : (Jvm.Cond.fieldLink "BoilerDeskModel" (81 : Nat) "BoilerDeskModel" "mode" "I") ∈ lw_st := st_in (List.mem_append_right _ (List.mem_append_right _ (List.mem_append_right _ (List.mem_append_left _ (List.mem_of_getElem? (i := 141) rfl))))) rfl
set_option maxRecDepth 20000 in
theorem q_654 : (Jvm.Cond.fieldLink "BoilerDeskModel" (84 : Nat) "BoilerDeskModel" "cycles" "I") ∈ lw_st := st_in (List.mem_append_right _ (List.mem_append_right _ (List.mem_append_right _ (List.mem_append_left _ (List.mem_of_getElem? (i := 142) rfl))))) rfl
set_option maxRecDepth 20000 in
theorem q_655 : (Jvm.Cond.fieldLink "BoilerDeskModel" (87 : Nat) "BoilerDeskModel" "low" "I") ∈ lw_st := st_in (List.mem_append_right _ (List.mem_append_right _ (List.mem_append_right _ (List.mem_append_left _ (List.mem_of_getElem? (i := 143) rfl))))) rfl
set_option maxRecDepth 20000 in
theorem q_656 : (Jvm.Cond.fieldLink "BoilerDeskModel" (90 : Nat) "BoilerDeskModel" "high" "I") ∈ lw_st := st_in (List.mem_append_right _ (List.mem_append_right _ (List.mem_append_right _ (List.mem_append_left _ (List.mem_of_getElem? (i := 144) rfl))))) rfl
set_option maxRecDepth 20000 in
theorem q_657 : (Jvm.Cond.fieldLink "BoilerDeskModel" (93 : Nat) "BoilerDeskModel" "least" "I") ∈ lw_st := st_in (List.mem_append_right _ (List.mem_append_right _ (List.mem_append_right _ (List.mem_append_left _ (List.mem_of_getElem? (i := 145) rfl))))) rfl
set_option maxRecDepth 20000 in
theorem q_658 : (Jvm.Cond.fieldLink "BoilerDeskModel" (96 : Nat) "BoilerDeskModel" "greatest" "I") ∈ lw_st := st_in (List.mem_append_right _ (List.mem_append_right _ (List.mem_append_right _ (List.mem_append_left _ (List.mem_of_getElem? (i := 146) rfl))))) rfl
set_option maxRecDepth 20000 in
theorem q_659 : (Jvm.Cond.fieldLink "BoilerDeskModel" (99 : Nat) "BoilerDeskModel" "stops" "I") ∈ lw_st := st_in (List.mem_append_right _ (List.mem_append_right _ (List.mem_append_right _ (List.mem_append_left _ (List.mem_of_getElem? (i := 147) rfl))))) rfl
set_option maxRecDepth 20000 in
theorem q_660 : (Jvm.Cond.fieldLink "BoilerDeskModel" (130 : Nat) "BoilerDeskModel" "detected" "I") ∈ lw_st := st_in (List.mem_append_right _ (List.mem_append_right _ (List.mem_append_right _ (List.mem_append_left _ (List.mem_of_getElem? (i := 148) rfl))))) rfl
set_option maxRecDepth 20000 in
theorem q_661 : (Jvm.Cond.fieldLink "BoilerDeskModel" (133 : Nat) "BoilerDeskModel" "repaired" "I") ∈ lw_st := st_in (List.mem_append_right _ (List.mem_append_right _ (List.mem_append_right _ (List.mem_append_left _ (List.mem_of_getElem? (i := 149) rfl))))) rfl
set_option maxRecDepth 20000 in
theorem q_662 : (Jvm.Cond.fieldLink "BoilerDeskModel" (136 : Nat) "BoilerDeskModel" "pumpsTold" "I") ∈ lw_st := st_in (List.mem_append_right _ (List.mem_append_right _ (List.mem_append_right _ (List.mem_append_left _ (List.mem_of_getElem? (i := 150) rfl))))) rfl
set_option maxRecDepth 20000 in
theorem q_663 : (Jvm.Cond.fieldLink "BoilerDeskModel" (139 : Nat) "BoilerDeskModel" "valveTold" "I") ∈ lw_st := st_in (List.mem_append_right _ (List.mem_append_right _ (List.mem_append_right _ (List.mem_append_left _ (List.mem_of_getElem? (i := 151) rfl))))) rfl
set_option maxRecDepth 20000 in
theorem q_664 : (Jvm.Cond.fieldLink "BoilerDeskModel" (142 : Nat) "BoilerDeskModel" "readyTold" "I") ∈ lw_st := st_in (List.mem_append_right _ (List.mem_append_right _ (List.mem_append_right _ (List.mem_append_left _ (List.mem_of_getElem? (i := 152) rfl))))) rfl
set_option maxRecDepth 20000 in
theorem q_665 : (Jvm.Cond.fieldLink "BoilerDeskModel" (102 : Nat) "BoilerDeskModel" "valve" "Z") ∈ lw_st := st_in (List.mem_append_right _ (List.mem_append_right _ (List.mem_append_right _ (List.mem_append_left _ (List.mem_of_getElem? (i := 153) rfl))))) rfl
set_option maxRecDepth 20000 in
theorem q_666 : (Jvm.Cond.fieldLink "BoilerDeskModel" (106 : Nat) "BoilerDeskModel" "waited" "Z") ∈ lw_st := st_in (List.mem_append_right _ (List.mem_append_right _ (List.mem_append_right _ (List.mem_append_left _ (List.mem_of_getElem? (i := 154) rfl))))) rfl
set_option maxRecDepth 20000 in
theorem q_667 : (Jvm.Cond.fieldLink "BoilerDeskModel" (7 : Nat) "BoilerDeskModel" "failed" "[Z") ∈ lw_st := st_in (List.mem_append_right _ (List.mem_append_right _ (List.mem_append_right _ (List.mem_append_left _ (List.mem_of_getElem? (i := 155) rfl))))) rfl
set_option maxRecDepth 20000 in
theorem q_668 : (Jvm.Cond.fieldLink "BoilerDeskModel" (13 : Nat) "BoilerDeskModel" "known" "[Z") ∈ lw_st := st_in (List.mem_append_right _ (List.mem_append_right _ (List.mem_append_right _ (List.mem_append_left _ (List.mem_of_getElem? (i := 156) rfl))))) rfl
set_option maxRecDepth 20000 in
theorem q_669 : (Jvm.Cond.fieldLink "BoilerDeskModel" (16 : Nat) "BoilerDeskModel" "wasFailed" "[Z") ∈ lw_st := st_in (List.mem_append_right _ (List.mem_append_right _ (List.mem_append_right _ (List.mem_append_left _ (List.mem_of_getElem? (i := 157) rfl))))) rfl
set_option maxRecDepth 20000 in
theorem q_670 : (Jvm.Cond.fieldLink "BoilerDeskModel" (19 : Nat) "BoilerDeskModel" "on" "[Z") ∈ lw_st := st_in (List.mem_append_right _ (List.mem_append_right _ (List.mem_append_right _ (List.mem_append_left _ (List.mem_of_getElem? (i := 158) rfl))))) rfl
set_option maxRecDepth 20000 in
theorem q_671 : (Jvm.Cond.fieldLink "BoilerDeskModel" (22 : Nat) "BoilerDeskModel" "before" "[Z") ∈ lw_st := st_in (List.mem_append_right _ (List.mem_append_right _ (List.mem_append_right _ (List.mem_append_left _ (List.mem_of_getElem? (i := 159) rfl))))) rfl
set_option maxRecDepth 20000 in
theorem q_672 : (Jvm.Cond.fieldLink "BoilerDeskModel" (25 : Nat) "BoilerDeskModel" "gave" "[Z") ∈ lw_st := st_in (List.mem_append_right _ (List.mem_append_right _ (List.mem_append_right _ (List.mem_append_left _ (List.mem_of_getElem? (i := 160) rfl))))) rfl
set_option maxRecDepth 20000 in
theorem q_673 : (Jvm.Cond.fieldLink "BoilerDeskModel" (155 : Nat) "BoilerDeskModel" "level" "I") ∈ lw_st := st_in (List.mem_append_right _ (List.mem_append_right _ (List.mem_append_right _ (List.mem_append_left _ (List.mem_of_getElem? (i := 161) rfl))))) rfl
set_option maxRecDepth 20000 in
theorem q_674 : (Jvm.Cond.fieldLink "BoilerDeskModel" (158 : Nat) "BoilerDeskModel" "steam" "I") ∈ lw_st := st_in (List.mem_append_right _ (List.mem_append_right _ (List.mem_append_right _ (List.mem_append_left _ (List.mem_of_getElem? (i := 162) rfl))))) rfl
set_option maxRecDepth 20000 in
theorem q_675 : (Jvm.Cond.fieldLink "BoilerDeskModel" (115 : Nat) "BoilerDeskModel" "isLevel" "Z") ∈ lw_st := st_in (List.mem_append_right _ (List.mem_append_right _ (List.mem_append_right _ (List.mem_append_left _ (List.mem_of_getElem? (i := 163) rfl))))) rfl
set_option maxRecDepth 20000 in
theorem q_676 : (Jvm.Cond.fieldLink "BoilerDeskModel" (118 : Nat) "BoilerDeskModel" "isSteam" "Z") ∈ lw_st := st_in (List.mem_append_right _ (List.mem_append_right _ (List.mem_append_right _ (List.mem_append_left _ (List.mem_of_getElem? (i := 164) rfl))))) rfl
set_option maxRecDepth 20000 in
theorem q_677 : (Jvm.Cond.fieldLink "BoilerDeskModel" (121 : Nat) "BoilerDeskModel" "waiting" "Z") ∈ lw_st := st_in (List.mem_append_right _ (List.mem_append_right _ (List.mem_append_right _ (List.mem_append_left _ (List.mem_of_getElem? (i := 165) rfl))))) rfl
set_option maxRecDepth 20000 in
theorem q_678 : (Jvm.Cond.fieldLink "BoilerDeskModel" (124 : Nat) "BoilerDeskModel" "ready" "Z") ∈ lw_st := st_in (List.mem_append_right _ (List.mem_append_right _ (List.mem_append_right _ (List.mem_append_left _ (List.mem_of_getElem? (i := 166) rfl))))) rfl
set_option maxRecDepth 20000 in
theorem q_679 : (Jvm.Cond.fieldLink "BoilerDeskModel" (127 : Nat) "BoilerDeskModel" "stop" "Z") ∈ lw_st := st_in (List.mem_append_right _ (List.mem_append_right _ (List.mem_append_right _ (List.mem_append_left _ (List.mem_of_getElem? (i := 167) rfl))))) rfl
set_option maxRecDepth 20000 in
theorem q_680 : (Jvm.Cond.fieldLink "BoilerDeskModel" (28 : Nat) "BoilerDeskModel" "isPump" "[Z") ∈ lw_st := st_in (List.mem_append_right _ (List.mem_append_right _ (List.mem_append_right _ (List.mem_append_left _ (List.mem_of_getElem? (i := 168) rfl))))) rfl
set_option maxRecDepth 20000 in
theorem q_681 : (Jvm.Cond.fieldLink "BoilerDeskModel" (31 : Nat) "BoilerDeskModel" "saysOn" "[Z") ∈ lw_st := st_in (List.mem_append_right _ (List.mem_append_right _ (List.mem_append_right _ (List.mem_append_left _ (List.mem_of_getElem? (i := 169) rfl))))) rfl
set_option maxRecDepth 20000 in
theorem q_682 : (Jvm.Cond.fieldLink "BoilerDeskModel" (34 : Nat) "BoilerDeskModel" "saysGives" "[Z") ∈ lw_st := st_in (List.mem_append_right _ (List.mem_append_right _ (List.mem_append_right _ (List.mem_append_left _ (List.mem_of_getElem? (i := 170) rfl))))) rfl
set_option maxRecDepth 20000 in
theorem q_683 : (Jvm.Cond.fieldLink "BoilerDeskModel" (37 : Nat) "BoilerDeskModel" "repair" "[Z") ∈ lw_st := st_in (List.mem_append_right _ (List.mem_append_right _ (List.mem_append_right _ (List.mem_append_left _ (List.mem_of_getElem? (i := 171) rfl))))) rfl
set_option maxRecDepth 20000 in
theorem q_684 : (Jvm.Cond.fieldLink "BoilerDeskModel" (40 : Nat) "BoilerDeskModel" "knows" "[Z") ∈ lw_st := st_in (List.mem_append_right _ (List.mem_append_right _ (List.mem_append_right _ (List.mem_append_left _ (List.mem_of_getElem? (i := 172) rfl))))) rfl
set_option maxRecDepth 20000 in
theorem q_685 : (Jvm.Cond.fieldLink "BoilerDeskModel" (43 : Nat) "BoilerDeskModel" "now" "[Z") ∈ lw_st := st_in (List.mem_append_right _ (List.mem_append_right _ (List.mem_append_right _ (List.mem_append_left _ (List.mem_of_getElem? (i := 173) rfl))))) rfl
set_option maxRecDepth 20000 in
theorem q_686 : (Jvm.Cond.lays "BoilerDeskModel" "BoilerDeskModel" "err" "I") ∈ lw_st := st_in (List.mem_append_right _ (List.mem_append_right _ (List.mem_append_right _ (List.mem_append_left _ (List.mem_of_getElem? (i := 174) rfl))))) rfl
set_option maxRecDepth 20000 in
theorem q_688 : (Jvm.Cond.lays "BoilerDeskModel" "BoilerDeskModel" "c" "I") ∈ lw_st := st_in (List.mem_append_right _ (List.mem_append_right _ (List.mem_append_right _ (List.mem_append_left _ (List.mem_of_getElem? (i := 176) rfl))))) rfl
set_option maxRecDepth 20000 in
theorem q_690 : (Jvm.Cond.lays "BoilerDeskModel" "BoilerDeskModel" "m1" "I") ∈ lw_st := st_in (List.mem_append_right _ (List.mem_append_right _ (List.mem_append_right _ (List.mem_append_left _ (List.mem_of_getElem? (i := 178) rfl))))) rfl
set_option maxRecDepth 20000 in
theorem q_692 : (Jvm.Cond.lays "BoilerDeskModel" "BoilerDeskModel" "n1" "I") ∈ lw_st := st_in (List.mem_append_right _ (List.mem_append_right _ (List.mem_append_right _ (List.mem_append_left _ (List.mem_of_getElem? (i := 180) rfl))))) rfl
set_option maxRecDepth 20000 in
theorem q_694 : (Jvm.Cond.lays "BoilerDeskModel" "BoilerDeskModel" "n2" "I") ∈ lw_st := st_in (List.mem_append_right _ (List.mem_append_right _ (List.mem_append_right _ (List.mem_append_left _ (List.mem_of_getElem? (i := 182) rfl))))) rfl
set_option maxRecDepth 20000 in
theorem q_696 : (Jvm.Cond.lays "BoilerDeskModel" "BoilerDeskModel" "m2" "I") ∈ lw_st := st_in (List.mem_append_right _ (List.mem_append_right _ (List.mem_append_right _ (List.mem_append_left _ (List.mem_of_getElem? (i := 184) rfl))))) rfl
set_option maxRecDepth 20000 in
theorem q_698 : (Jvm.Cond.lays "BoilerDeskModel" "BoilerDeskModel" "most" "I") ∈ lw_st := st_in (List.mem_append_right _ (List.mem_append_right _ (List.mem_append_right _ (List.mem_append_left _ (List.mem_of_getElem? (i := 186) rfl))))) rfl
set_option maxRecDepth 20000 in
theorem q_700 : (Jvm.Cond.lays "BoilerDeskModel" "BoilerDeskModel" "up" "I") ∈ lw_st := st_in (List.mem_append_right _ (List.mem_append_right _ (List.mem_append_right _ (List.mem_append_left _ (List.mem_of_getElem? (i := 188) rfl))))) rfl
set_option maxRecDepth 20000 in
theorem q_702 : (Jvm.Cond.lays "BoilerDeskModel" "BoilerDeskModel" "down" "I") ∈ lw_st := st_in (List.mem_append_right _ (List.mem_append_right _ (List.mem_append_right _ (List.mem_append_left _ (List.mem_of_getElem? (i := 190) rfl))))) rfl
set_option maxRecDepth 20000 in
theorem q_704 : (Jvm.Cond.lays "BoilerDeskModel" "BoilerDeskModel" "gives" "I") ∈ lw_st := st_in (List.mem_append_right _ (List.mem_append_right _ (List.mem_append_right _ (List.mem_append_left _ (List.mem_of_getElem? (i := 192) rfl))))) rfl
set_option maxRecDepth 20000 in
theorem q_706 : (Jvm.Cond.lays "BoilerDeskModel" "BoilerDeskModel" "mode" "I") ∈ lw_st := st_in (List.mem_append_right _ (List.mem_append_right _ (List.mem_append_right _ (List.mem_append_left _ (List.mem_of_getElem? (i := 194) rfl))))) rfl
set_option maxRecDepth 20000 in
theorem q_708 : (Jvm.Cond.lays "BoilerDeskModel" "BoilerDeskModel" "cycles" "I") ∈ lw_st := st_in (List.mem_append_right _ (List.mem_append_right _ (List.mem_append_right _ (List.mem_append_left _ (List.mem_of_getElem? (i := 196) rfl))))) rfl
set_option maxRecDepth 20000 in
theorem q_710 : (Jvm.Cond.lays "BoilerDeskModel" "BoilerDeskModel" "low" "I") ∈ lw_st := st_in (List.mem_append_right _ (List.mem_append_right _ (List.mem_append_right _ (List.mem_append_left _ (List.mem_of_getElem? (i := 198) rfl))))) rfl
set_option maxRecDepth 20000 in
theorem q_712 : (Jvm.Cond.lays "BoilerDeskModel" "BoilerDeskModel" "high" "I") ∈ lw_st := st_in (List.mem_append_right _ (List.mem_append_right _ (List.mem_append_right _ (List.mem_append_left _ (List.mem_of_getElem? (i := 200) rfl))))) rfl
set_option maxRecDepth 20000 in
theorem q_714 : (Jvm.Cond.lays "BoilerDeskModel" "BoilerDeskModel" "least" "I") ∈ lw_st := st_in (List.mem_append_right _ (List.mem_append_right _ (List.mem_append_right _ (List.mem_append_left _ (List.mem_of_getElem? (i := 202) rfl))))) rfl
set_option maxRecDepth 20000 in
theorem q_716 : (Jvm.Cond.lays "BoilerDeskModel" "BoilerDeskModel" "greatest" "I") ∈ lw_st := st_in (List.mem_append_right _ (List.mem_append_right _ (List.mem_append_right _ (List.mem_append_left _ (List.mem_of_getElem? (i := 204) rfl))))) rfl
set_option maxRecDepth 20000 in
theorem q_718 : (Jvm.Cond.lays "BoilerDeskModel" "BoilerDeskModel" "stops" "I") ∈ lw_st := st_in (List.mem_append_right _ (List.mem_append_right _ (List.mem_append_right _ (List.mem_append_left _ (List.mem_of_getElem? (i := 206) rfl))))) rfl
set_option maxRecDepth 20000 in
theorem q_720 : (Jvm.Cond.lays "BoilerDeskModel" "BoilerDeskModel" "detected" "I") ∈ lw_st := st_in (List.mem_append_right _ (List.mem_append_right _ (List.mem_append_right _ (List.mem_append_left _ (List.mem_of_getElem? (i := 208) rfl))))) rfl
set_option maxRecDepth 20000 in
theorem q_722 : (Jvm.Cond.lays "BoilerDeskModel" "BoilerDeskModel" "repaired" "I") ∈ lw_st := st_in (List.mem_append_right _ (List.mem_append_right _ (List.mem_append_right _ (List.mem_append_left _ (List.mem_of_getElem? (i := 210) rfl))))) rfl
set_option maxRecDepth 20000 in
theorem q_724 : (Jvm.Cond.lays "BoilerDeskModel" "BoilerDeskModel" "pumpsTold" "I") ∈ lw_st := st_in (List.mem_append_right _ (List.mem_append_right _ (List.mem_append_right _ (List.mem_append_left _ (List.mem_of_getElem? (i := 212) rfl))))) rfl
set_option maxRecDepth 20000 in
theorem q_726 : (Jvm.Cond.lays "BoilerDeskModel" "BoilerDeskModel" "valveTold" "I") ∈ lw_st := st_in (List.mem_append_right _ (List.mem_append_right _ (List.mem_append_right _ (List.mem_append_left _ (List.mem_of_getElem? (i := 214) rfl))))) rfl
set_option maxRecDepth 20000 in
theorem q_728 : (Jvm.Cond.lays "BoilerDeskModel" "BoilerDeskModel" "readyTold" "I") ∈ lw_st := st_in (List.mem_append_right _ (List.mem_append_right _ (List.mem_append_right _ (List.mem_append_left _ (List.mem_of_getElem? (i := 216) rfl))))) rfl
set_option maxRecDepth 20000 in
theorem q_730 : (Jvm.Cond.lays "BoilerDeskModel" "BoilerDeskModel" "valve" "Z") ∈ lw_st := st_in (List.mem_append_right _ (List.mem_append_right _ (List.mem_append_right _ (List.mem_append_left _ (List.mem_of_getElem? (i := 218) rfl))))) rfl
set_option maxRecDepth 20000 in
theorem q_732 : (Jvm.Cond.lays "BoilerDeskModel" "BoilerDeskModel" "waited" "Z") ∈ lw_st := st_in (List.mem_append_right _ (List.mem_append_right _ (List.mem_append_right _ (List.mem_append_left _ (List.mem_of_getElem? (i := 220) rfl))))) rfl
set_option maxRecDepth 20000 in
theorem q_734 : (Jvm.Cond.laysFinal "BoilerDeskModel" "BoilerDeskModel" "failed" "[Z") ∈ lw_st := st_in (List.mem_append_right _ (List.mem_append_right _ (List.mem_append_right _ (List.mem_append_left _ (List.mem_of_getElem? (i := 222) rfl))))) rfl
set_option maxRecDepth 20000 in
theorem q_736 : (Jvm.Cond.laysFinal "BoilerDeskModel" "BoilerDeskModel" "known" "[Z") ∈ lw_st := st_in (List.mem_append_right _ (List.mem_append_right _ (List.mem_append_right _ (List.mem_append_left _ (List.mem_of_getElem? (i := 224) rfl))))) rfl
set_option maxRecDepth 20000 in
theorem q_738 : (Jvm.Cond.laysFinal "BoilerDeskModel" "BoilerDeskModel" "wasFailed" "[Z") ∈ lw_st := st_in (List.mem_append_right _ (List.mem_append_right _ (List.mem_append_right _ (List.mem_append_left _ (List.mem_of_getElem? (i := 226) rfl))))) rfl
set_option maxRecDepth 20000 in
theorem q_740 : (Jvm.Cond.laysFinal "BoilerDeskModel" "BoilerDeskModel" "on" "[Z") ∈ lw_st := st_in (List.mem_append_right _ (List.mem_append_right _ (List.mem_append_right _ (List.mem_append_left _ (List.mem_of_getElem? (i := 228) rfl))))) rfl
set_option maxRecDepth 20000 in
theorem q_742 : (Jvm.Cond.laysFinal "BoilerDeskModel" "BoilerDeskModel" "before" "[Z") ∈ lw_st := st_in (List.mem_append_right _ (List.mem_append_right _ (List.mem_append_right _ (List.mem_append_left _ (List.mem_of_getElem? (i := 230) rfl))))) rfl
set_option maxRecDepth 20000 in
theorem q_744 : (Jvm.Cond.laysFinal "BoilerDeskModel" "BoilerDeskModel" "gave" "[Z") ∈ lw_st := st_in (List.mem_append_right _ (List.mem_append_right _ (List.mem_append_right _ (List.mem_append_left _ (List.mem_of_getElem? (i := 232) rfl))))) rfl
set_option maxRecDepth 20000 in
theorem q_746 : (Jvm.Cond.lays "BoilerDeskModel" "BoilerDeskModel" "level" "I") ∈ lw_st := st_in (List.mem_append_right _ (List.mem_append_right _ (List.mem_append_right _ (List.mem_append_left _ (List.mem_of_getElem? (i := 234) rfl))))) rfl
set_option maxRecDepth 20000 in
theorem q_748 : (Jvm.Cond.lays "BoilerDeskModel" "BoilerDeskModel" "steam" "I") ∈ lw_st := st_in (List.mem_append_right _ (List.mem_append_right _ (List.mem_append_right _ (List.mem_append_left _ (List.mem_of_getElem? (i := 236) rfl))))) rfl
set_option maxRecDepth 20000 in
theorem q_750 : (Jvm.Cond.lays "BoilerDeskModel" "BoilerDeskModel" "isLevel" "Z") ∈ lw_st := st_in (List.mem_append_right _ (List.mem_append_right _ (List.mem_append_right _ (List.mem_append_left _ (List.mem_of_getElem? (i := 238) rfl))))) rfl
set_option maxRecDepth 20000 in
theorem q_752 : (Jvm.Cond.lays "BoilerDeskModel" "BoilerDeskModel" "isSteam" "Z") ∈ lw_st := st_in (List.mem_append_right _ (List.mem_append_right _ (List.mem_append_right _ (List.mem_append_right _ (List.mem_of_getElem? (i := 0) rfl))))) rfl
set_option maxRecDepth 20000 in
theorem q_754 : (Jvm.Cond.lays "BoilerDeskModel" "BoilerDeskModel" "waiting" "Z") ∈ lw_st := st_in (List.mem_append_right _ (List.mem_append_right _ (List.mem_append_right _ (List.mem_append_right _ (List.mem_of_getElem? (i := 2) rfl))))) rfl
set_option maxRecDepth 20000 in
theorem q_756 : (Jvm.Cond.lays "BoilerDeskModel" "BoilerDeskModel" "ready" "Z") ∈ lw_st := st_in (List.mem_append_right _ (List.mem_append_right _ (List.mem_append_right _ (List.mem_append_right _ (List.mem_of_getElem? (i := 4) rfl))))) rfl
set_option maxRecDepth 20000 in
theorem q_758 : (Jvm.Cond.lays "BoilerDeskModel" "BoilerDeskModel" "stop" "Z") ∈ lw_st := st_in (List.mem_append_right _ (List.mem_append_right _ (List.mem_append_right _ (List.mem_append_right _ (List.mem_of_getElem? (i := 6) rfl))))) rfl
set_option maxRecDepth 20000 in
theorem q_760 : (Jvm.Cond.laysFinal "BoilerDeskModel" "BoilerDeskModel" "isPump" "[Z") ∈ lw_st := st_in (List.mem_append_right _ (List.mem_append_right _ (List.mem_append_right _ (List.mem_append_right _ (List.mem_of_getElem? (i := 8) rfl))))) rfl
set_option maxRecDepth 20000 in
theorem q_762 : (Jvm.Cond.laysFinal "BoilerDeskModel" "BoilerDeskModel" "saysOn" "[Z") ∈ lw_st := st_in (List.mem_append_right _ (List.mem_append_right _ (List.mem_append_right _ (List.mem_append_right _ (List.mem_of_getElem? (i := 10) rfl))))) rfl
set_option maxRecDepth 20000 in
theorem q_764 : (Jvm.Cond.laysFinal "BoilerDeskModel" "BoilerDeskModel" "saysGives" "[Z") ∈ lw_st := st_in (List.mem_append_right _ (List.mem_append_right _ (List.mem_append_right _ (List.mem_append_right _ (List.mem_of_getElem? (i := 12) rfl))))) rfl
set_option maxRecDepth 20000 in
theorem q_766 : (Jvm.Cond.laysFinal "BoilerDeskModel" "BoilerDeskModel" "repair" "[Z") ∈ lw_st := st_in (List.mem_append_right _ (List.mem_append_right _ (List.mem_append_right _ (List.mem_append_right _ (List.mem_of_getElem? (i := 14) rfl))))) rfl
set_option maxRecDepth 20000 in
theorem q_768 : (Jvm.Cond.laysFinal "BoilerDeskModel" "BoilerDeskModel" "knows" "[Z") ∈ lw_st := st_in (List.mem_append_right _ (List.mem_append_right _ (List.mem_append_right _ (List.mem_append_right _ (List.mem_of_getElem? (i := 16) rfl))))) rfl
set_option maxRecDepth 20000 in
theorem q_770 : (Jvm.Cond.laysFinal "BoilerDeskModel" "BoilerDeskModel" "now" "[Z") ∈ lw_st := st_in (List.mem_append_right _ (List.mem_append_right _ (List.mem_append_right _ (List.mem_append_right _ (List.mem_of_getElem? (i := 18) rfl))))) rfl
set_option maxRecDepth 20000 in
theorem q_773 : (Jvm.Cond.arrayClass Jvm.ClassFile.FieldType.boolean) ∈ lw_st := st_in (List.mem_append_right _ (List.mem_append_right _ (List.mem_append_right _ (List.mem_append_right _ (List.mem_of_getElem? (i := 21) rfl))))) rfl
set_option maxRecDepth 20000 in
theorem q_774 : (Jvm.Cond.methodLink "BoilerDeskLaw" (50 : Nat) ({ cls := "BoilerDeskModel", name := "thrown", desc := "()I" } : Jvm.MethodName)) ∈ lw_st := st_in (List.mem_append_right _ (List.mem_append_right _ (List.mem_append_right _ (List.mem_append_right _ (List.mem_of_getElem? (i := 22) rfl))))) rfl
set_option maxRecDepth 20000 in
theorem q_775 : (Jvm.Cond.instanceMethod ({ cls := "BoilerDeskModel", name := "thrown", desc := "()I" } : Jvm.MethodName)) ∈ lw_st := st_in (List.mem_append_right _ (List.mem_append_right _ (List.mem_append_right _ (List.mem_append_right _ (List.mem_of_getElem? (i := 23) rfl))))) rfl
set_option maxRecDepth 20000 in
theorem q_776 : (Jvm.Cond.selects "BoilerDeskModel" ({ cls := "BoilerDeskModel", name := "thrown", desc := "()I" } : Jvm.MethodName) ({ cls := "BoilerDeskModel", name := "thrown", desc := "()I" } : Jvm.MethodName)) ∈ lw_st := st_in (List.mem_append_right _ (List.mem_append_right _ (List.mem_append_right _ (List.mem_append_right _ (List.mem_of_getElem? (i := 24) rfl))))) rfl
set_option maxRecDepth 20000 in
theorem q_777 : (Jvm.Cond.code ({ cls := "BoilerDeskModel", name := "thrown", desc := "()I" } : Jvm.MethodName) prog_9_method_2_code (1 : Nat) (Option.some Jvm.ClassFile.FieldType.int)) ∈ lw_st := st_in (List.mem_append_right _ (List.mem_append_right _ (List.mem_append_right _ (List.mem_append_right _ (List.mem_of_getElem? (i := 25) rfl))))) rfl
set_option maxRecDepth 20000 in
theorem q_778 : (Jvm.Cond.methodLink "BoilerDeskLaw" (49 : Nat) ({ cls := "BoilerDeskModel", name := "begin", desc := "(IIIIIIIII)V" } : Jvm.MethodName)) ∈ lw_st := st_in (List.mem_append_right _ (List.mem_append_right _ (List.mem_append_right _ (List.mem_append_right _ (List.mem_of_getElem? (i := 26) rfl))))) rfl
set_option maxRecDepth 20000 in
theorem q_779 : (Jvm.Cond.instanceMethod ({ cls := "BoilerDeskModel", name := "begin", desc := "(IIIIIIIII)V" } : Jvm.MethodName)) ∈ lw_st := st_in (List.mem_append_right _ (List.mem_append_right _ (List.mem_append_right _ (List.mem_append_right _ (List.mem_of_getElem? (i := 27) rfl))))) rfl
set_option maxRecDepth 20000 in
theorem q_780 : (Jvm.Cond.selects "BoilerDeskModel" ({ cls := "BoilerDeskModel", name := "begin", desc := "(IIIIIIIII)V" } : Jvm.MethodName) ({ cls := "BoilerDeskModel", name := "begin", desc := "(IIIIIIIII)V" } : Jvm.MethodName)) ∈ lw_st := st_in (List.mem_append_right _ (List.mem_append_right _ (List.mem_append_right _ (List.mem_append_right _ (List.mem_of_getElem? (i := 28) rfl))))) rfl
set_option maxRecDepth 20000 in
theorem q_781 : (Jvm.Cond.code ({ cls := "BoilerDeskModel", name := "begin", desc := "(IIIIIIIII)V" } : Jvm.MethodName) prog_9_method_8_code (11 : Nat) (Option.none : Option Jvm.ClassFile.FieldType)) ∈ lw_st := st_in (List.mem_append_right _ (List.mem_append_right _ (List.mem_append_right _ (List.mem_append_right _ (List.mem_of_getElem? (i := 29) rfl))))) rfl
set_option maxRecDepth 20000 in
theorem q_782 : (Jvm.Cond.constant "BoilerDeskModel" (145 : Nat) (1000000 : Int32)) ∈ lw_st := st_in (List.mem_append_right _ (List.mem_append_right _ (List.mem_append_right _ (List.mem_append_right _ (List.mem_of_getElem? (i := 30) rfl))))) rfl
set_option maxRecDepth 20000 in
theorem q_783 : (Jvm.Cond.constant "BoilerDeskModel" (146 : Nat) (100000 : Int32)) ∈ lw_st := st_in (List.mem_append_right _ (List.mem_append_right _ (List.mem_append_right _ (List.mem_append_right _ (List.mem_of_getElem? (i := 31) rfl))))) rfl
set_option maxRecDepth 20000 in
theorem q_784 : (Jvm.Cond.methodLink "BoilerDeskModel" (147 : Nat) ({ cls := "BoilerDeskModel", name := "in", desc := "(III)Z" } : Jvm.MethodName)) ∈ lw_st := st_in (List.mem_append_right _ (List.mem_append_right _ (List.mem_append_right _ (List.mem_append_right _ (List.mem_of_getElem? (i := 32) rfl))))) rfl
set_option maxRecDepth 20000 in
theorem q_785 : (Jvm.Cond.static ({ cls := "BoilerDeskModel", name := "in", desc := "(III)Z" } : Jvm.MethodName)) ∈ lw_st := st_in (List.mem_append_right _ (List.mem_append_right _ (List.mem_append_right _ (List.mem_append_right _ (List.mem_of_getElem? (i := 33) rfl))))) rfl
set_option maxRecDepth 20000 in
theorem q_786 : (Jvm.Cond.code ({ cls := "BoilerDeskModel", name := "in", desc := "(III)Z" } : Jvm.MethodName) prog_9_method_3_code (3 : Nat) (Option.some Jvm.ClassFile.FieldType.boolean)) ∈ lw_st := st_in (List.mem_append_right _ (List.mem_append_right _ (List.mem_append_right _ (List.mem_append_right _ (List.mem_of_getElem? (i := 34) rfl))))) rfl
set_option maxRecDepth 20000 in
theorem q_787 : (Jvm.Cond.methodLink "BoilerDeskModel" (151 : Nat) ({ cls := "BoilerDeskModel", name := "fails", desc := "(ZI)Z" } : Jvm.MethodName)) ∈ lw_st := st_in (List.mem_append_right _ (List.mem_append_right _ (List.mem_append_right _ (List.mem_append_right _ (List.mem_of_getElem? (i := 35) rfl))))) rfl
set_option maxRecDepth 20000 in
theorem q_789 : (Jvm.Cond.instanceMethod ({ cls := "BoilerDeskModel", name := "fails", desc := "(ZI)Z" } : Jvm.MethodName)) ∈ lw_st := st_in (List.mem_append_right _ (List.mem_append_right _ (List.mem_append_right _ (List.mem_append_right _ (List.mem_of_getElem? (i := 37) rfl))))) rfl
set_option maxRecDepth 20000 in
theorem q_790 : (Jvm.Cond.code ({ cls := "BoilerDeskModel", name := "fails", desc := "(ZI)Z" } : Jvm.MethodName) prog_9_method_4_code (3 : Nat) (Option.some Jvm.ClassFile.FieldType.boolean)) ∈ lw_st := st_in (List.mem_append_right _ (List.mem_append_right _ (List.mem_append_right _ (List.mem_append_right _ (List.mem_of_getElem? (i := 38) rfl))))) rfl
set_option maxRecDepth 20000 in
theorem q_791 : (Jvm.Cond.methodLink "BoilerDeskLaw" (56 : Nat) ({ cls := "BoilerDeskModel", name := "level", desc := "(I)V" } : Jvm.MethodName)) ∈ lw_st := st_in (List.mem_append_right _ (List.mem_append_right _ (List.mem_append_right _ (List.mem_append_right _ (List.mem_of_getElem? (i := 39) rfl))))) rfl
set_option maxRecDepth 20000 in
theorem q_792 : (Jvm.Cond.instanceMethod ({ cls := "BoilerDeskModel", name := "level", desc := "(I)V" } : Jvm.MethodName)) ∈ lw_st := st_in (List.mem_append_right _ (List.mem_append_right _ (List.mem_append_right _ (List.mem_append_right _ (List.mem_of_getElem? (i := 40) rfl))))) rfl
set_option maxRecDepth 20000 in
theorem q_793 : (Jvm.Cond.selects "BoilerDeskModel" ({ cls := "BoilerDeskModel", name := "level", desc := "(I)V" } : Jvm.MethodName) ({ cls := "BoilerDeskModel", name := "level", desc := "(I)V" } : Jvm.MethodName)) ∈ lw_st := st_in (List.mem_append_right _ (List.mem_append_right _ (List.mem_append_right _ (List.mem_append_right _ (List.mem_of_getElem? (i := 41) rfl))))) rfl
set_option maxRecDepth 20000 in
theorem q_794 : (Jvm.Cond.code ({ cls := "BoilerDeskModel", name := "level", desc := "(I)V" } : Jvm.MethodName) prog_9_method_9_code (2 : Nat) (Option.none : Option Jvm.ClassFile.FieldType)) ∈ lw_st := st_in (List.mem_append_right _ (List.mem_append_right _ (List.mem_append_right _ (List.mem_append_right _ (List.mem_of_getElem? (i := 42) rfl))))) rfl
set_option maxRecDepth 20000 in
theorem q_795 : (Jvm.Cond.methodLink "BoilerDeskLaw" (60 : Nat) ({ cls := "BoilerDeskModel", name := "steam", desc := "(I)V" } : Jvm.MethodName)) ∈ lw_st := st_in (List.mem_append_right _ (List.mem_append_right _ (List.mem_append_right _ (List.mem_append_right _ (List.mem_of_getElem? (i := 43) rfl))))) rfl
set_option maxRecDepth 20000 in
theorem q_796 : (Jvm.Cond.instanceMethod ({ cls := "BoilerDeskModel", name := "steam", desc := "(I)V" } : Jvm.MethodName)) ∈ lw_st := st_in (List.mem_append_right _ (List.mem_append_right _ (List.mem_append_right _ (List.mem_append_right _ (List.mem_of_getElem? (i := 44) rfl))))) rfl
set_option maxRecDepth 20000 in
theorem q_797 : (Jvm.Cond.selects "BoilerDeskModel" ({ cls := "BoilerDeskModel", name := "steam", desc := "(I)V" } : Jvm.MethodName) ({ cls := "BoilerDeskModel", name := "steam", desc := "(I)V" } : Jvm.MethodName)) ∈ lw_st := st_in (List.mem_append_right _ (List.mem_append_right _ (List.mem_append_right _ (List.mem_append_right _ (List.mem_of_getElem? (i := 45) rfl))))) rfl
set_option maxRecDepth 20000 in
theorem q_798 : (Jvm.Cond.code ({ cls := "BoilerDeskModel", name := "steam", desc := "(I)V" } : Jvm.MethodName) prog_9_method_10_code (2 : Nat) (Option.none : Option Jvm.ClassFile.FieldType)) ∈ lw_st := st_in (List.mem_append_right _ (List.mem_append_right _ (List.mem_append_right _ (List.mem_append_right _ (List.mem_of_getElem? (i := 46) rfl))))) rfl
set_option maxRecDepth 20000 in
theorem q_799 : (Jvm.Cond.methodLink "BoilerDeskLaw" (64 : Nat) ({ cls := "BoilerDeskModel", name := "pump", desc := "(IZZ)V" } : Jvm.MethodName)) ∈ lw_st := st_in (List.mem_append_right _ (List.mem_append_right _ (List.mem_append_right _ (List.mem_append_right _ (List.mem_of_getElem? (i := 47) rfl))))) rfl
set_option maxRecDepth 20000 in
theorem q_800 : (Jvm.Cond.instanceMethod ({ cls := "BoilerDeskModel", name := "pump", desc := "(IZZ)V" } : Jvm.MethodName)) ∈ lw_st := st_in (List.mem_append_right _ (List.mem_append_right _ (List.mem_append_right _ (List.mem_append_right _ (List.mem_of_getElem? (i := 48) rfl))))) rfl
set_option maxRecDepth 20000 in
theorem q_801 : (Jvm.Cond.selects "BoilerDeskModel" ({ cls := "BoilerDeskModel", name := "pump", desc := "(IZZ)V" } : Jvm.MethodName) ({ cls := "BoilerDeskModel", name := "pump", desc := "(IZZ)V" } : Jvm.MethodName)) ∈ lw_st := st_in (List.mem_append_right _ (List.mem_append_right _ (List.mem_append_right _ (List.mem_append_right _ (List.mem_of_getElem? (i := 49) rfl))))) rfl
set_option maxRecDepth 20000 in
theorem q_802 : (Jvm.Cond.code ({ cls := "BoilerDeskModel", name := "pump", desc := "(IZZ)V" } : Jvm.MethodName) prog_9_method_11_code (4 : Nat) (Option.none : Option Jvm.ClassFile.FieldType)) ∈ lw_st := st_in (List.mem_append_right _ (List.mem_append_right _ (List.mem_append_right _ (List.mem_append_right _ (List.mem_of_getElem? (i := 50) rfl))))) rfl
set_option maxRecDepth 20000 in
theorem q_803 : (Jvm.Cond.methodLink "BoilerDeskLaw" (68 : Nat) ({ cls := "BoilerDeskModel", name := "say", desc := "(I)V" } : Jvm.MethodName)) ∈ lw_st := st_in (List.mem_append_right _ (List.mem_append_right _ (List.mem_append_right _ (List.mem_append_right _ (List.mem_of_getElem? (i := 51) rfl))))) rfl
set_option maxRecDepth 20000 in
theorem q_804 : (Jvm.Cond.instanceMethod ({ cls := "BoilerDeskModel", name := "say", desc := "(I)V" } : Jvm.MethodName)) ∈ lw_st := st_in (List.mem_append_right _ (List.mem_append_right _ (List.mem_append_right _ (List.mem_append_right _ (List.mem_of_getElem? (i := 52) rfl))))) rfl
set_option maxRecDepth 20000 in
theorem q_805 : (Jvm.Cond.selects "BoilerDeskModel" ({ cls := "BoilerDeskModel", name := "say", desc := "(I)V" } : Jvm.MethodName) ({ cls := "BoilerDeskModel", name := "say", desc := "(I)V" } : Jvm.MethodName)) ∈ lw_st := st_in (List.mem_append_right _ (List.mem_append_right _ (List.mem_append_right _ (List.mem_append_right _ (List.mem_of_getElem? (i := 53) rfl))))) rfl
set_option maxRecDepth 20000 in
theorem q_806 : (Jvm.Cond.code ({ cls := "BoilerDeskModel", name := "say", desc := "(I)V" } : Jvm.MethodName) prog_9_method_12_code (2 : Nat) (Option.none : Option Jvm.ClassFile.FieldType)) ∈ lw_st := st_in (List.mem_append_right _ (List.mem_append_right _ (List.mem_append_right _ (List.mem_append_right _ (List.mem_of_getElem? (i := 54) rfl))))) rfl
set_option maxRecDepth 20000 in
theorem q_807 : (Jvm.Cond.methodLink "BoilerDeskLaw" (72 : Nat) ({ cls := "BoilerDeskModel", name := "unit", desc := "(IZ)V" } : Jvm.MethodName)) ∈ lw_st := st_in (List.mem_append_right _ (List.mem_append_right _ (List.mem_append_right _ (List.mem_append_right _ (List.mem_of_getElem? (i := 55) rfl))))) rfl
set_option maxRecDepth 20000 in
theorem q_808 : (Jvm.Cond.instanceMethod ({ cls := "BoilerDeskModel", name := "unit", desc := "(IZ)V" } : Jvm.MethodName)) ∈ lw_st := st_in (List.mem_append_right _ (List.mem_append_right _ (List.mem_append_right _ (List.mem_append_right _ (List.mem_of_getElem? (i := 56) rfl))))) rfl
set_option maxRecDepth 20000 in
theorem q_809 : (Jvm.Cond.selects "BoilerDeskModel" ({ cls := "BoilerDeskModel", name := "unit", desc := "(IZ)V" } : Jvm.MethodName) ({ cls := "BoilerDeskModel", name := "unit", desc := "(IZ)V" } : Jvm.MethodName)) ∈ lw_st := st_in (List.mem_append_right _ (List.mem_append_right _ (List.mem_append_right _ (List.mem_append_right _ (List.mem_of_getElem? (i := 57) rfl))))) rfl
set_option maxRecDepth 20000 in
theorem q_810 : (Jvm.Cond.code ({ cls := "BoilerDeskModel", name := "unit", desc := "(IZ)V" } : Jvm.MethodName) prog_9_method_13_code (3 : Nat) (Option.none : Option Jvm.ClassFile.FieldType)) ∈ lw_st := st_in (List.mem_append_right _ (List.mem_append_right _ (List.mem_append_right _ (List.mem_append_right _ (List.mem_of_getElem? (i := 58) rfl))))) rfl
set_option maxRecDepth 20000 in
theorem q_811 : (Jvm.Cond.methodLink "BoilerDeskLaw" (76 : Nat) ({ cls := "BoilerDeskModel", name := "cycle", desc := "()I" } : Jvm.MethodName)) ∈ lw_st := st_in (List.mem_append_right _ (List.mem_append_right _ (List.mem_append_right _ (List.mem_append_right _ (List.mem_of_getElem? (i := 59) rfl))))) rfl
set_option maxRecDepth 20000 in
theorem q_812 : (Jvm.Cond.instanceMethod ({ cls := "BoilerDeskModel", name := "cycle", desc := "()I" } : Jvm.MethodName)) ∈ lw_st := st_in (List.mem_append_right _ (List.mem_append_right _ (List.mem_append_right _ (List.mem_append_right _ (List.mem_of_getElem? (i := 60) rfl))))) rfl
set_option maxRecDepth 20000 in
theorem q_813 : (Jvm.Cond.selects "BoilerDeskModel" ({ cls := "BoilerDeskModel", name := "cycle", desc := "()I" } : Jvm.MethodName) ({ cls := "BoilerDeskModel", name := "cycle", desc := "()I" } : Jvm.MethodName)) ∈ lw_st := st_in (List.mem_append_right _ (List.mem_append_right _ (List.mem_append_right _ (List.mem_append_right _ (List.mem_of_getElem? (i := 61) rfl))))) rfl
set_option maxRecDepth 20000 in
theorem q_814 : (Jvm.Cond.code ({ cls := "BoilerDeskModel", name := "cycle", desc := "()I" } : Jvm.MethodName) prog_9_method_14_code (2 : Nat) (Option.some Jvm.ClassFile.FieldType.int)) ∈ lw_st := st_in (List.mem_append_right _ (List.mem_append_right _ (List.mem_append_right _ (List.mem_append_right _ (List.mem_of_getElem? (i := 62) rfl))))) rfl
set_option maxRecDepth 20000 in
theorem q_815 : (Jvm.Cond.methodLink "BoilerDeskModel" (161 : Nat) ({ cls := "BoilerDeskModel", name := "turn", desc := "()Z" } : Jvm.MethodName)) ∈ lw_st := st_in (List.mem_append_right _ (List.mem_append_right _ (List.mem_append_right _ (List.mem_append_right _ (List.mem_of_getElem? (i := 63) rfl))))) rfl
set_option maxRecDepth 20000 in
theorem q_817 : (Jvm.Cond.instanceMethod ({ cls := "BoilerDeskModel", name := "turn", desc := "()Z" } : Jvm.MethodName)) ∈ lw_st := st_in (List.mem_append_right _ (List.mem_append_right _ (List.mem_append_right _ (List.mem_append_right _ (List.mem_of_getElem? (i := 65) rfl))))) rfl
set_option maxRecDepth 20000 in
theorem q_818 : (Jvm.Cond.code ({ cls := "BoilerDeskModel", name := "turn", desc := "()Z" } : Jvm.MethodName) prog_9_method_15_code (7 : Nat) (Option.some Jvm.ClassFile.FieldType.boolean)) ∈ lw_st := st_in (List.mem_append_right _ (List.mem_append_right _ (List.mem_append_right _ (List.mem_append_right _ (List.mem_of_getElem? (i := 66) rfl))))) rfl
set_option maxRecDepth 20000 in
theorem q_819 : (Jvm.Cond.methodLink "BoilerDeskModel" (165 : Nat) ({ cls := "BoilerDeskModel", name := "units", desc := "()Z" } : Jvm.MethodName)) ∈ lw_st := st_in (List.mem_append_right _ (List.mem_append_right _ (List.mem_append_right _ (List.mem_append_right _ (List.mem_of_getElem? (i := 67) rfl))))) rfl
set_option maxRecDepth 20000 in
theorem q_821 : (Jvm.Cond.instanceMethod ({ cls := "BoilerDeskModel", name := "units", desc := "()Z" } : Jvm.MethodName)) ∈ lw_st := st_in (List.mem_append_right _ (List.mem_append_right _ (List.mem_append_right _ (List.mem_append_right _ (List.mem_of_getElem? (i := 69) rfl))))) rfl
set_option maxRecDepth 20000 in
theorem q_822 : (Jvm.Cond.code ({ cls := "BoilerDeskModel", name := "units", desc := "()Z" } : Jvm.MethodName) prog_9_method_17_code (2 : Nat) (Option.some Jvm.ClassFile.FieldType.boolean)) ∈ lw_st := st_in (List.mem_append_right _ (List.mem_append_right _ (List.mem_append_right _ (List.mem_append_right _ (List.mem_of_getElem? (i := 70) rfl))))) rfl
set_option maxRecDepth 20000 in
theorem q_823 : (Jvm.Cond.methodLink "BoilerDeskModel" (168 : Nat) ({ cls := "BoilerDeskModel", name := "find", desc := "(IZ)V" } : Jvm.MethodName)) ∈ lw_st := st_in (List.mem_append_right _ (List.mem_append_right _ (List.mem_append_right _ (List.mem_append_right _ (List.mem_of_getElem? (i := 71) rfl))))) rfl
set_option maxRecDepth 20000 in
theorem q_825 : (Jvm.Cond.instanceMethod ({ cls := "BoilerDeskModel", name := "find", desc := "(IZ)V" } : Jvm.MethodName)) ∈ lw_st := st_in (List.mem_append_right _ (List.mem_append_right _ (List.mem_append_right _ (List.mem_append_right _ (List.mem_of_getElem? (i := 73) rfl))))) rfl
set_option maxRecDepth 20000 in
theorem q_826 : (Jvm.Cond.code ({ cls := "BoilerDeskModel", name := "find", desc := "(IZ)V" } : Jvm.MethodName) prog_9_method_16_code (3 : Nat) (Option.none : Option Jvm.ClassFile.FieldType)) ∈ lw_st := st_in (List.mem_append_right _ (List.mem_append_right _ (List.mem_append_right _ (List.mem_append_right _ (List.mem_of_getElem? (i := 74) rfl))))) rfl
set_option maxRecDepth 20000 in
theorem q_827 : (Jvm.Cond.methodLink "BoilerDeskModel" (172 : Nat) ({ cls := "BoilerDeskModel", name := "first", desc := "()Z" } : Jvm.MethodName)) ∈ lw_st := st_in (List.mem_append_right _ (List.mem_append_right _ (List.mem_append_right _ (List.mem_append_right _ (List.mem_of_getElem? (i := 75) rfl))))) rfl
set_option maxRecDepth 20000 in
theorem q_829 : (Jvm.Cond.instanceMethod ({ cls := "BoilerDeskModel", name := "first", desc := "()Z" } : Jvm.MethodName)) ∈ lw_st := st_in (List.mem_append_right _ (List.mem_append_right _ (List.mem_append_right _ (List.mem_append_right _ (List.mem_of_getElem? (i := 77) rfl))))) rfl
set_option maxRecDepth 20000 in
theorem q_830 : (Jvm.Cond.code ({ cls := "BoilerDeskModel", name := "first", desc := "()Z" } : Jvm.MethodName) prog_9_method_19_code (1 : Nat) (Option.some Jvm.ClassFile.FieldType.boolean)) ∈ lw_st := st_in (List.mem_append_right _ (List.mem_append_right _ (List.mem_append_right _ (List.mem_append_right _ (List.mem_of_getElem? (i := 78) rfl))))) rfl
set_option maxRecDepth 20000 in
theorem q_831 : (Jvm.Cond.methodLink "BoilerDeskModel" (181 : Nat) ({ cls := "BoilerDeskModel", name := "some", desc := "(II)Z" } : Jvm.MethodName)) ∈ lw_st := st_in (List.mem_append_right _ (List.mem_append_right _ (List.mem_append_right _ (List.mem_append_right _ (List.mem_of_getElem? (i := 79) rfl))))) rfl
set_option maxRecDepth 20000 in
theorem q_833 : (Jvm.Cond.instanceMethod ({ cls := "BoilerDeskModel", name := "some", desc := "(II)Z" } : Jvm.MethodName)) ∈ lw_st := st_in (List.mem_append_right _ (List.mem_append_right _ (List.mem_append_right _ (List.mem_append_right _ (List.mem_of_getElem? (i := 81) rfl))))) rfl
set_option maxRecDepth 20000 in
theorem q_834 : (Jvm.Cond.code ({ cls := "BoilerDeskModel", name := "some", desc := "(II)Z" } : Jvm.MethodName) prog_9_method_18_code (4 : Nat) (Option.some Jvm.ClassFile.FieldType.boolean)) ∈ lw_st := st_in (List.mem_append_right _ (List.mem_append_right _ (List.mem_append_right _ (List.mem_append_right _ (List.mem_of_getElem? (i := 82) rfl))))) rfl
set_option maxRecDepth 20000 in
theorem q_835 : (Jvm.Cond.methodLink "BoilerDeskModel" (175 : Nat) ({ cls := "BoilerDeskModel", name := "others", desc := "()Z" } : Jvm.MethodName)) ∈ lw_st := st_in (List.mem_append_right _ (List.mem_append_right _ (List.mem_append_right _ (List.mem_append_right _ (List.mem_of_getElem? (i := 83) rfl))))) rfl
set_option maxRecDepth 20000 in
theorem q_837 : (Jvm.Cond.instanceMethod ({ cls := "BoilerDeskModel", name := "others", desc := "()Z" } : Jvm.MethodName)) ∈ lw_st := st_in (List.mem_append_right _ (List.mem_append_right _ (List.mem_append_right _ (List.mem_append_right _ (List.mem_of_getElem? (i := 85) rfl))))) rfl
set_option maxRecDepth 20000 in
theorem q_838 : (Jvm.Cond.code ({ cls := "BoilerDeskModel", name := "others", desc := "()Z" } : Jvm.MethodName) prog_9_method_20_code (1 : Nat) (Option.some Jvm.ClassFile.FieldType.boolean)) ∈ lw_st := st_in (List.mem_append_right _ (List.mem_append_right _ (List.mem_append_right _ (List.mem_append_right _ (List.mem_of_getElem? (i := 86) rfl))))) rfl
set_option maxRecDepth 20000 in
theorem q_839 : (Jvm.Cond.methodLink "BoilerDeskModel" (178 : Nat) ({ cls := "BoilerDeskModel", name := "command", desc := "()V" } : Jvm.MethodName)) ∈ lw_st := st_in (List.mem_append_right _ (List.mem_append_right _ (List.mem_append_right _ (List.mem_append_right _ (List.mem_of_getElem? (i := 87) rfl))))) rfl
set_option maxRecDepth 20000 in
theorem q_841 : (Jvm.Cond.instanceMethod ({ cls := "BoilerDeskModel", name := "command", desc := "()V" } : Jvm.MethodName)) ∈ lw_st := st_in (List.mem_append_right _ (List.mem_append_right _ (List.mem_append_right _ (List.mem_append_right _ (List.mem_of_getElem? (i := 89) rfl))))) rfl
set_option maxRecDepth 20000 in
theorem q_842 : (Jvm.Cond.code ({ cls := "BoilerDeskModel", name := "command", desc := "()V" } : Jvm.MethodName) prog_9_method_21_code (6 : Nat) (Option.none : Option Jvm.ClassFile.FieldType)) ∈ lw_st := st_in (List.mem_append_right _ (List.mem_append_right _ (List.mem_append_right _ (List.mem_append_right _ (List.mem_of_getElem? (i := 90) rfl))))) rfl
set_option maxRecDepth 20000 in
theorem q_843 : (Jvm.Cond.methodLink "BoilerDeskLaw" (80 : Nat) ({ cls := "BoilerDeskModel", name := "told", desc := "(I)I" } : Jvm.MethodName)) ∈ lw_st := st_in (List.mem_append_right _ (List.mem_append_right _ (List.mem_append_right _ (List.mem_append_right _ (List.mem_of_getElem? (i := 91) rfl))))) rfl
set_option maxRecDepth 20000 in
theorem q_844 : (Jvm.Cond.instanceMethod ({ cls := "BoilerDeskModel", name := "told", desc := "(I)I" } : Jvm.MethodName)) ∈ lw_st := st_in (List.mem_append_right _ (List.mem_append_right _ (List.mem_append_right _ (List.mem_append_right _ (List.mem_of_getElem? (i := 92) rfl))))) rfl
set_option maxRecDepth 20000 in
theorem q_845 : (Jvm.Cond.selects "BoilerDeskModel" ({ cls := "BoilerDeskModel", name := "told", desc := "(I)I" } : Jvm.MethodName) ({ cls := "BoilerDeskModel", name := "told", desc := "(I)I" } : Jvm.MethodName)) ∈ lw_st := st_in (List.mem_append_right _ (List.mem_append_right _ (List.mem_append_right _ (List.mem_append_right _ (List.mem_of_getElem? (i := 93) rfl))))) rfl
set_option maxRecDepth 20000 in
theorem q_846 : (Jvm.Cond.code ({ cls := "BoilerDeskModel", name := "told", desc := "(I)I" } : Jvm.MethodName) prog_9_method_22_code (2 : Nat) (Option.some Jvm.ClassFile.FieldType.int)) ∈ lw_st := st_in (List.mem_append_right _ (List.mem_append_right _ (List.mem_append_right _ (List.mem_append_right _ (List.mem_of_getElem? (i := 94) rfl))))) rfl
set_option maxRecDepth 20000 in
theorem q_847 : (Jvm.Cond.methodLink "BoilerDeskLaw" (83 : Nat) ({ cls := "BoilerDeskModel", name := "state", desc := "(I)I" } : Jvm.MethodName)) ∈ lw_st := st_in (List.mem_append_right _ (List.mem_append_right _ (List.mem_append_right _ (List.mem_append_right _ (List.mem_of_getElem? (i := 95) rfl))))) rfl
set_option maxRecDepth 20000 in
theorem q_848 : (Jvm.Cond.instanceMethod ({ cls := "BoilerDeskModel", name := "state", desc := "(I)I" } : Jvm.MethodName)) ∈ lw_st := st_in (List.mem_append_right _ (List.mem_append_right _ (List.mem_append_right _ (List.mem_append_right _ (List.mem_of_getElem? (i := 96) rfl))))) rfl
set_option maxRecDepth 20000 in
theorem q_849 : (Jvm.Cond.selects "BoilerDeskModel" ({ cls := "BoilerDeskModel", name := "state", desc := "(I)I" } : Jvm.MethodName) ({ cls := "BoilerDeskModel", name := "state", desc := "(I)I" } : Jvm.MethodName)) ∈ lw_st := st_in (List.mem_append_right _ (List.mem_append_right _ (List.mem_append_right _ (List.mem_append_right _ (List.mem_of_getElem? (i := 97) rfl))))) rfl
set_option maxRecDepth 20000 in
theorem q_850 : (Jvm.Cond.code ({ cls := "BoilerDeskModel", name := "state", desc := "(I)I" } : Jvm.MethodName) prog_9_method_23_code (4 : Nat) (Option.some Jvm.ClassFile.FieldType.int)) ∈ lw_st := st_in (List.mem_append_right _ (List.mem_append_right _ (List.mem_append_right _ (List.mem_append_right _ (List.mem_of_getElem? (i := 98) rfl))))) rfl
set_option maxRecDepth 20000 in
theorem q_851 : (Jvm.Cond.arrayClass Jvm.ClassFile.FieldType.long) ∈ lw_st := st_in (List.mem_append_right _ (List.mem_append_right _ (List.mem_append_right _ (List.mem_append_right _ (List.mem_of_getElem? (i := 99) rfl))))) rfl
end
section
def TD : u_T := fun k => match k with
  | 0 => ("BoilerDesk", "plant", "LBoilerDesk$Plant;", true)
  | 1 => ("BoilerDesk", "inbox", "LBoilerDesk$Inbox;", true)
  | 2 => ("BoilerDesk", "units", "LBoilerDesk$Units;", true)
  | 3 => ("BoilerDesk", "machines", "LBoilerDesk$Machines;", true)
  | 4 => ("BoilerDesk", "report", "LBoilerDesk$Report;", true)
  | 5 => ("BoilerDesk", "levelEstimate", "LBoilerDesk$Span;", true)
  | 6 => ("BoilerDesk", "steamEstimate", "LBoilerDesk$Span;", true)
  | 7 => ("BoilerDesk", "levelExpected", "LBoilerDesk$Span;", true)
  | 8 => ("BoilerDesk", "steamExpected", "LBoilerDesk$Span;", true)
  | 9 => ("BoilerDesk", "mode", "I", false)
  | 10 => ("BoilerDesk", "cycles", "I", false)
  | 11 => ("BoilerDesk", "stopsInARow", "I", false)
  | _ => ("BoilerDesk", "hasWaited", "Z", false)
def tyD : Nat → FieldType := fun k => match k with
  | 0 => .object "BoilerDesk$Plant"
  | 1 => .object "BoilerDesk$Inbox"
  | 2 => .object "BoilerDesk$Units"
  | 3 => .object "BoilerDesk$Machines"
  | 4 => .object "BoilerDesk$Report"
  | 5 => .object "BoilerDesk$Span"
  | 6 => .object "BoilerDesk$Span"
  | 7 => .object "BoilerDesk$Span"
  | 8 => .object "BoilerDesk$Span"
  | 9 => .int
  | 10 => .int
  | 11 => .int
  | _ => .boolean
theorem nmD : ∀ a, a < 13 → ∀ b, b < 13 → a ≠ b → (TD a).2.1 ≠ (TD b).2.1 := by decide +kernel
theorem tyD_ok : ∀ k, k < 13 → parseFieldDescriptor (TD k).2.2.1 = some (tyD k) := by decide +kernel
theorem inD : ∀ w ∈ u_ws "BoilerDesk" TD 13, w ∈ lw_st := by
  intro w h
  obtain ⟨k, hk, rfl⟩ := List.mem_map.mp h
  have hk := List.mem_range.mp hk
  match k, hk with
  | 0, _ => exact q_285
  | 1, _ => exact q_287
  | 2, _ => exact q_289
  | 3, _ => exact q_291
  | 4, _ => exact q_293
  | 5, _ => exact q_295
  | 6, _ => exact q_297
  | 7, _ => exact q_299
  | 8, _ => exact q_301
  | 9, _ => exact q_303
  | 10, _ => exact q_305
  | 11, _ => exact q_307
  | 12, _ => exact q_309
  | k + 13, hk => exact absurd hk (by omega)
def TI : u_T := fun k => match k with
  | 0 => ("BoilerDesk$Inbox", "hasLevel", "Z", false)
  | 1 => ("BoilerDesk$Inbox", "level", "I", false)
  | 2 => ("BoilerDesk$Inbox", "hasSteam", "Z", false)
  | 3 => ("BoilerDesk$Inbox", "steam", "I", false)
  | 4 => ("BoilerDesk$Inbox", "pumpsHeard", "I", false)
  | 5 => ("BoilerDesk$Inbox", "pumpsSaidOn", "I", false)
  | 6 => ("BoilerDesk$Inbox", "pumpsSaidGiving", "I", false)
  | 7 => ("BoilerDesk$Inbox", "waiting", "Z", false)
  | 8 => ("BoilerDesk$Inbox", "ready", "Z", false)
  | 9 => ("BoilerDesk$Inbox", "stop", "Z", false)
  | 10 => ("BoilerDesk$Inbox", "repairs", "I", false)
  | _ => ("BoilerDesk$Inbox", "acknowledgements", "I", false)
def tyI : Nat → FieldType := fun k => match k with
  | 0 => .boolean
  | 1 => .int
  | 2 => .boolean
  | 3 => .int
  | 4 => .int
  | 5 => .int
  | 6 => .int
  | 7 => .boolean
  | 8 => .boolean
  | 9 => .boolean
  | 10 => .int
  | _ => .int
theorem nmI : ∀ a, a < 12 → ∀ b, b < 12 → a ≠ b → (TI a).2.1 ≠ (TI b).2.1 := by decide +kernel
theorem tyI_ok : ∀ k, k < 12 → parseFieldDescriptor (TI k).2.2.1 = some (tyI k) := by decide +kernel
theorem inI : ∀ w ∈ u_ws "BoilerDesk$Inbox" TI 12, w ∈ lw_st := by
  intro w h
  obtain ⟨k, hk, rfl⟩ := List.mem_map.mp h
  have hk := List.mem_range.mp hk
  match k, hk with
  | 0, _ => exact q_128
  | 1, _ => exact q_130
  | 2, _ => exact q_132
  | 3, _ => exact q_134
  | 4, _ => exact q_136
  | 5, _ => exact q_138
  | 6, _ => exact q_140
  | 7, _ => exact q_142
  | 8, _ => exact q_144
  | 9, _ => exact q_146
  | 10, _ => exact q_148
  | 11, _ => exact q_150
  | k + 12, hk => exact absurd hk (by omega)
def TM : u_T := fun k => match k with
  | 0 => ("BoilerDesk$Machines", "pumpsOn", "I", false)
  | 1 => ("BoilerDesk$Machines", "pumpsOnBefore", "I", false)
  | 2 => ("BoilerDesk$Machines", "pumpsSaidGivingBefore", "I", false)
  | _ => ("BoilerDesk$Machines", "valveOpen", "Z", false)
def tyM : Nat → FieldType := fun k => match k with
  | 0 => .int
  | 1 => .int
  | 2 => .int
  | _ => .boolean
theorem nmM : ∀ a, a < 4 → ∀ b, b < 4 → a ≠ b → (TM a).2.1 ≠ (TM b).2.1 := by decide +kernel
theorem tyM_ok : ∀ k, k < 4 → parseFieldDescriptor (TM k).2.2.1 = some (tyM k) := by decide +kernel
theorem inM : ∀ w ∈ u_ws "BoilerDesk$Machines" TM 4, w ∈ lw_st := by
  intro w h
  obtain ⟨k, hk, rfl⟩ := List.mem_map.mp h
  have hk := List.mem_range.mp hk
  match k, hk with
  | 0, _ => exact q_181
  | 1, _ => exact q_183
  | 2, _ => exact q_185
  | 3, _ => exact q_187
  | k + 4, hk => exact absurd hk (by omega)
def TP : u_T := fun k => match k with
  | 0 => ("BoilerDesk$Plant", "capacity", "I", false)
  | 1 => ("BoilerDesk$Plant", "lowLimit", "I", false)
  | 2 => ("BoilerDesk$Plant", "normalFrom", "I", false)
  | 3 => ("BoilerDesk$Plant", "normalTo", "I", false)
  | 4 => ("BoilerDesk$Plant", "highLimit", "I", false)
  | 5 => ("BoilerDesk$Plant", "mostSteam", "I", false)
  | 6 => ("BoilerDesk$Plant", "steamRise", "I", false)
  | 7 => ("BoilerDesk$Plant", "steamFall", "I", false)
  | _ => ("BoilerDesk$Plant", "pumpRate", "I", false)
def tyP : Nat → FieldType := fun k => match k with
  | 0 => .int
  | 1 => .int
  | 2 => .int
  | 3 => .int
  | 4 => .int
  | 5 => .int
  | 6 => .int
  | 7 => .int
  | _ => .int
theorem nmP : ∀ a, a < 9 → ∀ b, b < 9 → a ≠ b → (TP a).2.1 ≠ (TP b).2.1 := by decide +kernel
theorem tyP_ok : ∀ k, k < 9 → parseFieldDescriptor (TP k).2.2.1 = some (tyP k) := by decide +kernel
theorem inP : ∀ w ∈ u_ws "BoilerDesk$Plant" TP 9, w ∈ lw_st := by
  intro w h
  obtain ⟨k, hk, rfl⟩ := List.mem_map.mp h
  have hk := List.mem_range.mp hk
  match k, hk with
  | 0, _ => exact q_79
  | 1, _ => exact q_81
  | 2, _ => exact q_83
  | 3, _ => exact q_85
  | 4, _ => exact q_87
  | 5, _ => exact q_89
  | 6, _ => exact q_91
  | 7, _ => exact q_93
  | 8, _ => exact q_95
  | k + 9, hk => exact absurd hk (by omega)
def TR : u_T := fun k => match k with
  | 0 => ("BoilerDesk$Report", "pumpsTurnedOn", "I", false)
  | 1 => ("BoilerDesk$Report", "pumpsShut", "I", false)
  | 2 => ("BoilerDesk$Report", "valveOpened", "Z", false)
  | 3 => ("BoilerDesk$Report", "valveShut", "Z", false)
  | 4 => ("BoilerDesk$Report", "detected", "I", false)
  | 5 => ("BoilerDesk$Report", "repaired", "I", false)
  | _ => ("BoilerDesk$Report", "programReady", "Z", false)
def tyR : Nat → FieldType := fun k => match k with
  | 0 => .int
  | 1 => .int
  | 2 => .boolean
  | 3 => .boolean
  | 4 => .int
  | 5 => .int
  | _ => .boolean
theorem nmR : ∀ a, a < 7 → ∀ b, b < 7 → a ≠ b → (TR a).2.1 ≠ (TR b).2.1 := by decide +kernel
theorem tyR_ok : ∀ k, k < 7 → parseFieldDescriptor (TR k).2.2.1 = some (tyR k) := by decide +kernel
theorem inR : ∀ w ∈ u_ws "BoilerDesk$Report" TR 7, w ∈ lw_st := by
  intro w h
  obtain ⟨k, hk, rfl⟩ := List.mem_map.mp h
  have hk := List.mem_range.mp hk
  match k, hk with
  | 0, _ => exact q_210
  | 1, _ => exact q_212
  | 2, _ => exact q_214
  | 3, _ => exact q_216
  | 4, _ => exact q_218
  | 5, _ => exact q_220
  | 6, _ => exact q_222
  | k + 7, hk => exact absurd hk (by omega)
def TS : u_T := fun k => match k with
  | 0 => ("BoilerDesk$Span", "from", "I", false)
  | _ => ("BoilerDesk$Span", "to", "I", false)
def tyS : Nat → FieldType := fun k => match k with
  | 0 => .int
  | _ => .int
theorem nmS : ∀ a, a < 2 → ∀ b, b < 2 → a ≠ b → (TS a).2.1 ≠ (TS b).2.1 := by decide +kernel
theorem tyS_ok : ∀ k, k < 2 → parseFieldDescriptor (TS k).2.2.1 = some (tyS k) := by decide +kernel
theorem inS : ∀ w ∈ u_ws "BoilerDesk$Span" TS 2, w ∈ lw_st := by
  intro w h
  obtain ⟨k, hk, rfl⟩ := List.mem_map.mp h
  have hk := List.mem_range.mp hk
  match k, hk with
  | 0, _ => exact q_235
  | 1, _ => exact q_237
  | k + 2, hk => exact absurd hk (by omega)
def TU : u_T := fun k => match k with
  | 0 => ("BoilerDesk$Units", "failed", "I", false)
  | _ => ("BoilerDesk$Units", "acknowledged", "I", false)
def tyU : Nat → FieldType := fun k => match k with
  | 0 => .int
  | _ => .int
theorem nmU : ∀ a, a < 2 → ∀ b, b < 2 → a ≠ b → (TU a).2.1 ≠ (TU b).2.1 := by decide +kernel
theorem tyU_ok : ∀ k, k < 2 → parseFieldDescriptor (TU k).2.2.1 = some (tyU k) := by decide +kernel
theorem inU : ∀ w ∈ u_ws "BoilerDesk$Units" TU 2, w ∈ lw_st := by
  intro w h
  obtain ⟨k, hk, rfl⟩ := List.mem_map.mp h
  have hk := List.mem_range.mp hk
  match k, hk with
  | 0, _ => exact q_163
  | 1, _ => exact q_165
  | k + 2, hk => exact absurd hk (by omega)
def TX : u_T := fun k => match k with
  | 0 => ("BoilerDeskModel", "err", "I", false)
  | 1 => ("BoilerDeskModel", "c", "I", false)
  | 2 => ("BoilerDeskModel", "m1", "I", false)
  | 3 => ("BoilerDeskModel", "n1", "I", false)
  | 4 => ("BoilerDeskModel", "n2", "I", false)
  | 5 => ("BoilerDeskModel", "m2", "I", false)
  | 6 => ("BoilerDeskModel", "most", "I", false)
  | 7 => ("BoilerDeskModel", "up", "I", false)
  | 8 => ("BoilerDeskModel", "down", "I", false)
  | 9 => ("BoilerDeskModel", "gives", "I", false)
  | 10 => ("BoilerDeskModel", "mode", "I", false)
  | 11 => ("BoilerDeskModel", "cycles", "I", false)
  | 12 => ("BoilerDeskModel", "low", "I", false)
  | 13 => ("BoilerDeskModel", "high", "I", false)
  | 14 => ("BoilerDeskModel", "least", "I", false)
  | 15 => ("BoilerDeskModel", "greatest", "I", false)
  | 16 => ("BoilerDeskModel", "stops", "I", false)
  | 17 => ("BoilerDeskModel", "detected", "I", false)
  | 18 => ("BoilerDeskModel", "repaired", "I", false)
  | 19 => ("BoilerDeskModel", "pumpsTold", "I", false)
  | 20 => ("BoilerDeskModel", "valveTold", "I", false)
  | 21 => ("BoilerDeskModel", "readyTold", "I", false)
  | 22 => ("BoilerDeskModel", "valve", "Z", false)
  | 23 => ("BoilerDeskModel", "waited", "Z", false)
  | 24 => ("BoilerDeskModel", "failed", "[Z", true)
  | 25 => ("BoilerDeskModel", "known", "[Z", true)
  | 26 => ("BoilerDeskModel", "wasFailed", "[Z", true)
  | 27 => ("BoilerDeskModel", "on", "[Z", true)
  | 28 => ("BoilerDeskModel", "before", "[Z", true)
  | 29 => ("BoilerDeskModel", "gave", "[Z", true)
  | 30 => ("BoilerDeskModel", "level", "I", false)
  | 31 => ("BoilerDeskModel", "steam", "I", false)
  | 32 => ("BoilerDeskModel", "isLevel", "Z", false)
  | 33 => ("BoilerDeskModel", "isSteam", "Z", false)
  | 34 => ("BoilerDeskModel", "waiting", "Z", false)
  | 35 => ("BoilerDeskModel", "ready", "Z", false)
  | 36 => ("BoilerDeskModel", "stop", "Z", false)
  | 37 => ("BoilerDeskModel", "isPump", "[Z", true)
  | 38 => ("BoilerDeskModel", "saysOn", "[Z", true)
  | 39 => ("BoilerDeskModel", "saysGives", "[Z", true)
  | 40 => ("BoilerDeskModel", "repair", "[Z", true)
  | 41 => ("BoilerDeskModel", "knows", "[Z", true)
  | _ => ("BoilerDeskModel", "now", "[Z", true)
def tyX : Nat → FieldType := fun k => match k with
  | 0 => .int
  | 1 => .int
  | 2 => .int
  | 3 => .int
  | 4 => .int
  | 5 => .int
  | 6 => .int
  | 7 => .int
  | 8 => .int
  | 9 => .int
  | 10 => .int
  | 11 => .int
  | 12 => .int
  | 13 => .int
  | 14 => .int
  | 15 => .int
  | 16 => .int
  | 17 => .int
  | 18 => .int
  | 19 => .int
  | 20 => .int
  | 21 => .int
  | 22 => .boolean
  | 23 => .boolean
  | 24 => .array .boolean
  | 25 => .array .boolean
  | 26 => .array .boolean
  | 27 => .array .boolean
  | 28 => .array .boolean
  | 29 => .array .boolean
  | 30 => .int
  | 31 => .int
  | 32 => .boolean
  | 33 => .boolean
  | 34 => .boolean
  | 35 => .boolean
  | 36 => .boolean
  | 37 => .array .boolean
  | 38 => .array .boolean
  | 39 => .array .boolean
  | 40 => .array .boolean
  | 41 => .array .boolean
  | _ => .array .boolean
theorem nmX : ∀ a, a < 43 → ∀ b, b < 43 → a ≠ b → (TX a).2.1 ≠ (TX b).2.1 := by decide +kernel
theorem tyX_ok : ∀ k, k < 43 → parseFieldDescriptor (TX k).2.2.1 = some (tyX k) := by decide +kernel
theorem inX : ∀ w ∈ u_ws "BoilerDeskModel" TX 43, w ∈ lw_st := by
  intro w h
  obtain ⟨k, hk, rfl⟩ := List.mem_map.mp h
  have hk := List.mem_range.mp hk
  match k, hk with
  | 0, _ => exact q_686
  | 1, _ => exact q_688
  | 2, _ => exact q_690
  | 3, _ => exact q_692
  | 4, _ => exact q_694
  | 5, _ => exact q_696
  | 6, _ => exact q_698
  | 7, _ => exact q_700
  | 8, _ => exact q_702
  | 9, _ => exact q_704
  | 10, _ => exact q_706
  | 11, _ => exact q_708
  | 12, _ => exact q_710
  | 13, _ => exact q_712
  | 14, _ => exact q_714
  | 15, _ => exact q_716
  | 16, _ => exact q_718
  | 17, _ => exact q_720
  | 18, _ => exact q_722
  | 19, _ => exact q_724
  | 20, _ => exact q_726
  | 21, _ => exact q_728
  | 22, _ => exact q_730
  | 23, _ => exact q_732
  | 24, _ => exact q_734
  | 25, _ => exact q_736
  | 26, _ => exact q_738
  | 27, _ => exact q_740
  | 28, _ => exact q_742
  | 29, _ => exact q_744
  | 30, _ => exact q_746
  | 31, _ => exact q_748
  | 32, _ => exact q_750
  | 33, _ => exact q_752
  | 34, _ => exact q_754
  | 35, _ => exact q_756
  | 36, _ => exact q_758
  | 37, _ => exact q_760
  | 38, _ => exact q_762
  | 39, _ => exact q_764
  | 40, _ => exact q_766
  | 41, _ => exact q_768
  | 42, _ => exact q_770
  | k + 43, hk => exact absurd hk (by omega)
abbrev vwCl : List vw_C := [("BoilerDesk", TD, 13), ("BoilerDesk$Inbox", TI, 12), ("BoilerDesk$Machines", TM, 4), ("BoilerDesk$Plant", TP, 9), ("BoilerDesk$Report", TR, 7), ("BoilerDesk$Span", TS, 2), ("BoilerDesk$Units", TU, 2), ("BoilerDeskModel", TX, 43)]
abbrev cD_init : ByteArray := prog_1_method_1_code
abbrev yD_init : MethodName := ⟨"BoilerDesk", "<init>", "()V"⟩
abbrev cD_begin : ByteArray := prog_1_method_2_code
abbrev yD_begin : MethodName := ⟨"BoilerDesk", "begin", "(IIIIIIIII)V"⟩
abbrev cD_level : ByteArray := prog_1_method_3_code
abbrev yD_level : MethodName := ⟨"BoilerDesk", "level", "(I)V"⟩
abbrev cD_steam : ByteArray := prog_1_method_4_code
abbrev yD_steam : MethodName := ⟨"BoilerDesk", "steam", "(I)V"⟩
abbrev cD_pump : ByteArray := prog_1_method_5_code
abbrev yD_pump : MethodName := ⟨"BoilerDesk", "pump", "(IZZ)V"⟩
abbrev cD_say : ByteArray := prog_1_method_6_code
abbrev yD_say : MethodName := ⟨"BoilerDesk", "say", "(I)V"⟩
abbrev cD_unit : ByteArray := prog_1_method_7_code
abbrev yD_unit : MethodName := ⟨"BoilerDesk", "unit", "(IZ)V"⟩
abbrev cD_cycle : ByteArray := prog_1_method_8_code
abbrev yD_cycle : MethodName := ⟨"BoilerDesk", "cycle", "()I"⟩
abbrev cD_told : ByteArray := prog_1_method_9_code
abbrev yD_told : MethodName := ⟨"BoilerDesk", "told", "(I)I"⟩
abbrev cD_state : ByteArray := prog_1_method_10_code
abbrev yD_state : MethodName := ⟨"BoilerDesk", "state", "(I)I"⟩
abbrev cD_limitsAreSound : ByteArray := prog_1_method_11_code
abbrev yD_limitsAreSound : MethodName := ⟨"BoilerDesk", "limitsAreSound", "(IIIII)Z"⟩
abbrev cD_ratesAreSound : ByteArray := prog_1_method_12_code
abbrev yD_ratesAreSound : MethodName := ⟨"BoilerDesk", "ratesAreSound", "(IIII)Z"⟩
abbrev cD_startAnew : ByteArray := prog_1_method_13_code
abbrev yD_startAnew : MethodName := ⟨"BoilerDesk", "startAnew", "()V"⟩
abbrev cD_runSteps : ByteArray := prog_1_method_14_code
abbrev yD_runSteps : MethodName := ⟨"BoilerDesk", "runSteps", "()V"⟩
abbrev cD_noteWords : ByteArray := prog_1_method_15_code
abbrev yD_noteWords : MethodName := ⟨"BoilerDesk", "noteWords", "()V"⟩
abbrev cD_takeRepairs : ByteArray := prog_1_method_16_code
abbrev yD_takeRepairs : MethodName := ⟨"BoilerDesk", "takeRepairs", "()V"⟩
abbrev cD_takeAcknowledgements : ByteArray := prog_1_method_17_code
abbrev yD_takeAcknowledgements : MethodName := ⟨"BoilerDesk", "takeAcknowledgements", "()V"⟩
abbrev cD_stopUnlessInitial : ByteArray := prog_1_method_18_code
abbrev yD_stopUnlessInitial : MethodName := ⟨"BoilerDesk", "stopUnlessInitial", "()V"⟩
abbrev cD_expectReadings : ByteArray := prog_1_method_19_code
abbrev yD_expectReadings : MethodName := ⟨"BoilerDesk", "expectReadings", "(I)V"⟩
abbrev cD_detectFailures : ByteArray := prog_1_method_20_code
abbrev yD_detectFailures : MethodName := ⟨"BoilerDesk", "detectFailures", "()V"⟩
abbrev cD_isToldWrongly : ByteArray := prog_1_method_21_code
abbrev yD_isToldWrongly : MethodName := ⟨"BoilerDesk", "isToldWrongly", "(I)Z"⟩
abbrev cD_detect : ByteArray := prog_1_method_22_code
abbrev yD_detect : MethodName := ⟨"BoilerDesk", "detect", "(I)V"⟩
abbrev cD_estimate : ByteArray := prog_1_method_23_code
abbrev yD_estimate : MethodName := ⟨"BoilerDesk", "estimate", "()V"⟩
abbrev cD_modeBehindInitial : ByteArray := prog_1_method_24_code
abbrev yD_modeBehindInitial : MethodName := ⟨"BoilerDesk", "modeBehindInitial", "()I"⟩
abbrev cD_modeInOperation : ByteArray := prog_1_method_25_code
abbrev yD_modeInOperation : MethodName := ⟨"BoilerDesk", "modeInOperation", "()I"⟩
abbrev cD_modeByAnyFailure : ByteArray := prog_1_method_26_code
abbrev yD_modeByAnyFailure : MethodName := ⟨"BoilerDesk", "modeByAnyFailure", "()I"⟩
abbrev cD_giveCommands : ByteArray := prog_1_method_27_code
abbrev yD_giveCommands : MethodName := ⟨"BoilerDesk", "giveCommands", "()V"⟩
abbrev cD_commandInInitial : ByteArray := prog_1_method_28_code
abbrev yD_commandInInitial : MethodName := ⟨"BoilerDesk", "commandInInitial", "()V"⟩
abbrev cD_commandInOperation : ByteArray := prog_1_method_29_code
abbrev yD_commandInOperation : MethodName := ⟨"BoilerDesk", "commandInOperation", "()V"⟩
abbrev cD_turnOnGoodPumps : ByteArray := prog_1_method_30_code
abbrev yD_turnOnGoodPumps : MethodName := ⟨"BoilerDesk", "turnOnGoodPumps", "()V"⟩
abbrev cD_commandPumps : ByteArray := prog_1_method_31_code
abbrev yD_commandPumps : MethodName := ⟨"BoilerDesk", "commandPumps", "(I)V"⟩
abbrev cD_commandValve : ByteArray := prog_1_method_32_code
abbrev yD_commandValve : MethodName := ⟨"BoilerDesk", "commandValve", "(Z)V"⟩
abbrev cD_isWithin : ByteArray := prog_1_method_33_code
abbrev yD_isWithin : MethodName := ⟨"BoilerDesk", "isWithin", "(III)Z"⟩
abbrev cD_hasBit : ByteArray := prog_1_method_34_code
abbrev yD_hasBit : MethodName := ⟨"BoilerDesk", "hasBit", "(II)Z"⟩
abbrev cD_withBit : ByteArray := prog_1_method_35_code
abbrev yD_withBit : MethodName := ⟨"BoilerDesk", "withBit", "(IIZ)I"⟩
abbrev cX_init : ByteArray := prog_9_method_1_code
abbrev yX_init : MethodName := ⟨"BoilerDeskModel", "<init>", "()V"⟩
abbrev cX_thrown : ByteArray := prog_9_method_2_code
abbrev yX_thrown : MethodName := ⟨"BoilerDeskModel", "thrown", "()I"⟩
abbrev cX_in : ByteArray := prog_9_method_3_code
abbrev yX_in : MethodName := ⟨"BoilerDeskModel", "in", "(III)Z"⟩
abbrev cX_fails : ByteArray := prog_9_method_4_code
abbrev yX_fails : MethodName := ⟨"BoilerDeskModel", "fails", "(ZI)Z"⟩
abbrev cX_anew : ByteArray := prog_9_method_5_code
abbrev yX_anew : MethodName := ⟨"BoilerDeskModel", "anew", "(IIIIIIIII)V"⟩
abbrev cX_forget : ByteArray := prog_9_method_6_code
abbrev yX_forget : MethodName := ⟨"BoilerDeskModel", "forget", "()V"⟩
abbrev cX_quiet : ByteArray := prog_9_method_7_code
abbrev yX_quiet : MethodName := ⟨"BoilerDeskModel", "quiet", "()V"⟩
abbrev cX_begin : ByteArray := prog_9_method_8_code
abbrev yX_begin : MethodName := ⟨"BoilerDeskModel", "begin", "(IIIIIIIII)V"⟩
abbrev cX_level : ByteArray := prog_9_method_9_code
abbrev yX_level : MethodName := ⟨"BoilerDeskModel", "level", "(I)V"⟩
abbrev cX_steam : ByteArray := prog_9_method_10_code
abbrev yX_steam : MethodName := ⟨"BoilerDeskModel", "steam", "(I)V"⟩
abbrev cX_pump : ByteArray := prog_9_method_11_code
abbrev yX_pump : MethodName := ⟨"BoilerDeskModel", "pump", "(IZZ)V"⟩
abbrev cX_say : ByteArray := prog_9_method_12_code
abbrev yX_say : MethodName := ⟨"BoilerDeskModel", "say", "(I)V"⟩
abbrev cX_unit : ByteArray := prog_9_method_13_code
abbrev yX_unit : MethodName := ⟨"BoilerDeskModel", "unit", "(IZ)V"⟩
abbrev cX_cycle : ByteArray := prog_9_method_14_code
abbrev yX_cycle : MethodName := ⟨"BoilerDeskModel", "cycle", "()I"⟩
abbrev cX_turn : ByteArray := prog_9_method_15_code
abbrev yX_turn : MethodName := ⟨"BoilerDeskModel", "turn", "()Z"⟩
abbrev cX_find : ByteArray := prog_9_method_16_code
abbrev yX_find : MethodName := ⟨"BoilerDeskModel", "find", "(IZ)V"⟩
abbrev cX_units : ByteArray := prog_9_method_17_code
abbrev yX_units : MethodName := ⟨"BoilerDeskModel", "units", "()Z"⟩
abbrev cX_some : ByteArray := prog_9_method_18_code
abbrev yX_some : MethodName := ⟨"BoilerDeskModel", "some", "(II)Z"⟩
abbrev cX_first : ByteArray := prog_9_method_19_code
abbrev yX_first : MethodName := ⟨"BoilerDeskModel", "first", "()Z"⟩
abbrev cX_others : ByteArray := prog_9_method_20_code
abbrev yX_others : MethodName := ⟨"BoilerDeskModel", "others", "()Z"⟩
abbrev cX_command : ByteArray := prog_9_method_21_code
abbrev yX_command : MethodName := ⟨"BoilerDeskModel", "command", "()V"⟩
abbrev cX_told : ByteArray := prog_9_method_22_code
abbrev yX_told : MethodName := ⟨"BoilerDeskModel", "told", "(I)I"⟩
abbrev cX_state : ByteArray := prog_9_method_23_code
abbrev yX_state : MethodName := ⟨"BoilerDeskModel", "state", "(I)I"⟩
abbrev cI_init : ByteArray := prog_2_method_1_code
abbrev yI_init : MethodName := ⟨"BoilerDesk$Inbox", "<init>", "()V"⟩
abbrev cI_hasAllReadings : ByteArray := prog_2_method_2_code
abbrev yI_hasAllReadings : MethodName := ⟨"BoilerDesk$Inbox", "hasAllReadings", "()Z"⟩
abbrev cI_clear : ByteArray := prog_2_method_3_code
abbrev yI_clear : MethodName := ⟨"BoilerDesk$Inbox", "clear", "()V"⟩
abbrev cM_init : ByteArray := prog_3_method_1_code
abbrev yM_init : MethodName := ⟨"BoilerDesk$Machines", "<init>", "()V"⟩
abbrev cM_remember : ByteArray := prog_3_method_2_code
abbrev yM_remember : MethodName := ⟨"BoilerDesk$Machines", "remember", "(I)V"⟩
abbrev cM_pumpsSurelyGiving : ByteArray := prog_3_method_3_code
abbrev yM_pumpsSurelyGiving : MethodName := ⟨"BoilerDesk$Machines", "pumpsSurelyGiving", "(I)I"⟩
abbrev cM_pumpsSurelyIdle : ByteArray := prog_3_method_4_code
abbrev yM_pumpsSurelyIdle : MethodName := ⟨"BoilerDesk$Machines", "pumpsSurelyIdle", "(I)I"⟩
abbrev cM_trusted : ByteArray := prog_3_method_5_code
abbrev yM_trusted : MethodName := ⟨"BoilerDesk$Machines", "trusted", "(I)I"⟩
abbrev cM_clear : ByteArray := prog_3_method_6_code
abbrev yM_clear : MethodName := ⟨"BoilerDesk$Machines", "clear", "()V"⟩
abbrev cP_init : ByteArray := prog_4_method_1_code
abbrev yP_init : MethodName := ⟨"BoilerDesk$Plant", "<init>", "()V"⟩
abbrev cP_setLimits : ByteArray := prog_4_method_2_code
abbrev yP_setLimits : MethodName := ⟨"BoilerDesk$Plant", "setLimits", "(IIIII)V"⟩
abbrev cP_setRates : ByteArray := prog_4_method_3_code
abbrev yP_setRates : MethodName := ⟨"BoilerDesk$Plant", "setRates", "(IIII)V"⟩
abbrev cP_isNormalLevel : ByteArray := prog_4_method_4_code
abbrev yP_isNormalLevel : MethodName := ⟨"BoilerDesk$Plant", "isNormalLevel", "(I)Z"⟩
abbrev cP_withinCapacity : ByteArray := prog_4_method_5_code
abbrev yP_withinCapacity : MethodName := ⟨"BoilerDesk$Plant", "withinCapacity", "(I)I"⟩
abbrev cP_given : ByteArray := prog_4_method_6_code
abbrev yP_given : MethodName := ⟨"BoilerDesk$Plant", "given", "(I)I"⟩
abbrev cR_init : ByteArray := prog_5_method_1_code
abbrev yR_init : MethodName := ⟨"BoilerDesk$Report", "<init>", "()V"⟩
abbrev cR_clear : ByteArray := prog_5_method_2_code
abbrev yR_clear : MethodName := ⟨"BoilerDesk$Report", "clear", "()V"⟩
abbrev cS_init : ByteArray := prog_6_method_1_code
abbrev yS_init : MethodName := ⟨"BoilerDesk$Span", "<init>", "()V"⟩
abbrev cS_put : ByteArray := prog_6_method_2_code
abbrev yS_put : MethodName := ⟨"BoilerDesk$Span", "put", "(II)V"⟩
abbrev cS_holds : ByteArray := prog_6_method_3_code
abbrev yS_holds : MethodName := ⟨"BoilerDesk$Span", "holds", "(I)Z"⟩
abbrev cU_init : ByteArray := prog_7_method_1_code
abbrev yU_init : MethodName := ⟨"BoilerDesk$Units", "<init>", "()V"⟩
abbrev cU_hasFailed : ByteArray := prog_7_method_2_code
abbrev yU_hasFailed : MethodName := ⟨"BoilerDesk$Units", "hasFailed", "(I)Z"⟩
abbrev cU_awaitsAcknowledgement : ByteArray := prog_7_method_3_code
abbrev yU_awaitsAcknowledgement : MethodName := ⟨"BoilerDesk$Units", "awaitsAcknowledgement", "(I)Z"⟩
abbrev cU_fail : ByteArray := prog_7_method_4_code
abbrev yU_fail : MethodName := ⟨"BoilerDesk$Units", "fail", "(I)V"⟩
abbrev cU_acknowledge : ByteArray := prog_7_method_5_code
abbrev yU_acknowledge : MethodName := ⟨"BoilerDesk$Units", "acknowledge", "(I)V"⟩
abbrev cU_repair : ByteArray := prog_7_method_6_code
abbrev yU_repair : MethodName := ⟨"BoilerDesk$Units", "repair", "(I)V"⟩
abbrev cU_clear : ByteArray := prog_7_method_7_code
abbrev yU_clear : MethodName := ⟨"BoilerDesk$Units", "clear", "()V"⟩
abbrev cL_begin : ByteArray := method_3_code
abbrev yL_begin : MethodName := ⟨"BoilerDeskLaw", "begin", "(LBoilerDesk;IIIIIIIII)I"⟩
abbrev cL_pump : ByteArray := method_4_code
abbrev yL_pump : MethodName := ⟨"BoilerDeskLaw", "pump", "(LBoilerDesk;IZZ)I"⟩
abbrev cL_say : ByteArray := method_5_code
abbrev yL_say : MethodName := ⟨"BoilerDeskLaw", "say", "(LBoilerDesk;I)I"⟩
abbrev cL_unit : ByteArray := method_6_code
abbrev yL_unit : MethodName := ⟨"BoilerDeskLaw", "unit", "(LBoilerDesk;IZ)I"⟩
abbrev cL_cycle : ByteArray := method_7_code
abbrev yL_cycle : MethodName := ⟨"BoilerDeskLaw", "cycle", "(LBoilerDesk;[J)I"⟩
abbrev cL_told : ByteArray := method_8_code
abbrev yL_told : MethodName := ⟨"BoilerDeskLaw", "told", "(LBoilerDesk;I[J)I"⟩
abbrev cL_state : ByteArray := method_9_code
abbrev yL_state : MethodName := ⟨"BoilerDeskLaw", "state", "(LBoilerDesk;I[J)I"⟩
abbrev cL_law : ByteArray := code
abbrev yL_law : MethodName := ⟨"BoilerDeskLaw", "law", "([I)Z"⟩
abbrev cJ_bitCount : ByteArray := prog_13_method_49_code
abbrev yJ_bitCount : MethodName := ⟨"java/lang/Integer", "bitCount", "(I)I"⟩
end
section
theorem dD_init_0 : decode cD_init 0 = .ok (.aload_n 0, 1) := by decide +kernel
theorem dD_init_1 : decode cD_init 1 = .ok (.invokespecial 3, 3) := by decide +kernel
theorem dD_init_4 : decode cD_init 4 = .ok (.aload_n 0, 1) := by decide +kernel
theorem dD_init_5 : decode cD_init 5 = .ok (.new 9, 3) := by decide +kernel
theorem dD_init_8 : decode cD_init 8 = .ok (.dup, 1) := by decide +kernel
theorem dD_init_9 : decode cD_init 9 = .ok (.invokespecial 11, 3) := by decide +kernel
theorem dD_init_12 : decode cD_init 12 = .ok (.putfield 12, 3) := by decide +kernel
theorem dD_init_15 : decode cD_init 15 = .ok (.aload_n 0, 1) := by decide +kernel
theorem dD_init_16 : decode cD_init 16 = .ok (.new 16, 3) := by decide +kernel
theorem dD_init_19 : decode cD_init 19 = .ok (.dup, 1) := by decide +kernel
theorem dD_init_20 : decode cD_init 20 = .ok (.invokespecial 18, 3) := by decide +kernel
theorem dD_init_23 : decode cD_init 23 = .ok (.putfield 19, 3) := by decide +kernel
theorem dD_init_26 : decode cD_init 26 = .ok (.aload_n 0, 1) := by decide +kernel
theorem dD_init_27 : decode cD_init 27 = .ok (.new 23, 3) := by decide +kernel
theorem dD_init_30 : decode cD_init 30 = .ok (.dup, 1) := by decide +kernel
theorem dD_init_31 : decode cD_init 31 = .ok (.invokespecial 25, 3) := by decide +kernel
theorem dD_init_34 : decode cD_init 34 = .ok (.putfield 26, 3) := by decide +kernel
theorem dD_init_37 : decode cD_init 37 = .ok (.aload_n 0, 1) := by decide +kernel
theorem dD_init_38 : decode cD_init 38 = .ok (.new 30, 3) := by decide +kernel
theorem dD_init_41 : decode cD_init 41 = .ok (.dup, 1) := by decide +kernel
theorem dD_init_42 : decode cD_init 42 = .ok (.invokespecial 32, 3) := by decide +kernel
theorem dD_init_45 : decode cD_init 45 = .ok (.putfield 33, 3) := by decide +kernel
theorem dD_init_48 : decode cD_init 48 = .ok (.aload_n 0, 1) := by decide +kernel
theorem dD_init_49 : decode cD_init 49 = .ok (.new 37, 3) := by decide +kernel
theorem dD_init_52 : decode cD_init 52 = .ok (.dup, 1) := by decide +kernel
theorem dD_init_53 : decode cD_init 53 = .ok (.invokespecial 39, 3) := by decide +kernel
theorem dD_init_56 : decode cD_init 56 = .ok (.putfield 40, 3) := by decide +kernel
theorem dD_init_59 : decode cD_init 59 = .ok (.aload_n 0, 1) := by decide +kernel
theorem dD_init_60 : decode cD_init 60 = .ok (.new 44, 3) := by decide +kernel
theorem dD_init_63 : decode cD_init 63 = .ok (.dup, 1) := by decide +kernel
theorem dD_init_64 : decode cD_init 64 = .ok (.invokespecial 46, 3) := by decide +kernel
theorem dD_init_67 : decode cD_init 67 = .ok (.putfield 47, 3) := by decide +kernel
theorem dD_init_70 : decode cD_init 70 = .ok (.aload_n 0, 1) := by decide +kernel
theorem dD_init_71 : decode cD_init 71 = .ok (.new 44, 3) := by decide +kernel
theorem dD_init_74 : decode cD_init 74 = .ok (.dup, 1) := by decide +kernel
theorem dD_init_75 : decode cD_init 75 = .ok (.invokespecial 46, 3) := by decide +kernel
theorem dD_init_78 : decode cD_init 78 = .ok (.putfield 51, 3) := by decide +kernel
theorem dD_init_81 : decode cD_init 81 = .ok (.aload_n 0, 1) := by decide +kernel
theorem dD_init_82 : decode cD_init 82 = .ok (.new 44, 3) := by decide +kernel
theorem dD_init_85 : decode cD_init 85 = .ok (.dup, 1) := by decide +kernel
theorem dD_init_86 : decode cD_init 86 = .ok (.invokespecial 46, 3) := by decide +kernel
theorem dD_init_89 : decode cD_init 89 = .ok (.putfield 54, 3) := by decide +kernel
theorem dD_init_92 : decode cD_init 92 = .ok (.aload_n 0, 1) := by decide +kernel
theorem dD_init_93 : decode cD_init 93 = .ok (.new 44, 3) := by decide +kernel
theorem dD_init_96 : decode cD_init 96 = .ok (.dup, 1) := by decide +kernel
theorem dD_init_97 : decode cD_init 97 = .ok (.invokespecial 46, 3) := by decide +kernel
theorem dD_init_100 : decode cD_init 100 = .ok (.putfield 57, 3) := by decide +kernel
theorem dD_init_103 : decode cD_init 103 = .ok (.aload_n 0, 1) := by decide +kernel
theorem dD_init_104 : decode cD_init 104 = .ok (.getfield 12, 3) := by decide +kernel
theorem dD_init_107 : decode cD_init 107 = .ok (.sipush 1000, 3) := by decide +kernel
theorem dD_init_110 : decode cD_init 110 = .ok (.bipush 100, 2) := by decide +kernel
theorem dD_init_112 : decode cD_init 112 = .ok (.sipush 400, 3) := by decide +kernel
theorem dD_init_115 : decode cD_init 115 = .ok (.sipush 600, 3) := by decide +kernel
theorem dD_init_118 : decode cD_init 118 = .ok (.sipush 900, 3) := by decide +kernel
theorem dD_init_121 : decode cD_init 121 = .ok (.invokevirtual 60, 3) := by decide +kernel
theorem dD_init_124 : decode cD_init 124 = .ok (.aload_n 0, 1) := by decide +kernel
theorem dD_init_125 : decode cD_init 125 = .ok (.getfield 12, 3) := by decide +kernel
theorem dD_init_128 : decode cD_init 128 = .ok (.bipush 50, 2) := by decide +kernel
theorem dD_init_130 : decode cD_init 130 = .ok (.iconst 5, 1) := by decide +kernel
theorem dD_init_131 : decode cD_init 131 = .ok (.iconst 5, 1) := by decide +kernel
theorem dD_init_132 : decode cD_init 132 = .ok (.bipush 15, 2) := by decide +kernel
theorem dD_init_134 : decode cD_init 134 = .ok (.invokevirtual 64, 3) := by decide +kernel
theorem dD_init_137 : decode cD_init 137 = .ok (.aload_n 0, 1) := by decide +kernel
theorem dD_init_138 : decode cD_init 138 = .ok (.invokevirtual 68, 3) := by decide +kernel
theorem dD_init_141 : decode cD_init 141 = .ok (.return_, 1) := by decide +kernel
theorem dD_begin_0 : decode cD_begin 0 = .ok (.iload_n 1, 1) := by decide +kernel
theorem dD_begin_1 : decode cD_begin 1 = .ok (.iload_n 2, 1) := by decide +kernel
theorem dD_begin_2 : decode cD_begin 2 = .ok (.iload_n 3, 1) := by decide +kernel
theorem dD_begin_3 : decode cD_begin 3 = .ok (.iload 4, 2) := by decide +kernel
theorem dD_begin_5 : decode cD_begin 5 = .ok (.iload 5, 2) := by decide +kernel
theorem dD_begin_7 : decode cD_begin 7 = .ok (.invokestatic 71, 3) := by decide +kernel
theorem dD_begin_10 : decode cD_begin 10 = .ok (.ifCond .eq 17, 3) := by decide +kernel
theorem dD_begin_13 : decode cD_begin 13 = .ok (.iload 6, 2) := by decide +kernel
theorem dD_begin_15 : decode cD_begin 15 = .ok (.iload 7, 2) := by decide +kernel
theorem dD_begin_17 : decode cD_begin 17 = .ok (.iload 8, 2) := by decide +kernel
theorem dD_begin_19 : decode cD_begin 19 = .ok (.iload 9, 2) := by decide +kernel
theorem dD_begin_21 : decode cD_begin 21 = .ok (.invokestatic 75, 3) := by decide +kernel
theorem dD_begin_24 : decode cD_begin 24 = .ok (.ifCond .ne 13, 3) := by decide +kernel
theorem dD_begin_27 : decode cD_begin 27 = .ok (.new 79, 3) := by decide +kernel
theorem dD_begin_30 : decode cD_begin 30 = .ok (.dup, 1) := by decide +kernel
theorem dD_begin_31 : decode cD_begin 31 = .ok (.ldc 81, 2) := by decide +kernel
theorem dD_begin_33 : decode cD_begin 33 = .ok (.invokespecial 83, 3) := by decide +kernel
theorem dD_begin_36 : decode cD_begin 36 = .ok (.athrow, 1) := by decide +kernel
theorem dD_begin_37 : decode cD_begin 37 = .ok (.aload_n 0, 1) := by decide +kernel
theorem dD_begin_38 : decode cD_begin 38 = .ok (.getfield 12, 3) := by decide +kernel
theorem dD_begin_41 : decode cD_begin 41 = .ok (.iload_n 1, 1) := by decide +kernel
theorem dD_begin_42 : decode cD_begin 42 = .ok (.iload_n 2, 1) := by decide +kernel
theorem dD_begin_43 : decode cD_begin 43 = .ok (.iload_n 3, 1) := by decide +kernel
theorem dD_begin_44 : decode cD_begin 44 = .ok (.iload 4, 2) := by decide +kernel
theorem dD_begin_46 : decode cD_begin 46 = .ok (.iload 5, 2) := by decide +kernel
theorem dD_begin_48 : decode cD_begin 48 = .ok (.invokevirtual 60, 3) := by decide +kernel
theorem dD_begin_51 : decode cD_begin 51 = .ok (.aload_n 0, 1) := by decide +kernel
theorem dD_begin_52 : decode cD_begin 52 = .ok (.getfield 12, 3) := by decide +kernel
theorem dD_begin_55 : decode cD_begin 55 = .ok (.iload 6, 2) := by decide +kernel
theorem dD_begin_57 : decode cD_begin 57 = .ok (.iload 7, 2) := by decide +kernel
theorem dD_begin_59 : decode cD_begin 59 = .ok (.iload 8, 2) := by decide +kernel
theorem dD_begin_61 : decode cD_begin 61 = .ok (.iload 9, 2) := by decide +kernel
theorem dD_begin_63 : decode cD_begin 63 = .ok (.invokevirtual 64, 3) := by decide +kernel
theorem dD_begin_66 : decode cD_begin 66 = .ok (.aload_n 0, 1) := by decide +kernel
theorem dD_begin_67 : decode cD_begin 67 = .ok (.invokevirtual 68, 3) := by decide +kernel
theorem dD_begin_70 : decode cD_begin 70 = .ok (.return_, 1) := by decide +kernel
theorem dD_level_0 : decode cD_level 0 = .ok (.aload_n 0, 1) := by decide +kernel
theorem dD_level_1 : decode cD_level 1 = .ok (.getfield 19, 3) := by decide +kernel
theorem dD_level_4 : decode cD_level 4 = .ok (.iconst 1, 1) := by decide +kernel
theorem dD_level_5 : decode cD_level 5 = .ok (.putfield 86, 3) := by decide +kernel
theorem dD_level_8 : decode cD_level 8 = .ok (.aload_n 0, 1) := by decide +kernel
theorem dD_level_9 : decode cD_level 9 = .ok (.getfield 19, 3) := by decide +kernel
theorem dD_level_12 : decode cD_level 12 = .ok (.iload_n 1, 1) := by decide +kernel
theorem dD_level_13 : decode cD_level 13 = .ok (.putfield 90, 3) := by decide +kernel
theorem dD_level_16 : decode cD_level 16 = .ok (.return_, 1) := by decide +kernel
theorem dD_steam_0 : decode cD_steam 0 = .ok (.aload_n 0, 1) := by decide +kernel
theorem dD_steam_1 : decode cD_steam 1 = .ok (.getfield 19, 3) := by decide +kernel
theorem dD_steam_4 : decode cD_steam 4 = .ok (.iconst 1, 1) := by decide +kernel
theorem dD_steam_5 : decode cD_steam 5 = .ok (.putfield 94, 3) := by decide +kernel
theorem dD_steam_8 : decode cD_steam 8 = .ok (.aload_n 0, 1) := by decide +kernel
theorem dD_steam_9 : decode cD_steam 9 = .ok (.getfield 19, 3) := by decide +kernel
theorem dD_steam_12 : decode cD_steam 12 = .ok (.iload_n 1, 1) := by decide +kernel
theorem dD_steam_13 : decode cD_steam 13 = .ok (.putfield 97, 3) := by decide +kernel
theorem dD_steam_16 : decode cD_steam 16 = .ok (.return_, 1) := by decide +kernel
theorem dD_pump_0 : decode cD_pump 0 = .ok (.iload_n 1, 1) := by decide +kernel
theorem dD_pump_1 : decode cD_pump 1 = .ok (.ifCond .lt 8, 3) := by decide +kernel
theorem dD_pump_4 : decode cD_pump 4 = .ok (.iload_n 1, 1) := by decide +kernel
theorem dD_pump_5 : decode cD_pump 5 = .ok (.iconst 4, 1) := by decide +kernel
theorem dD_pump_6 : decode cD_pump 6 = .ok (.if_icmp .lt 13, 3) := by decide +kernel
theorem dD_pump_9 : decode cD_pump 9 = .ok (.new 79, 3) := by decide +kernel
theorem dD_pump_12 : decode cD_pump 12 = .ok (.dup, 1) := by decide +kernel
theorem dD_pump_13 : decode cD_pump 13 = .ok (.ldc 100, 2) := by decide +kernel
theorem dD_pump_15 : decode cD_pump 15 = .ok (.invokespecial 83, 3) := by decide +kernel
theorem dD_pump_18 : decode cD_pump 18 = .ok (.athrow, 1) := by decide +kernel
theorem dD_pump_19 : decode cD_pump 19 = .ok (.aload_n 0, 1) := by decide +kernel
theorem dD_pump_20 : decode cD_pump 20 = .ok (.getfield 19, 3) := by decide +kernel
theorem dD_pump_23 : decode cD_pump 23 = .ok (.aload_n 0, 1) := by decide +kernel
theorem dD_pump_24 : decode cD_pump 24 = .ok (.getfield 19, 3) := by decide +kernel
theorem dD_pump_27 : decode cD_pump 27 = .ok (.getfield 102, 3) := by decide +kernel
theorem dD_pump_30 : decode cD_pump 30 = .ok (.iload_n 1, 1) := by decide +kernel
theorem dD_pump_31 : decode cD_pump 31 = .ok (.iconst 1, 1) := by decide +kernel
theorem dD_pump_32 : decode cD_pump 32 = .ok (.invokestatic 105, 3) := by decide +kernel
theorem dD_pump_35 : decode cD_pump 35 = .ok (.putfield 102, 3) := by decide +kernel
theorem dD_pump_38 : decode cD_pump 38 = .ok (.aload_n 0, 1) := by decide +kernel
theorem dD_pump_39 : decode cD_pump 39 = .ok (.getfield 19, 3) := by decide +kernel
theorem dD_pump_42 : decode cD_pump 42 = .ok (.aload_n 0, 1) := by decide +kernel
theorem dD_pump_43 : decode cD_pump 43 = .ok (.getfield 19, 3) := by decide +kernel
theorem dD_pump_46 : decode cD_pump 46 = .ok (.getfield 109, 3) := by decide +kernel
theorem dD_pump_49 : decode cD_pump 49 = .ok (.iload_n 1, 1) := by decide +kernel
theorem dD_pump_50 : decode cD_pump 50 = .ok (.iload_n 2, 1) := by decide +kernel
theorem dD_pump_51 : decode cD_pump 51 = .ok (.invokestatic 105, 3) := by decide +kernel
theorem dD_pump_54 : decode cD_pump 54 = .ok (.putfield 109, 3) := by decide +kernel
theorem dD_pump_57 : decode cD_pump 57 = .ok (.aload_n 0, 1) := by decide +kernel
theorem dD_pump_58 : decode cD_pump 58 = .ok (.getfield 19, 3) := by decide +kernel
theorem dD_pump_61 : decode cD_pump 61 = .ok (.aload_n 0, 1) := by decide +kernel
theorem dD_pump_62 : decode cD_pump 62 = .ok (.getfield 19, 3) := by decide +kernel
theorem dD_pump_65 : decode cD_pump 65 = .ok (.getfield 112, 3) := by decide +kernel
theorem dD_pump_68 : decode cD_pump 68 = .ok (.iload_n 1, 1) := by decide +kernel
theorem dD_pump_69 : decode cD_pump 69 = .ok (.iload_n 3, 1) := by decide +kernel
theorem dD_pump_70 : decode cD_pump 70 = .ok (.invokestatic 105, 3) := by decide +kernel
theorem dD_pump_73 : decode cD_pump 73 = .ok (.putfield 112, 3) := by decide +kernel
theorem dD_pump_76 : decode cD_pump 76 = .ok (.return_, 1) := by decide +kernel
theorem dD_say_0 : decode cD_say 0 = .ok (.iload_n 1, 1) := by decide +kernel
theorem dD_say_1 : decode cD_say 1 = .ok (.tableswitch 60 0 2 #[27, 38, 49], 27) := by decide +kernel
theorem dD_say_28 : decode cD_say 28 = .ok (.aload_n 0, 1) := by decide +kernel
theorem dD_say_29 : decode cD_say 29 = .ok (.getfield 19, 3) := by decide +kernel
theorem dD_say_32 : decode cD_say 32 = .ok (.iconst 1, 1) := by decide +kernel
theorem dD_say_33 : decode cD_say 33 = .ok (.putfield 115, 3) := by decide +kernel
theorem dD_say_36 : decode cD_say 36 = .ok (.goto 35, 3) := by decide +kernel
theorem dD_say_39 : decode cD_say 39 = .ok (.aload_n 0, 1) := by decide +kernel
theorem dD_say_40 : decode cD_say 40 = .ok (.getfield 19, 3) := by decide +kernel
theorem dD_say_43 : decode cD_say 43 = .ok (.iconst 1, 1) := by decide +kernel
theorem dD_say_44 : decode cD_say 44 = .ok (.putfield 118, 3) := by decide +kernel
theorem dD_say_47 : decode cD_say 47 = .ok (.goto 24, 3) := by decide +kernel
theorem dD_say_50 : decode cD_say 50 = .ok (.aload_n 0, 1) := by decide +kernel
theorem dD_say_51 : decode cD_say 51 = .ok (.getfield 19, 3) := by decide +kernel
theorem dD_say_54 : decode cD_say 54 = .ok (.iconst 1, 1) := by decide +kernel
theorem dD_say_55 : decode cD_say 55 = .ok (.putfield 121, 3) := by decide +kernel
theorem dD_say_58 : decode cD_say 58 = .ok (.goto 13, 3) := by decide +kernel
theorem dD_say_61 : decode cD_say 61 = .ok (.new 79, 3) := by decide +kernel
theorem dD_say_64 : decode cD_say 64 = .ok (.dup, 1) := by decide +kernel
theorem dD_say_65 : decode cD_say 65 = .ok (.ldc 124, 2) := by decide +kernel
theorem dD_say_67 : decode cD_say 67 = .ok (.invokespecial 83, 3) := by decide +kernel
theorem dD_say_70 : decode cD_say 70 = .ok (.athrow, 1) := by decide +kernel
theorem dD_say_71 : decode cD_say 71 = .ok (.return_, 1) := by decide +kernel
theorem dD_unit_0 : decode cD_unit 0 = .ok (.iload_n 1, 1) := by decide +kernel
theorem dD_unit_1 : decode cD_unit 1 = .ok (.ifCond .lt 9, 3) := by decide +kernel
theorem dD_unit_4 : decode cD_unit 4 = .ok (.iload_n 1, 1) := by decide +kernel
theorem dD_unit_5 : decode cD_unit 5 = .ok (.bipush 10, 2) := by decide +kernel
theorem dD_unit_7 : decode cD_unit 7 = .ok (.if_icmp .lt 13, 3) := by decide +kernel
theorem dD_unit_10 : decode cD_unit 10 = .ok (.new 79, 3) := by decide +kernel
theorem dD_unit_13 : decode cD_unit 13 = .ok (.dup, 1) := by decide +kernel
theorem dD_unit_14 : decode cD_unit 14 = .ok (.ldc 126, 2) := by decide +kernel
theorem dD_unit_16 : decode cD_unit 16 = .ok (.invokespecial 83, 3) := by decide +kernel
theorem dD_unit_19 : decode cD_unit 19 = .ok (.athrow, 1) := by decide +kernel
theorem dD_unit_20 : decode cD_unit 20 = .ok (.iload_n 2, 1) := by decide +kernel
theorem dD_unit_21 : decode cD_unit 21 = .ok (.ifCond .eq 25, 3) := by decide +kernel
theorem dD_unit_24 : decode cD_unit 24 = .ok (.aload_n 0, 1) := by decide +kernel
theorem dD_unit_25 : decode cD_unit 25 = .ok (.getfield 19, 3) := by decide +kernel
theorem dD_unit_28 : decode cD_unit 28 = .ok (.aload_n 0, 1) := by decide +kernel
theorem dD_unit_29 : decode cD_unit 29 = .ok (.getfield 19, 3) := by decide +kernel
theorem dD_unit_32 : decode cD_unit 32 = .ok (.getfield 128, 3) := by decide +kernel
theorem dD_unit_35 : decode cD_unit 35 = .ok (.iload_n 1, 1) := by decide +kernel
theorem dD_unit_36 : decode cD_unit 36 = .ok (.iconst 1, 1) := by decide +kernel
theorem dD_unit_37 : decode cD_unit 37 = .ok (.invokestatic 105, 3) := by decide +kernel
theorem dD_unit_40 : decode cD_unit 40 = .ok (.putfield 128, 3) := by decide +kernel
theorem dD_unit_43 : decode cD_unit 43 = .ok (.goto 22, 3) := by decide +kernel
theorem dD_unit_46 : decode cD_unit 46 = .ok (.aload_n 0, 1) := by decide +kernel
theorem dD_unit_47 : decode cD_unit 47 = .ok (.getfield 19, 3) := by decide +kernel
theorem dD_unit_50 : decode cD_unit 50 = .ok (.aload_n 0, 1) := by decide +kernel
theorem dD_unit_51 : decode cD_unit 51 = .ok (.getfield 19, 3) := by decide +kernel
theorem dD_unit_54 : decode cD_unit 54 = .ok (.getfield 131, 3) := by decide +kernel
theorem dD_unit_57 : decode cD_unit 57 = .ok (.iload_n 1, 1) := by decide +kernel
theorem dD_unit_58 : decode cD_unit 58 = .ok (.iconst 1, 1) := by decide +kernel
theorem dD_unit_59 : decode cD_unit 59 = .ok (.invokestatic 105, 3) := by decide +kernel
theorem dD_unit_62 : decode cD_unit 62 = .ok (.putfield 131, 3) := by decide +kernel
theorem dD_unit_65 : decode cD_unit 65 = .ok (.return_, 1) := by decide +kernel
theorem dD_cycle_0 : decode cD_cycle 0 = .ok (.aload_n 0, 1) := by decide +kernel
theorem dD_cycle_1 : decode cD_cycle 1 = .ok (.getfield 134, 3) := by decide +kernel
theorem dD_cycle_4 : decode cD_cycle 4 = .ok (.ldc 137, 2) := by decide +kernel
theorem dD_cycle_6 : decode cD_cycle 6 = .ok (.if_icmp .lt 13, 3) := by decide +kernel
theorem dD_cycle_9 : decode cD_cycle 9 = .ok (.new 138, 3) := by decide +kernel
theorem dD_cycle_12 : decode cD_cycle 12 = .ok (.dup, 1) := by decide +kernel
theorem dD_cycle_13 : decode cD_cycle 13 = .ok (.ldc 140, 2) := by decide +kernel
theorem dD_cycle_15 : decode cD_cycle 15 = .ok (.invokespecial 142, 3) := by decide +kernel
theorem dD_cycle_18 : decode cD_cycle 18 = .ok (.athrow, 1) := by decide +kernel
theorem dD_cycle_19 : decode cD_cycle 19 = .ok (.aload_n 0, 1) := by decide +kernel
theorem dD_cycle_20 : decode cD_cycle 20 = .ok (.dup, 1) := by decide +kernel
theorem dD_cycle_21 : decode cD_cycle 21 = .ok (.getfield 134, 3) := by decide +kernel
theorem dD_cycle_24 : decode cD_cycle 24 = .ok (.iconst 1, 1) := by decide +kernel
theorem dD_cycle_25 : decode cD_cycle 25 = .ok (.iadd, 1) := by decide +kernel
theorem dD_cycle_26 : decode cD_cycle 26 = .ok (.putfield 134, 3) := by decide +kernel
theorem dD_cycle_29 : decode cD_cycle 29 = .ok (.aload_n 0, 1) := by decide +kernel
theorem dD_cycle_30 : decode cD_cycle 30 = .ok (.getfield 40, 3) := by decide +kernel
theorem dD_cycle_33 : decode cD_cycle 33 = .ok (.invokevirtual 143, 3) := by decide +kernel
theorem dD_cycle_36 : decode cD_cycle 36 = .ok (.aload_n 0, 1) := by decide +kernel
theorem dD_cycle_37 : decode cD_cycle 37 = .ok (.getfield 146, 3) := by decide +kernel
theorem dD_cycle_40 : decode cD_cycle 40 = .ok (.iconst 4, 1) := by decide +kernel
theorem dD_cycle_41 : decode cD_cycle 41 = .ok (.if_icmp .eq 7, 3) := by decide +kernel
theorem dD_cycle_44 : decode cD_cycle 44 = .ok (.aload_n 0, 1) := by decide +kernel
theorem dD_cycle_45 : decode cD_cycle 45 = .ok (.invokevirtual 149, 3) := by decide +kernel
theorem dD_cycle_48 : decode cD_cycle 48 = .ok (.aload_n 0, 1) := by decide +kernel
theorem dD_cycle_49 : decode cD_cycle 49 = .ok (.getfield 19, 3) := by decide +kernel
theorem dD_cycle_52 : decode cD_cycle 52 = .ok (.invokevirtual 152, 3) := by decide +kernel
theorem dD_cycle_55 : decode cD_cycle 55 = .ok (.aload_n 0, 1) := by decide +kernel
theorem dD_cycle_56 : decode cD_cycle 56 = .ok (.getfield 146, 3) := by decide +kernel
theorem dD_cycle_59 : decode cD_cycle 59 = .ok (.ireturn, 1) := by decide +kernel
theorem dD_told_0 : decode cD_told 0 = .ok (.iload_n 1, 1) := by decide +kernel
theorem dD_told_1 : decode cD_told 1 = .ok (.tableswitch 115 0 4 #[35, 53, 83, 91, 99], 35) := by decide +kernel
theorem dD_told_36 : decode cD_told 36 = .ok (.aload_n 0, 1) := by decide +kernel
theorem dD_told_37 : decode cD_told 37 = .ok (.getfield 40, 3) := by decide +kernel
theorem dD_told_40 : decode cD_told 40 = .ok (.getfield 153, 3) := by decide +kernel
theorem dD_told_43 : decode cD_told 43 = .ok (.aload_n 0, 1) := by decide +kernel
theorem dD_told_44 : decode cD_told 44 = .ok (.getfield 40, 3) := by decide +kernel
theorem dD_told_47 : decode cD_told 47 = .ok (.getfield 156, 3) := by decide +kernel
theorem dD_told_50 : decode cD_told 50 = .ok (.iconst 4, 1) := by decide +kernel
theorem dD_told_51 : decode cD_told 51 = .ok (.ishl, 1) := by decide +kernel
theorem dD_told_52 : decode cD_told 52 = .ok (.ior, 1) := by decide +kernel
theorem dD_told_53 : decode cD_told 53 = .ok (.ireturn, 1) := by decide +kernel
theorem dD_told_54 : decode cD_told 54 = .ok (.aload_n 0, 1) := by decide +kernel
theorem dD_told_55 : decode cD_told 55 = .ok (.getfield 40, 3) := by decide +kernel
theorem dD_told_58 : decode cD_told 58 = .ok (.getfield 159, 3) := by decide +kernel
theorem dD_told_61 : decode cD_told 61 = .ok (.ifCond .eq 7, 3) := by decide +kernel
theorem dD_told_64 : decode cD_told 64 = .ok (.iconst 1, 1) := by decide +kernel
theorem dD_told_65 : decode cD_told 65 = .ok (.goto 18, 3) := by decide +kernel
theorem dD_told_68 : decode cD_told 68 = .ok (.aload_n 0, 1) := by decide +kernel
theorem dD_told_69 : decode cD_told 69 = .ok (.getfield 40, 3) := by decide +kernel
theorem dD_told_72 : decode cD_told 72 = .ok (.getfield 162, 3) := by decide +kernel
theorem dD_told_75 : decode cD_told 75 = .ok (.ifCond .eq 7, 3) := by decide +kernel
theorem dD_told_78 : decode cD_told 78 = .ok (.iconst 2, 1) := by decide +kernel
theorem dD_told_79 : decode cD_told 79 = .ok (.goto 4, 3) := by decide +kernel
theorem dD_told_82 : decode cD_told 82 = .ok (.iconst 0, 1) := by decide +kernel
theorem dD_told_83 : decode cD_told 83 = .ok (.ireturn, 1) := by decide +kernel
theorem dD_told_84 : decode cD_told 84 = .ok (.aload_n 0, 1) := by decide +kernel
theorem dD_told_85 : decode cD_told 85 = .ok (.getfield 40, 3) := by decide +kernel
theorem dD_told_88 : decode cD_told 88 = .ok (.getfield 165, 3) := by decide +kernel
theorem dD_told_91 : decode cD_told 91 = .ok (.ireturn, 1) := by decide +kernel
theorem dD_told_92 : decode cD_told 92 = .ok (.aload_n 0, 1) := by decide +kernel
theorem dD_told_93 : decode cD_told 93 = .ok (.getfield 40, 3) := by decide +kernel
theorem dD_told_96 : decode cD_told 96 = .ok (.getfield 168, 3) := by decide +kernel
theorem dD_told_99 : decode cD_told 99 = .ok (.ireturn, 1) := by decide +kernel
theorem dD_told_100 : decode cD_told 100 = .ok (.aload_n 0, 1) := by decide +kernel
theorem dD_told_101 : decode cD_told 101 = .ok (.getfield 40, 3) := by decide +kernel
theorem dD_told_104 : decode cD_told 104 = .ok (.getfield 171, 3) := by decide +kernel
theorem dD_told_107 : decode cD_told 107 = .ok (.ifCond .eq 7, 3) := by decide +kernel
theorem dD_told_110 : decode cD_told 110 = .ok (.iconst 1, 1) := by decide +kernel
theorem dD_told_111 : decode cD_told 111 = .ok (.goto 4, 3) := by decide +kernel
theorem dD_told_114 : decode cD_told 114 = .ok (.iconst 0, 1) := by decide +kernel
theorem dD_told_115 : decode cD_told 115 = .ok (.ireturn, 1) := by decide +kernel
theorem dD_told_116 : decode cD_told 116 = .ok (.new 79, 3) := by decide +kernel
theorem dD_told_119 : decode cD_told 119 = .ok (.dup, 1) := by decide +kernel
theorem dD_told_120 : decode cD_told 120 = .ok (.ldc 174, 2) := by decide +kernel
theorem dD_told_122 : decode cD_told 122 = .ok (.invokespecial 83, 3) := by decide +kernel
theorem dD_told_125 : decode cD_told 125 = .ok (.athrow, 1) := by decide +kernel
theorem dD_state_0 : decode cD_state 0 = .ok (.iload_n 1, 1) := by decide +kernel
theorem dD_state_1 : decode cD_state 1 = .ok (.tableswitch 137 0 9 #[55, 63, 71, 79, 87, 95, 103, 111, 127, 132], 55) := by decide +kernel
theorem dD_state_56 : decode cD_state 56 = .ok (.aload_n 0, 1) := by decide +kernel
theorem dD_state_57 : decode cD_state 57 = .ok (.getfield 47, 3) := by decide +kernel
theorem dD_state_60 : decode cD_state 60 = .ok (.getfield 176, 3) := by decide +kernel
theorem dD_state_63 : decode cD_state 63 = .ok (.ireturn, 1) := by decide +kernel
theorem dD_state_64 : decode cD_state 64 = .ok (.aload_n 0, 1) := by decide +kernel
theorem dD_state_65 : decode cD_state 65 = .ok (.getfield 47, 3) := by decide +kernel
theorem dD_state_68 : decode cD_state 68 = .ok (.getfield 179, 3) := by decide +kernel
theorem dD_state_71 : decode cD_state 71 = .ok (.ireturn, 1) := by decide +kernel
theorem dD_state_72 : decode cD_state 72 = .ok (.aload_n 0, 1) := by decide +kernel
theorem dD_state_73 : decode cD_state 73 = .ok (.getfield 51, 3) := by decide +kernel
theorem dD_state_76 : decode cD_state 76 = .ok (.getfield 176, 3) := by decide +kernel
theorem dD_state_79 : decode cD_state 79 = .ok (.ireturn, 1) := by decide +kernel
theorem dD_state_80 : decode cD_state 80 = .ok (.aload_n 0, 1) := by decide +kernel
theorem dD_state_81 : decode cD_state 81 = .ok (.getfield 51, 3) := by decide +kernel
theorem dD_state_84 : decode cD_state 84 = .ok (.getfield 179, 3) := by decide +kernel
theorem dD_state_87 : decode cD_state 87 = .ok (.ireturn, 1) := by decide +kernel
theorem dD_state_88 : decode cD_state 88 = .ok (.aload_n 0, 1) := by decide +kernel
theorem dD_state_89 : decode cD_state 89 = .ok (.getfield 26, 3) := by decide +kernel
theorem dD_state_92 : decode cD_state 92 = .ok (.getfield 182, 3) := by decide +kernel
theorem dD_state_95 : decode cD_state 95 = .ok (.ireturn, 1) := by decide +kernel
theorem dD_state_96 : decode cD_state 96 = .ok (.aload_n 0, 1) := by decide +kernel
theorem dD_state_97 : decode cD_state 97 = .ok (.getfield 26, 3) := by decide +kernel
theorem dD_state_100 : decode cD_state 100 = .ok (.getfield 185, 3) := by decide +kernel
theorem dD_state_103 : decode cD_state 103 = .ok (.ireturn, 1) := by decide +kernel
theorem dD_state_104 : decode cD_state 104 = .ok (.aload_n 0, 1) := by decide +kernel
theorem dD_state_105 : decode cD_state 105 = .ok (.getfield 33, 3) := by decide +kernel
theorem dD_state_108 : decode cD_state 108 = .ok (.getfield 188, 3) := by decide +kernel
theorem dD_state_111 : decode cD_state 111 = .ok (.ireturn, 1) := by decide +kernel
theorem dD_state_112 : decode cD_state 112 = .ok (.aload_n 0, 1) := by decide +kernel
theorem dD_state_113 : decode cD_state 113 = .ok (.getfield 33, 3) := by decide +kernel
theorem dD_state_116 : decode cD_state 116 = .ok (.getfield 191, 3) := by decide +kernel
theorem dD_state_119 : decode cD_state 119 = .ok (.ifCond .eq 7, 3) := by decide +kernel
theorem dD_state_122 : decode cD_state 122 = .ok (.iconst 1, 1) := by decide +kernel
theorem dD_state_123 : decode cD_state 123 = .ok (.goto 4, 3) := by decide +kernel
theorem dD_state_126 : decode cD_state 126 = .ok (.iconst 0, 1) := by decide +kernel
theorem dD_state_127 : decode cD_state 127 = .ok (.ireturn, 1) := by decide +kernel
theorem dD_state_128 : decode cD_state 128 = .ok (.aload_n 0, 1) := by decide +kernel
theorem dD_state_129 : decode cD_state 129 = .ok (.getfield 146, 3) := by decide +kernel
theorem dD_state_132 : decode cD_state 132 = .ok (.ireturn, 1) := by decide +kernel
theorem dD_state_133 : decode cD_state 133 = .ok (.aload_n 0, 1) := by decide +kernel
theorem dD_state_134 : decode cD_state 134 = .ok (.getfield 134, 3) := by decide +kernel
theorem dD_state_137 : decode cD_state 137 = .ok (.ireturn, 1) := by decide +kernel
theorem dD_state_138 : decode cD_state 138 = .ok (.new 79, 3) := by decide +kernel
theorem dD_state_141 : decode cD_state 141 = .ok (.dup, 1) := by decide +kernel
theorem dD_state_142 : decode cD_state 142 = .ok (.ldc 194, 2) := by decide +kernel
theorem dD_state_144 : decode cD_state 144 = .ok (.invokespecial 83, 3) := by decide +kernel
theorem dD_state_147 : decode cD_state 147 = .ok (.athrow, 1) := by decide +kernel
theorem dD_limitsAreSound_0 : decode cD_limitsAreSound 0 = .ok (.iconst 0, 1) := by decide +kernel
theorem dD_limitsAreSound_1 : decode cD_limitsAreSound 1 = .ok (.iload_n 1, 1) := by decide +kernel
theorem dD_limitsAreSound_2 : decode cD_limitsAreSound 2 = .ok (.if_icmp .gt 35, 3) := by decide +kernel
theorem dD_limitsAreSound_5 : decode cD_limitsAreSound 5 = .ok (.iload_n 1, 1) := by decide +kernel
theorem dD_limitsAreSound_6 : decode cD_limitsAreSound 6 = .ok (.iload_n 2, 1) := by decide +kernel
theorem dD_limitsAreSound_7 : decode cD_limitsAreSound 7 = .ok (.if_icmp .ge 30, 3) := by decide +kernel
theorem dD_limitsAreSound_10 : decode cD_limitsAreSound 10 = .ok (.iload_n 2, 1) := by decide +kernel
theorem dD_limitsAreSound_11 : decode cD_limitsAreSound 11 = .ok (.iload_n 3, 1) := by decide +kernel
theorem dD_limitsAreSound_12 : decode cD_limitsAreSound 12 = .ok (.if_icmp .ge 25, 3) := by decide +kernel
theorem dD_limitsAreSound_15 : decode cD_limitsAreSound 15 = .ok (.iload_n 3, 1) := by decide +kernel
theorem dD_limitsAreSound_16 : decode cD_limitsAreSound 16 = .ok (.iload 4, 2) := by decide +kernel
theorem dD_limitsAreSound_18 : decode cD_limitsAreSound 18 = .ok (.if_icmp .ge 19, 3) := by decide +kernel
theorem dD_limitsAreSound_21 : decode cD_limitsAreSound 21 = .ok (.iload 4, 2) := by decide +kernel
theorem dD_limitsAreSound_23 : decode cD_limitsAreSound 23 = .ok (.iload_n 0, 1) := by decide +kernel
theorem dD_limitsAreSound_24 : decode cD_limitsAreSound 24 = .ok (.if_icmp .gt 13, 3) := by decide +kernel
theorem dD_limitsAreSound_27 : decode cD_limitsAreSound 27 = .ok (.iload_n 0, 1) := by decide +kernel
theorem dD_limitsAreSound_28 : decode cD_limitsAreSound 28 = .ok (.ldc 137, 2) := by decide +kernel
theorem dD_limitsAreSound_30 : decode cD_limitsAreSound 30 = .ok (.if_icmp .gt 7, 3) := by decide +kernel
theorem dD_limitsAreSound_33 : decode cD_limitsAreSound 33 = .ok (.iconst 1, 1) := by decide +kernel
theorem dD_limitsAreSound_34 : decode cD_limitsAreSound 34 = .ok (.goto 4, 3) := by decide +kernel
theorem dD_limitsAreSound_37 : decode cD_limitsAreSound 37 = .ok (.iconst 0, 1) := by decide +kernel
theorem dD_limitsAreSound_38 : decode cD_limitsAreSound 38 = .ok (.ireturn, 1) := by decide +kernel
theorem dD_ratesAreSound_0 : decode cD_ratesAreSound 0 = .ok (.iload_n 0, 1) := by decide +kernel
theorem dD_ratesAreSound_1 : decode cD_ratesAreSound 1 = .ok (.iconst 0, 1) := by decide +kernel
theorem dD_ratesAreSound_2 : decode cD_ratesAreSound 2 = .ok (.ldc 196, 2) := by decide +kernel
theorem dD_ratesAreSound_4 : decode cD_ratesAreSound 4 = .ok (.invokestatic 197, 3) := by decide +kernel
theorem dD_ratesAreSound_7 : decode cD_ratesAreSound 7 = .ok (.ifCond .eq 37, 3) := by decide +kernel
theorem dD_ratesAreSound_10 : decode cD_ratesAreSound 10 = .ok (.iload_n 1, 1) := by decide +kernel
theorem dD_ratesAreSound_11 : decode cD_ratesAreSound 11 = .ok (.iconst 0, 1) := by decide +kernel
theorem dD_ratesAreSound_12 : decode cD_ratesAreSound 12 = .ok (.ldc 196, 2) := by decide +kernel
theorem dD_ratesAreSound_14 : decode cD_ratesAreSound 14 = .ok (.invokestatic 197, 3) := by decide +kernel
theorem dD_ratesAreSound_17 : decode cD_ratesAreSound 17 = .ok (.ifCond .eq 27, 3) := by decide +kernel
theorem dD_ratesAreSound_20 : decode cD_ratesAreSound 20 = .ok (.iload_n 2, 1) := by decide +kernel
theorem dD_ratesAreSound_21 : decode cD_ratesAreSound 21 = .ok (.iconst 0, 1) := by decide +kernel
theorem dD_ratesAreSound_22 : decode cD_ratesAreSound 22 = .ok (.ldc 196, 2) := by decide +kernel
theorem dD_ratesAreSound_24 : decode cD_ratesAreSound 24 = .ok (.invokestatic 197, 3) := by decide +kernel
theorem dD_ratesAreSound_27 : decode cD_ratesAreSound 27 = .ok (.ifCond .eq 17, 3) := by decide +kernel
theorem dD_ratesAreSound_30 : decode cD_ratesAreSound 30 = .ok (.iload_n 3, 1) := by decide +kernel
theorem dD_ratesAreSound_31 : decode cD_ratesAreSound 31 = .ok (.iconst 1, 1) := by decide +kernel
theorem dD_ratesAreSound_32 : decode cD_ratesAreSound 32 = .ok (.ldc 196, 2) := by decide +kernel
theorem dD_ratesAreSound_34 : decode cD_ratesAreSound 34 = .ok (.invokestatic 197, 3) := by decide +kernel
theorem dD_ratesAreSound_37 : decode cD_ratesAreSound 37 = .ok (.ifCond .eq 7, 3) := by decide +kernel
theorem dD_ratesAreSound_40 : decode cD_ratesAreSound 40 = .ok (.iconst 1, 1) := by decide +kernel
theorem dD_ratesAreSound_41 : decode cD_ratesAreSound 41 = .ok (.goto 4, 3) := by decide +kernel
theorem dD_ratesAreSound_44 : decode cD_ratesAreSound 44 = .ok (.iconst 0, 1) := by decide +kernel
theorem dD_ratesAreSound_45 : decode cD_ratesAreSound 45 = .ok (.ireturn, 1) := by decide +kernel
theorem dD_startAnew_0 : decode cD_startAnew 0 = .ok (.aload_n 0, 1) := by decide +kernel
theorem dD_startAnew_1 : decode cD_startAnew 1 = .ok (.iconst 0, 1) := by decide +kernel
theorem dD_startAnew_2 : decode cD_startAnew 2 = .ok (.putfield 146, 3) := by decide +kernel
theorem dD_startAnew_5 : decode cD_startAnew 5 = .ok (.aload_n 0, 1) := by decide +kernel
theorem dD_startAnew_6 : decode cD_startAnew 6 = .ok (.iconst 0, 1) := by decide +kernel
theorem dD_startAnew_7 : decode cD_startAnew 7 = .ok (.putfield 134, 3) := by decide +kernel
theorem dD_startAnew_10 : decode cD_startAnew 10 = .ok (.aload_n 0, 1) := by decide +kernel
theorem dD_startAnew_11 : decode cD_startAnew 11 = .ok (.iconst 0, 1) := by decide +kernel
theorem dD_startAnew_12 : decode cD_startAnew 12 = .ok (.putfield 201, 3) := by decide +kernel
theorem dD_startAnew_15 : decode cD_startAnew 15 = .ok (.aload_n 0, 1) := by decide +kernel
theorem dD_startAnew_16 : decode cD_startAnew 16 = .ok (.iconst 0, 1) := by decide +kernel
theorem dD_startAnew_17 : decode cD_startAnew 17 = .ok (.putfield 204, 3) := by decide +kernel
theorem dD_startAnew_20 : decode cD_startAnew 20 = .ok (.aload_n 0, 1) := by decide +kernel
theorem dD_startAnew_21 : decode cD_startAnew 21 = .ok (.getfield 19, 3) := by decide +kernel
theorem dD_startAnew_24 : decode cD_startAnew 24 = .ok (.invokevirtual 152, 3) := by decide +kernel
theorem dD_startAnew_27 : decode cD_startAnew 27 = .ok (.aload_n 0, 1) := by decide +kernel
theorem dD_startAnew_28 : decode cD_startAnew 28 = .ok (.getfield 26, 3) := by decide +kernel
theorem dD_startAnew_31 : decode cD_startAnew 31 = .ok (.invokevirtual 207, 3) := by decide +kernel
theorem dD_startAnew_34 : decode cD_startAnew 34 = .ok (.aload_n 0, 1) := by decide +kernel
theorem dD_startAnew_35 : decode cD_startAnew 35 = .ok (.getfield 33, 3) := by decide +kernel
theorem dD_startAnew_38 : decode cD_startAnew 38 = .ok (.invokevirtual 208, 3) := by decide +kernel
theorem dD_startAnew_41 : decode cD_startAnew 41 = .ok (.aload_n 0, 1) := by decide +kernel
theorem dD_startAnew_42 : decode cD_startAnew 42 = .ok (.getfield 40, 3) := by decide +kernel
theorem dD_startAnew_45 : decode cD_startAnew 45 = .ok (.invokevirtual 143, 3) := by decide +kernel
theorem dD_startAnew_48 : decode cD_startAnew 48 = .ok (.aload_n 0, 1) := by decide +kernel
theorem dD_startAnew_49 : decode cD_startAnew 49 = .ok (.getfield 47, 3) := by decide +kernel
theorem dD_startAnew_52 : decode cD_startAnew 52 = .ok (.iconst 0, 1) := by decide +kernel
theorem dD_startAnew_53 : decode cD_startAnew 53 = .ok (.aload_n 0, 1) := by decide +kernel
theorem dD_startAnew_54 : decode cD_startAnew 54 = .ok (.getfield 12, 3) := by decide +kernel
theorem dD_startAnew_57 : decode cD_startAnew 57 = .ok (.getfield 209, 3) := by decide +kernel
theorem dD_startAnew_60 : decode cD_startAnew 60 = .ok (.invokevirtual 212, 3) := by decide +kernel
theorem dD_startAnew_63 : decode cD_startAnew 63 = .ok (.aload_n 0, 1) := by decide +kernel
theorem dD_startAnew_64 : decode cD_startAnew 64 = .ok (.getfield 51, 3) := by decide +kernel
theorem dD_startAnew_67 : decode cD_startAnew 67 = .ok (.iconst 0, 1) := by decide +kernel
theorem dD_startAnew_68 : decode cD_startAnew 68 = .ok (.aload_n 0, 1) := by decide +kernel
theorem dD_startAnew_69 : decode cD_startAnew 69 = .ok (.getfield 12, 3) := by decide +kernel
end
section
theorem dD_startAnew_72 : decode cD_startAnew 72 = .ok (.getfield 216, 3) := by decide +kernel
theorem dD_startAnew_75 : decode cD_startAnew 75 = .ok (.invokevirtual 212, 3) := by decide +kernel
theorem dD_startAnew_78 : decode cD_startAnew 78 = .ok (.return_, 1) := by decide +kernel
theorem dD_runSteps_0 : decode cD_runSteps 0 = .ok (.aload_n 0, 1) := by decide +kernel
theorem dD_runSteps_1 : decode cD_runSteps 1 = .ok (.getfield 26, 3) := by decide +kernel
theorem dD_runSteps_4 : decode cD_runSteps 4 = .ok (.getfield 182, 3) := by decide +kernel
theorem dD_runSteps_7 : decode cD_runSteps 7 = .ok (.istore_n 1, 1) := by decide +kernel
theorem dD_runSteps_8 : decode cD_runSteps 8 = .ok (.aload_n 0, 1) := by decide +kernel
theorem dD_runSteps_9 : decode cD_runSteps 9 = .ok (.invokevirtual 219, 3) := by decide +kernel
theorem dD_runSteps_12 : decode cD_runSteps 12 = .ok (.aload_n 0, 1) := by decide +kernel
theorem dD_runSteps_13 : decode cD_runSteps 13 = .ok (.getfield 201, 3) := by decide +kernel
theorem dD_runSteps_16 : decode cD_runSteps 16 = .ok (.iconst 3, 1) := by decide +kernel
theorem dD_runSteps_17 : decode cD_runSteps 17 = .ok (.if_icmp .ge 13, 3) := by decide +kernel
theorem dD_runSteps_20 : decode cD_runSteps 20 = .ok (.aload_n 0, 1) := by decide +kernel
theorem dD_runSteps_21 : decode cD_runSteps 21 = .ok (.getfield 19, 3) := by decide +kernel
theorem dD_runSteps_24 : decode cD_runSteps 24 = .ok (.invokevirtual 222, 3) := by decide +kernel
theorem dD_runSteps_27 : decode cD_runSteps 27 = .ok (.ifCond .ne 8, 3) := by decide +kernel
theorem dD_runSteps_30 : decode cD_runSteps 30 = .ok (.aload_n 0, 1) := by decide +kernel
theorem dD_runSteps_31 : decode cD_runSteps 31 = .ok (.iconst 4, 1) := by decide +kernel
theorem dD_runSteps_32 : decode cD_runSteps 32 = .ok (.putfield 146, 3) := by decide +kernel
theorem dD_runSteps_35 : decode cD_runSteps 35 = .ok (.aload_n 0, 1) := by decide +kernel
theorem dD_runSteps_36 : decode cD_runSteps 36 = .ok (.getfield 146, 3) := by decide +kernel
theorem dD_runSteps_39 : decode cD_runSteps 39 = .ok (.iconst 4, 1) := by decide +kernel
theorem dD_runSteps_40 : decode cD_runSteps 40 = .ok (.if_icmp .eq 7, 3) := by decide +kernel
theorem dD_runSteps_43 : decode cD_runSteps 43 = .ok (.aload_n 0, 1) := by decide +kernel
theorem dD_runSteps_44 : decode cD_runSteps 44 = .ok (.invokevirtual 226, 3) := by decide +kernel
theorem dD_runSteps_47 : decode cD_runSteps 47 = .ok (.aload_n 0, 1) := by decide +kernel
theorem dD_runSteps_48 : decode cD_runSteps 48 = .ok (.getfield 146, 3) := by decide +kernel
theorem dD_runSteps_51 : decode cD_runSteps 51 = .ok (.iconst 4, 1) := by decide +kernel
theorem dD_runSteps_52 : decode cD_runSteps 52 = .ok (.if_icmp .eq 7, 3) := by decide +kernel
theorem dD_runSteps_55 : decode cD_runSteps 55 = .ok (.aload_n 0, 1) := by decide +kernel
theorem dD_runSteps_56 : decode cD_runSteps 56 = .ok (.invokevirtual 229, 3) := by decide +kernel
theorem dD_runSteps_59 : decode cD_runSteps 59 = .ok (.aload_n 0, 1) := by decide +kernel
theorem dD_runSteps_60 : decode cD_runSteps 60 = .ok (.getfield 146, 3) := by decide +kernel
theorem dD_runSteps_63 : decode cD_runSteps 63 = .ok (.iconst 4, 1) := by decide +kernel
theorem dD_runSteps_64 : decode cD_runSteps 64 = .ok (.if_icmp .eq 38, 3) := by decide +kernel
theorem dD_runSteps_67 : decode cD_runSteps 67 = .ok (.aload_n 0, 1) := by decide +kernel
theorem dD_runSteps_68 : decode cD_runSteps 68 = .ok (.iload_n 1, 1) := by decide +kernel
theorem dD_runSteps_69 : decode cD_runSteps 69 = .ok (.invokevirtual 232, 3) := by decide +kernel
theorem dD_runSteps_72 : decode cD_runSteps 72 = .ok (.aload_n 0, 1) := by decide +kernel
theorem dD_runSteps_73 : decode cD_runSteps 73 = .ok (.invokevirtual 236, 3) := by decide +kernel
theorem dD_runSteps_76 : decode cD_runSteps 76 = .ok (.aload_n 0, 1) := by decide +kernel
theorem dD_runSteps_77 : decode cD_runSteps 77 = .ok (.invokevirtual 239, 3) := by decide +kernel
theorem dD_runSteps_80 : decode cD_runSteps 80 = .ok (.aload_n 0, 1) := by decide +kernel
theorem dD_runSteps_81 : decode cD_runSteps 81 = .ok (.aload_n 0, 1) := by decide +kernel
theorem dD_runSteps_82 : decode cD_runSteps 82 = .ok (.getfield 146, 3) := by decide +kernel
theorem dD_runSteps_85 : decode cD_runSteps 85 = .ok (.ifCond .ne 10, 3) := by decide +kernel
theorem dD_runSteps_88 : decode cD_runSteps 88 = .ok (.aload_n 0, 1) := by decide +kernel
theorem dD_runSteps_89 : decode cD_runSteps 89 = .ok (.invokevirtual 242, 3) := by decide +kernel
theorem dD_runSteps_92 : decode cD_runSteps 92 = .ok (.goto 7, 3) := by decide +kernel
theorem dD_runSteps_95 : decode cD_runSteps 95 = .ok (.aload_n 0, 1) := by decide +kernel
theorem dD_runSteps_96 : decode cD_runSteps 96 = .ok (.invokevirtual 246, 3) := by decide +kernel
theorem dD_runSteps_99 : decode cD_runSteps 99 = .ok (.putfield 146, 3) := by decide +kernel
theorem dD_runSteps_102 : decode cD_runSteps 102 = .ok (.aload_n 0, 1) := by decide +kernel
theorem dD_runSteps_103 : decode cD_runSteps 103 = .ok (.getfield 146, 3) := by decide +kernel
theorem dD_runSteps_106 : decode cD_runSteps 106 = .ok (.iconst 4, 1) := by decide +kernel
theorem dD_runSteps_107 : decode cD_runSteps 107 = .ok (.if_icmp .eq 21, 3) := by decide +kernel
theorem dD_runSteps_110 : decode cD_runSteps 110 = .ok (.aload_n 0, 1) := by decide +kernel
theorem dD_runSteps_111 : decode cD_runSteps 111 = .ok (.getfield 33, 3) := by decide +kernel
theorem dD_runSteps_114 : decode cD_runSteps 114 = .ok (.aload_n 0, 1) := by decide +kernel
theorem dD_runSteps_115 : decode cD_runSteps 115 = .ok (.getfield 19, 3) := by decide +kernel
theorem dD_runSteps_118 : decode cD_runSteps 118 = .ok (.getfield 112, 3) := by decide +kernel
theorem dD_runSteps_121 : decode cD_runSteps 121 = .ok (.invokevirtual 249, 3) := by decide +kernel
theorem dD_runSteps_124 : decode cD_runSteps 124 = .ok (.aload_n 0, 1) := by decide +kernel
theorem dD_runSteps_125 : decode cD_runSteps 125 = .ok (.invokevirtual 252, 3) := by decide +kernel
theorem dD_runSteps_128 : decode cD_runSteps 128 = .ok (.return_, 1) := by decide +kernel
theorem dD_noteWords_0 : decode cD_noteWords 0 = .ok (.aload_n 0, 1) := by decide +kernel
theorem dD_noteWords_1 : decode cD_noteWords 1 = .ok (.aload_n 0, 1) := by decide +kernel
theorem dD_noteWords_2 : decode cD_noteWords 2 = .ok (.getfield 19, 3) := by decide +kernel
theorem dD_noteWords_5 : decode cD_noteWords 5 = .ok (.getfield 121, 3) := by decide +kernel
theorem dD_noteWords_8 : decode cD_noteWords 8 = .ok (.ifCond .eq 12, 3) := by decide +kernel
theorem dD_noteWords_11 : decode cD_noteWords 11 = .ok (.aload_n 0, 1) := by decide +kernel
theorem dD_noteWords_12 : decode cD_noteWords 12 = .ok (.getfield 201, 3) := by decide +kernel
theorem dD_noteWords_15 : decode cD_noteWords 15 = .ok (.iconst 1, 1) := by decide +kernel
theorem dD_noteWords_16 : decode cD_noteWords 16 = .ok (.iadd, 1) := by decide +kernel
theorem dD_noteWords_17 : decode cD_noteWords 17 = .ok (.goto 4, 3) := by decide +kernel
theorem dD_noteWords_20 : decode cD_noteWords 20 = .ok (.iconst 0, 1) := by decide +kernel
theorem dD_noteWords_21 : decode cD_noteWords 21 = .ok (.putfield 201, 3) := by decide +kernel
theorem dD_noteWords_24 : decode cD_noteWords 24 = .ok (.aload_n 0, 1) := by decide +kernel
theorem dD_noteWords_25 : decode cD_noteWords 25 = .ok (.aload_n 0, 1) := by decide +kernel
theorem dD_noteWords_26 : decode cD_noteWords 26 = .ok (.getfield 204, 3) := by decide +kernel
theorem dD_noteWords_29 : decode cD_noteWords 29 = .ok (.ifCond .ne 13, 3) := by decide +kernel
theorem dD_noteWords_32 : decode cD_noteWords 32 = .ok (.aload_n 0, 1) := by decide +kernel
theorem dD_noteWords_33 : decode cD_noteWords 33 = .ok (.getfield 19, 3) := by decide +kernel
theorem dD_noteWords_36 : decode cD_noteWords 36 = .ok (.getfield 115, 3) := by decide +kernel
theorem dD_noteWords_39 : decode cD_noteWords 39 = .ok (.ifCond .eq 7, 3) := by decide +kernel
theorem dD_noteWords_42 : decode cD_noteWords 42 = .ok (.iconst 1, 1) := by decide +kernel
theorem dD_noteWords_43 : decode cD_noteWords 43 = .ok (.goto 4, 3) := by decide +kernel
theorem dD_noteWords_46 : decode cD_noteWords 46 = .ok (.iconst 0, 1) := by decide +kernel
theorem dD_noteWords_47 : decode cD_noteWords 47 = .ok (.putfield 204, 3) := by decide +kernel
theorem dD_noteWords_50 : decode cD_noteWords 50 = .ok (.return_, 1) := by decide +kernel
theorem dD_takeRepairs_0 : decode cD_takeRepairs 0 = .ok (.iconst 0, 1) := by decide +kernel
theorem dD_takeRepairs_1 : decode cD_takeRepairs 1 = .ok (.istore_n 1, 1) := by decide +kernel
theorem dD_takeRepairs_2 : decode cD_takeRepairs 2 = .ok (.iload_n 1, 1) := by decide +kernel
theorem dD_takeRepairs_3 : decode cD_takeRepairs 3 = .ok (.bipush 10, 2) := by decide +kernel
theorem dD_takeRepairs_5 : decode cD_takeRepairs 5 = .ok (.if_icmp .ge 79, 3) := by decide +kernel
theorem dD_takeRepairs_8 : decode cD_takeRepairs 8 = .ok (.aload_n 0, 1) := by decide +kernel
theorem dD_takeRepairs_9 : decode cD_takeRepairs 9 = .ok (.getfield 146, 3) := by decide +kernel
theorem dD_takeRepairs_12 : decode cD_takeRepairs 12 = .ok (.iconst 4, 1) := by decide +kernel
theorem dD_takeRepairs_13 : decode cD_takeRepairs 13 = .ok (.if_icmp .eq 71, 3) := by decide +kernel
theorem dD_takeRepairs_16 : decode cD_takeRepairs 16 = .ok (.aload_n 0, 1) := by decide +kernel
theorem dD_takeRepairs_17 : decode cD_takeRepairs 17 = .ok (.getfield 19, 3) := by decide +kernel
theorem dD_takeRepairs_20 : decode cD_takeRepairs 20 = .ok (.getfield 128, 3) := by decide +kernel
theorem dD_takeRepairs_23 : decode cD_takeRepairs 23 = .ok (.iload_n 1, 1) := by decide +kernel
theorem dD_takeRepairs_24 : decode cD_takeRepairs 24 = .ok (.invokestatic 255, 3) := by decide +kernel
theorem dD_takeRepairs_27 : decode cD_takeRepairs 27 = .ok (.ifCond .ne 6, 3) := by decide +kernel
theorem dD_takeRepairs_30 : decode cD_takeRepairs 30 = .ok (.goto 48, 3) := by decide +kernel
theorem dD_takeRepairs_33 : decode cD_takeRepairs 33 = .ok (.aload_n 0, 1) := by decide +kernel
theorem dD_takeRepairs_34 : decode cD_takeRepairs 34 = .ok (.getfield 26, 3) := by decide +kernel
theorem dD_takeRepairs_37 : decode cD_takeRepairs 37 = .ok (.iload_n 1, 1) := by decide +kernel
theorem dD_takeRepairs_38 : decode cD_takeRepairs 38 = .ok (.invokevirtual 259, 3) := by decide +kernel
theorem dD_takeRepairs_41 : decode cD_takeRepairs 41 = .ok (.ifCond .eq 33, 3) := by decide +kernel
theorem dD_takeRepairs_44 : decode cD_takeRepairs 44 = .ok (.aload_n 0, 1) := by decide +kernel
theorem dD_takeRepairs_45 : decode cD_takeRepairs 45 = .ok (.getfield 26, 3) := by decide +kernel
theorem dD_takeRepairs_48 : decode cD_takeRepairs 48 = .ok (.iload_n 1, 1) := by decide +kernel
theorem dD_takeRepairs_49 : decode cD_takeRepairs 49 = .ok (.invokevirtual 263, 3) := by decide +kernel
theorem dD_takeRepairs_52 : decode cD_takeRepairs 52 = .ok (.aload_n 0, 1) := by decide +kernel
theorem dD_takeRepairs_53 : decode cD_takeRepairs 53 = .ok (.getfield 40, 3) := by decide +kernel
theorem dD_takeRepairs_56 : decode cD_takeRepairs 56 = .ok (.aload_n 0, 1) := by decide +kernel
theorem dD_takeRepairs_57 : decode cD_takeRepairs 57 = .ok (.getfield 40, 3) := by decide +kernel
theorem dD_takeRepairs_60 : decode cD_takeRepairs 60 = .ok (.getfield 168, 3) := by decide +kernel
theorem dD_takeRepairs_63 : decode cD_takeRepairs 63 = .ok (.iload_n 1, 1) := by decide +kernel
theorem dD_takeRepairs_64 : decode cD_takeRepairs 64 = .ok (.iconst 1, 1) := by decide +kernel
theorem dD_takeRepairs_65 : decode cD_takeRepairs 65 = .ok (.invokestatic 105, 3) := by decide +kernel
theorem dD_takeRepairs_68 : decode cD_takeRepairs 68 = .ok (.putfield 168, 3) := by decide +kernel
theorem dD_takeRepairs_71 : decode cD_takeRepairs 71 = .ok (.goto 7, 3) := by decide +kernel
theorem dD_takeRepairs_74 : decode cD_takeRepairs 74 = .ok (.aload_n 0, 1) := by decide +kernel
theorem dD_takeRepairs_75 : decode cD_takeRepairs 75 = .ok (.invokevirtual 266, 3) := by decide +kernel
theorem dD_takeRepairs_78 : decode cD_takeRepairs 78 = .ok (.iinc 1 1, 3) := by decide +kernel
theorem dD_takeRepairs_81 : decode cD_takeRepairs 81 = .ok (.goto (-79), 3) := by decide +kernel
theorem dD_takeRepairs_84 : decode cD_takeRepairs 84 = .ok (.return_, 1) := by decide +kernel
theorem dD_takeAcknowledgements_0 : decode cD_takeAcknowledgements 0 = .ok (.iconst 0, 1) := by decide +kernel
theorem dD_takeAcknowledgements_1 : decode cD_takeAcknowledgements 1 = .ok (.istore_n 1, 1) := by decide +kernel
theorem dD_takeAcknowledgements_2 : decode cD_takeAcknowledgements 2 = .ok (.iload_n 1, 1) := by decide +kernel
theorem dD_takeAcknowledgements_3 : decode cD_takeAcknowledgements 3 = .ok (.bipush 10, 2) := by decide +kernel
theorem dD_takeAcknowledgements_5 : decode cD_takeAcknowledgements 5 = .ok (.if_icmp .ge 60, 3) := by decide +kernel
theorem dD_takeAcknowledgements_8 : decode cD_takeAcknowledgements 8 = .ok (.aload_n 0, 1) := by decide +kernel
theorem dD_takeAcknowledgements_9 : decode cD_takeAcknowledgements 9 = .ok (.getfield 146, 3) := by decide +kernel
theorem dD_takeAcknowledgements_12 : decode cD_takeAcknowledgements 12 = .ok (.iconst 4, 1) := by decide +kernel
theorem dD_takeAcknowledgements_13 : decode cD_takeAcknowledgements 13 = .ok (.if_icmp .eq 52, 3) := by decide +kernel
theorem dD_takeAcknowledgements_16 : decode cD_takeAcknowledgements 16 = .ok (.aload_n 0, 1) := by decide +kernel
theorem dD_takeAcknowledgements_17 : decode cD_takeAcknowledgements 17 = .ok (.getfield 19, 3) := by decide +kernel
theorem dD_takeAcknowledgements_20 : decode cD_takeAcknowledgements 20 = .ok (.getfield 131, 3) := by decide +kernel
theorem dD_takeAcknowledgements_23 : decode cD_takeAcknowledgements 23 = .ok (.iload_n 1, 1) := by decide +kernel
theorem dD_takeAcknowledgements_24 : decode cD_takeAcknowledgements 24 = .ok (.invokestatic 255, 3) := by decide +kernel
theorem dD_takeAcknowledgements_27 : decode cD_takeAcknowledgements 27 = .ok (.ifCond .ne 6, 3) := by decide +kernel
theorem dD_takeAcknowledgements_30 : decode cD_takeAcknowledgements 30 = .ok (.goto 29, 3) := by decide +kernel
theorem dD_takeAcknowledgements_33 : decode cD_takeAcknowledgements 33 = .ok (.aload_n 0, 1) := by decide +kernel
theorem dD_takeAcknowledgements_34 : decode cD_takeAcknowledgements 34 = .ok (.getfield 26, 3) := by decide +kernel
theorem dD_takeAcknowledgements_37 : decode cD_takeAcknowledgements 37 = .ok (.iload_n 1, 1) := by decide +kernel
theorem dD_takeAcknowledgements_38 : decode cD_takeAcknowledgements 38 = .ok (.invokevirtual 269, 3) := by decide +kernel
theorem dD_takeAcknowledgements_41 : decode cD_takeAcknowledgements 41 = .ok (.ifCond .eq 14, 3) := by decide +kernel
theorem dD_takeAcknowledgements_44 : decode cD_takeAcknowledgements 44 = .ok (.aload_n 0, 1) := by decide +kernel
theorem dD_takeAcknowledgements_45 : decode cD_takeAcknowledgements 45 = .ok (.getfield 26, 3) := by decide +kernel
theorem dD_takeAcknowledgements_48 : decode cD_takeAcknowledgements 48 = .ok (.iload_n 1, 1) := by decide +kernel
theorem dD_takeAcknowledgements_49 : decode cD_takeAcknowledgements 49 = .ok (.invokevirtual 272, 3) := by decide +kernel
theorem dD_takeAcknowledgements_52 : decode cD_takeAcknowledgements 52 = .ok (.goto 7, 3) := by decide +kernel
theorem dD_takeAcknowledgements_55 : decode cD_takeAcknowledgements 55 = .ok (.aload_n 0, 1) := by decide +kernel
theorem dD_takeAcknowledgements_56 : decode cD_takeAcknowledgements 56 = .ok (.invokevirtual 266, 3) := by decide +kernel
theorem dD_takeAcknowledgements_59 : decode cD_takeAcknowledgements 59 = .ok (.iinc 1 1, 3) := by decide +kernel
theorem dD_takeAcknowledgements_62 : decode cD_takeAcknowledgements 62 = .ok (.goto (-60), 3) := by decide +kernel
theorem dD_takeAcknowledgements_65 : decode cD_takeAcknowledgements 65 = .ok (.return_, 1) := by decide +kernel
theorem dD_stopUnlessInitial_0 : decode cD_stopUnlessInitial 0 = .ok (.aload_n 0, 1) := by decide +kernel
theorem dD_stopUnlessInitial_1 : decode cD_stopUnlessInitial 1 = .ok (.getfield 146, 3) := by decide +kernel
theorem dD_stopUnlessInitial_4 : decode cD_stopUnlessInitial 4 = .ok (.ifCond .eq 8, 3) := by decide +kernel
theorem dD_stopUnlessInitial_7 : decode cD_stopUnlessInitial 7 = .ok (.aload_n 0, 1) := by decide +kernel
theorem dD_stopUnlessInitial_8 : decode cD_stopUnlessInitial 8 = .ok (.iconst 4, 1) := by decide +kernel
theorem dD_stopUnlessInitial_9 : decode cD_stopUnlessInitial 9 = .ok (.putfield 146, 3) := by decide +kernel
theorem dD_stopUnlessInitial_12 : decode cD_stopUnlessInitial 12 = .ok (.return_, 1) := by decide +kernel
theorem dD_expectReadings_0 : decode cD_expectReadings 0 = .ok (.aload_n 0, 1) := by decide +kernel
theorem dD_expectReadings_1 : decode cD_expectReadings 1 = .ok (.getfield 146, 3) := by decide +kernel
theorem dD_expectReadings_4 : decode cD_expectReadings 4 = .ok (.ifCond .ne 34, 3) := by decide +kernel
theorem dD_expectReadings_7 : decode cD_expectReadings 7 = .ok (.aload_n 0, 1) := by decide +kernel
theorem dD_expectReadings_8 : decode cD_expectReadings 8 = .ok (.getfield 57, 3) := by decide +kernel
theorem dD_expectReadings_11 : decode cD_expectReadings 11 = .ok (.iconst 0, 1) := by decide +kernel
theorem dD_expectReadings_12 : decode cD_expectReadings 12 = .ok (.aload_n 0, 1) := by decide +kernel
theorem dD_expectReadings_13 : decode cD_expectReadings 13 = .ok (.getfield 12, 3) := by decide +kernel
theorem dD_expectReadings_16 : decode cD_expectReadings 16 = .ok (.getfield 216, 3) := by decide +kernel
theorem dD_expectReadings_19 : decode cD_expectReadings 19 = .ok (.invokevirtual 212, 3) := by decide +kernel
theorem dD_expectReadings_22 : decode cD_expectReadings 22 = .ok (.aload_n 0, 1) := by decide +kernel
theorem dD_expectReadings_23 : decode cD_expectReadings 23 = .ok (.getfield 54, 3) := by decide +kernel
theorem dD_expectReadings_26 : decode cD_expectReadings 26 = .ok (.iconst 0, 1) := by decide +kernel
theorem dD_expectReadings_27 : decode cD_expectReadings 27 = .ok (.aload_n 0, 1) := by decide +kernel
theorem dD_expectReadings_28 : decode cD_expectReadings 28 = .ok (.getfield 12, 3) := by decide +kernel
theorem dD_expectReadings_31 : decode cD_expectReadings 31 = .ok (.getfield 209, 3) := by decide +kernel
theorem dD_expectReadings_34 : decode cD_expectReadings 34 = .ok (.invokevirtual 212, 3) := by decide +kernel
theorem dD_expectReadings_37 : decode cD_expectReadings 37 = .ok (.return_, 1) := by decide +kernel
theorem dD_expectReadings_38 : decode cD_expectReadings 38 = .ok (.aload_n 0, 1) := by decide +kernel
theorem dD_expectReadings_39 : decode cD_expectReadings 39 = .ok (.getfield 57, 3) := by decide +kernel
theorem dD_expectReadings_42 : decode cD_expectReadings 42 = .ok (.aload_n 0, 1) := by decide +kernel
theorem dD_expectReadings_43 : decode cD_expectReadings 43 = .ok (.getfield 51, 3) := by decide +kernel
theorem dD_expectReadings_46 : decode cD_expectReadings 46 = .ok (.getfield 176, 3) := by decide +kernel
theorem dD_expectReadings_49 : decode cD_expectReadings 49 = .ok (.aload_n 0, 1) := by decide +kernel
theorem dD_expectReadings_50 : decode cD_expectReadings 50 = .ok (.getfield 12, 3) := by decide +kernel
theorem dD_expectReadings_53 : decode cD_expectReadings 53 = .ok (.getfield 275, 3) := by decide +kernel
theorem dD_expectReadings_56 : decode cD_expectReadings 56 = .ok (.isub, 1) := by decide +kernel
theorem dD_expectReadings_57 : decode cD_expectReadings 57 = .ok (.iconst 0, 1) := by decide +kernel
theorem dD_expectReadings_58 : decode cD_expectReadings 58 = .ok (.invokestatic 278, 3) := by decide +kernel
theorem dD_expectReadings_61 : decode cD_expectReadings 61 = .ok (.aload_n 0, 1) := by decide +kernel
theorem dD_expectReadings_62 : decode cD_expectReadings 62 = .ok (.getfield 51, 3) := by decide +kernel
theorem dD_expectReadings_65 : decode cD_expectReadings 65 = .ok (.getfield 179, 3) := by decide +kernel
theorem dD_expectReadings_68 : decode cD_expectReadings 68 = .ok (.aload_n 0, 1) := by decide +kernel
theorem dD_expectReadings_69 : decode cD_expectReadings 69 = .ok (.getfield 12, 3) := by decide +kernel
theorem dD_expectReadings_72 : decode cD_expectReadings 72 = .ok (.getfield 284, 3) := by decide +kernel
theorem dD_expectReadings_75 : decode cD_expectReadings 75 = .ok (.iadd, 1) := by decide +kernel
theorem dD_expectReadings_76 : decode cD_expectReadings 76 = .ok (.aload_n 0, 1) := by decide +kernel
theorem dD_expectReadings_77 : decode cD_expectReadings 77 = .ok (.getfield 12, 3) := by decide +kernel
theorem dD_expectReadings_80 : decode cD_expectReadings 80 = .ok (.getfield 216, 3) := by decide +kernel
theorem dD_expectReadings_83 : decode cD_expectReadings 83 = .ok (.invokestatic 287, 3) := by decide +kernel
theorem dD_expectReadings_86 : decode cD_expectReadings 86 = .ok (.invokevirtual 212, 3) := by decide +kernel
theorem dD_expectReadings_89 : decode cD_expectReadings 89 = .ok (.aload_n 0, 1) := by decide +kernel
theorem dD_expectReadings_90 : decode cD_expectReadings 90 = .ok (.getfield 51, 3) := by decide +kernel
theorem dD_expectReadings_93 : decode cD_expectReadings 93 = .ok (.getfield 179, 3) := by decide +kernel
theorem dD_expectReadings_96 : decode cD_expectReadings 96 = .ok (.aload_n 0, 1) := by decide +kernel
theorem dD_expectReadings_97 : decode cD_expectReadings 97 = .ok (.getfield 57, 3) := by decide +kernel
theorem dD_expectReadings_100 : decode cD_expectReadings 100 = .ok (.getfield 179, 3) := by decide +kernel
theorem dD_expectReadings_103 : decode cD_expectReadings 103 = .ok (.invokestatic 278, 3) := by decide +kernel
theorem dD_expectReadings_106 : decode cD_expectReadings 106 = .ok (.istore_n 2, 1) := by decide +kernel
theorem dD_expectReadings_107 : decode cD_expectReadings 107 = .ok (.aload_n 0, 1) := by decide +kernel
theorem dD_expectReadings_108 : decode cD_expectReadings 108 = .ok (.getfield 51, 3) := by decide +kernel
theorem dD_expectReadings_111 : decode cD_expectReadings 111 = .ok (.getfield 176, 3) := by decide +kernel
theorem dD_expectReadings_114 : decode cD_expectReadings 114 = .ok (.aload_n 0, 1) := by decide +kernel
theorem dD_expectReadings_115 : decode cD_expectReadings 115 = .ok (.getfield 57, 3) := by decide +kernel
theorem dD_expectReadings_118 : decode cD_expectReadings 118 = .ok (.getfield 176, 3) := by decide +kernel
theorem dD_expectReadings_121 : decode cD_expectReadings 121 = .ok (.invokestatic 287, 3) := by decide +kernel
theorem dD_expectReadings_124 : decode cD_expectReadings 124 = .ok (.istore_n 3, 1) := by decide +kernel
theorem dD_expectReadings_125 : decode cD_expectReadings 125 = .ok (.aload_n 0, 1) := by decide +kernel
theorem dD_expectReadings_126 : decode cD_expectReadings 126 = .ok (.getfield 33, 3) := by decide +kernel
theorem dD_expectReadings_129 : decode cD_expectReadings 129 = .ok (.iload_n 1, 1) := by decide +kernel
theorem dD_expectReadings_130 : decode cD_expectReadings 130 = .ok (.invokevirtual 290, 3) := by decide +kernel
theorem dD_expectReadings_133 : decode cD_expectReadings 133 = .ok (.istore 4, 2) := by decide +kernel
theorem dD_expectReadings_135 : decode cD_expectReadings 135 = .ok (.bipush 15, 2) := by decide +kernel
theorem dD_expectReadings_137 : decode cD_expectReadings 137 = .ok (.aload_n 0, 1) := by decide +kernel
theorem dD_expectReadings_138 : decode cD_expectReadings 138 = .ok (.getfield 33, 3) := by decide +kernel
theorem dD_expectReadings_141 : decode cD_expectReadings 141 = .ok (.iload_n 1, 1) := by decide +kernel
theorem dD_expectReadings_142 : decode cD_expectReadings 142 = .ok (.invokevirtual 294, 3) := by decide +kernel
theorem dD_expectReadings_145 : decode cD_expectReadings 145 = .ok (.iconst (-1), 1) := by decide +kernel
theorem dD_expectReadings_146 : decode cD_expectReadings 146 = .ok (.ixor, 1) := by decide +kernel
theorem dD_expectReadings_147 : decode cD_expectReadings 147 = .ok (.iand, 1) := by decide +kernel
theorem dD_expectReadings_148 : decode cD_expectReadings 148 = .ok (.istore 5, 2) := by decide +kernel
theorem dD_expectReadings_150 : decode cD_expectReadings 150 = .ok (.aload_n 0, 1) := by decide +kernel
theorem dD_expectReadings_151 : decode cD_expectReadings 151 = .ok (.getfield 54, 3) := by decide +kernel
theorem dD_expectReadings_154 : decode cD_expectReadings 154 = .ok (.aload_n 0, 1) := by decide +kernel
theorem dD_expectReadings_155 : decode cD_expectReadings 155 = .ok (.getfield 12, 3) := by decide +kernel
theorem dD_expectReadings_158 : decode cD_expectReadings 158 = .ok (.aload_n 0, 1) := by decide +kernel
theorem dD_expectReadings_159 : decode cD_expectReadings 159 = .ok (.getfield 47, 3) := by decide +kernel
theorem dD_expectReadings_162 : decode cD_expectReadings 162 = .ok (.getfield 176, 3) := by decide +kernel
theorem dD_expectReadings_165 : decode cD_expectReadings 165 = .ok (.iload_n 2, 1) := by decide +kernel
theorem dD_expectReadings_166 : decode cD_expectReadings 166 = .ok (.isub, 1) := by decide +kernel
theorem dD_expectReadings_167 : decode cD_expectReadings 167 = .ok (.aload_n 0, 1) := by decide +kernel
theorem dD_expectReadings_168 : decode cD_expectReadings 168 = .ok (.getfield 12, 3) := by decide +kernel
theorem dD_expectReadings_171 : decode cD_expectReadings 171 = .ok (.iload 4, 2) := by decide +kernel
theorem dD_expectReadings_173 : decode cD_expectReadings 173 = .ok (.invokevirtual 297, 3) := by decide +kernel
theorem dD_expectReadings_176 : decode cD_expectReadings 176 = .ok (.iadd, 1) := by decide +kernel
theorem dD_expectReadings_177 : decode cD_expectReadings 177 = .ok (.invokevirtual 300, 3) := by decide +kernel
theorem dD_expectReadings_180 : decode cD_expectReadings 180 = .ok (.aload_n 0, 1) := by decide +kernel
theorem dD_expectReadings_181 : decode cD_expectReadings 181 = .ok (.getfield 12, 3) := by decide +kernel
theorem dD_expectReadings_184 : decode cD_expectReadings 184 = .ok (.aload_n 0, 1) := by decide +kernel
theorem dD_expectReadings_185 : decode cD_expectReadings 185 = .ok (.getfield 47, 3) := by decide +kernel
theorem dD_expectReadings_188 : decode cD_expectReadings 188 = .ok (.getfield 179, 3) := by decide +kernel
theorem dD_expectReadings_191 : decode cD_expectReadings 191 = .ok (.iload_n 3, 1) := by decide +kernel
theorem dD_expectReadings_192 : decode cD_expectReadings 192 = .ok (.isub, 1) := by decide +kernel
theorem dD_expectReadings_193 : decode cD_expectReadings 193 = .ok (.aload_n 0, 1) := by decide +kernel
theorem dD_expectReadings_194 : decode cD_expectReadings 194 = .ok (.getfield 12, 3) := by decide +kernel
theorem dD_expectReadings_197 : decode cD_expectReadings 197 = .ok (.iload 5, 2) := by decide +kernel
theorem dD_expectReadings_199 : decode cD_expectReadings 199 = .ok (.invokevirtual 297, 3) := by decide +kernel
theorem dD_expectReadings_202 : decode cD_expectReadings 202 = .ok (.iadd, 1) := by decide +kernel
theorem dD_expectReadings_203 : decode cD_expectReadings 203 = .ok (.invokevirtual 300, 3) := by decide +kernel
theorem dD_expectReadings_206 : decode cD_expectReadings 206 = .ok (.invokevirtual 212, 3) := by decide +kernel
theorem dD_expectReadings_209 : decode cD_expectReadings 209 = .ok (.return_, 1) := by decide +kernel
theorem dD_detectFailures_0 : decode cD_detectFailures 0 = .ok (.aload_n 0, 1) := by decide +kernel
theorem dD_detectFailures_1 : decode cD_detectFailures 1 = .ok (.getfield 54, 3) := by decide +kernel
theorem dD_detectFailures_4 : decode cD_detectFailures 4 = .ok (.aload_n 0, 1) := by decide +kernel
theorem dD_detectFailures_5 : decode cD_detectFailures 5 = .ok (.getfield 19, 3) := by decide +kernel
theorem dD_detectFailures_8 : decode cD_detectFailures 8 = .ok (.getfield 90, 3) := by decide +kernel
theorem dD_detectFailures_11 : decode cD_detectFailures 11 = .ok (.invokevirtual 303, 3) := by decide +kernel
theorem dD_detectFailures_14 : decode cD_detectFailures 14 = .ok (.ifCond .ne 8, 3) := by decide +kernel
theorem dD_detectFailures_17 : decode cD_detectFailures 17 = .ok (.aload_n 0, 1) := by decide +kernel
theorem dD_detectFailures_18 : decode cD_detectFailures 18 = .ok (.iconst 0, 1) := by decide +kernel
theorem dD_detectFailures_19 : decode cD_detectFailures 19 = .ok (.invokevirtual 306, 3) := by decide +kernel
theorem dD_detectFailures_22 : decode cD_detectFailures 22 = .ok (.aload_n 0, 1) := by decide +kernel
theorem dD_detectFailures_23 : decode cD_detectFailures 23 = .ok (.getfield 57, 3) := by decide +kernel
theorem dD_detectFailures_26 : decode cD_detectFailures 26 = .ok (.aload_n 0, 1) := by decide +kernel
theorem dD_detectFailures_27 : decode cD_detectFailures 27 = .ok (.getfield 19, 3) := by decide +kernel
theorem dD_detectFailures_30 : decode cD_detectFailures 30 = .ok (.getfield 97, 3) := by decide +kernel
theorem dD_detectFailures_33 : decode cD_detectFailures 33 = .ok (.invokevirtual 303, 3) := by decide +kernel
theorem dD_detectFailures_36 : decode cD_detectFailures 36 = .ok (.ifCond .ne 8, 3) := by decide +kernel
theorem dD_detectFailures_39 : decode cD_detectFailures 39 = .ok (.aload_n 0, 1) := by decide +kernel
theorem dD_detectFailures_40 : decode cD_detectFailures 40 = .ok (.iconst 1, 1) := by decide +kernel
theorem dD_detectFailures_41 : decode cD_detectFailures 41 = .ok (.invokevirtual 306, 3) := by decide +kernel
theorem dD_detectFailures_44 : decode cD_detectFailures 44 = .ok (.iconst 0, 1) := by decide +kernel
theorem dD_detectFailures_45 : decode cD_detectFailures 45 = .ok (.istore_n 1, 1) := by decide +kernel
theorem dD_detectFailures_46 : decode cD_detectFailures 46 = .ok (.iload_n 1, 1) := by decide +kernel
theorem dD_detectFailures_47 : decode cD_detectFailures 47 = .ok (.iconst 4, 1) := by decide +kernel
theorem dD_detectFailures_48 : decode cD_detectFailures 48 = .ok (.if_icmp .ge 41, 3) := by decide +kernel
theorem dD_detectFailures_51 : decode cD_detectFailures 51 = .ok (.aload_n 0, 1) := by decide +kernel
theorem dD_detectFailures_52 : decode cD_detectFailures 52 = .ok (.getfield 19, 3) := by decide +kernel
theorem dD_detectFailures_55 : decode cD_detectFailures 55 = .ok (.getfield 109, 3) := by decide +kernel
theorem dD_detectFailures_58 : decode cD_detectFailures 58 = .ok (.iload_n 1, 1) := by decide +kernel
theorem dD_detectFailures_59 : decode cD_detectFailures 59 = .ok (.invokestatic 255, 3) := by decide +kernel
theorem dD_detectFailures_62 : decode cD_detectFailures 62 = .ok (.aload_n 0, 1) := by decide +kernel
theorem dD_detectFailures_63 : decode cD_detectFailures 63 = .ok (.getfield 33, 3) := by decide +kernel
theorem dD_detectFailures_66 : decode cD_detectFailures 66 = .ok (.getfield 188, 3) := by decide +kernel
theorem dD_detectFailures_69 : decode cD_detectFailures 69 = .ok (.iload_n 1, 1) := by decide +kernel
theorem dD_detectFailures_70 : decode cD_detectFailures 70 = .ok (.invokestatic 255, 3) := by decide +kernel
theorem dD_detectFailures_73 : decode cD_detectFailures 73 = .ok (.if_icmp .eq 10, 3) := by decide +kernel
theorem dD_detectFailures_76 : decode cD_detectFailures 76 = .ok (.aload_n 0, 1) := by decide +kernel
theorem dD_detectFailures_77 : decode cD_detectFailures 77 = .ok (.iconst 2, 1) := by decide +kernel
theorem dD_detectFailures_78 : decode cD_detectFailures 78 = .ok (.iload_n 1, 1) := by decide +kernel
theorem dD_detectFailures_79 : decode cD_detectFailures 79 = .ok (.iadd, 1) := by decide +kernel
theorem dD_detectFailures_80 : decode cD_detectFailures 80 = .ok (.invokevirtual 306, 3) := by decide +kernel
theorem dD_detectFailures_83 : decode cD_detectFailures 83 = .ok (.iinc 1 1, 3) := by decide +kernel
theorem dD_detectFailures_86 : decode cD_detectFailures 86 = .ok (.goto (-40), 3) := by decide +kernel
theorem dD_detectFailures_89 : decode cD_detectFailures 89 = .ok (.iconst 0, 1) := by decide +kernel
theorem dD_detectFailures_90 : decode cD_detectFailures 90 = .ok (.istore_n 1, 1) := by decide +kernel
theorem dD_detectFailures_91 : decode cD_detectFailures 91 = .ok (.iload_n 1, 1) := by decide +kernel
theorem dD_detectFailures_92 : decode cD_detectFailures 92 = .ok (.iconst 4, 1) := by decide +kernel
theorem dD_detectFailures_93 : decode cD_detectFailures 93 = .ok (.if_icmp .ge 38, 3) := by decide +kernel
theorem dD_detectFailures_96 : decode cD_detectFailures 96 = .ok (.aload_n 0, 1) := by decide +kernel
theorem dD_detectFailures_97 : decode cD_detectFailures 97 = .ok (.getfield 26, 3) := by decide +kernel
theorem dD_detectFailures_100 : decode cD_detectFailures 100 = .ok (.iconst 2, 1) := by decide +kernel
theorem dD_detectFailures_101 : decode cD_detectFailures 101 = .ok (.iload_n 1, 1) := by decide +kernel
theorem dD_detectFailures_102 : decode cD_detectFailures 102 = .ok (.iadd, 1) := by decide +kernel
theorem dD_detectFailures_103 : decode cD_detectFailures 103 = .ok (.invokevirtual 259, 3) := by decide +kernel
theorem dD_detectFailures_106 : decode cD_detectFailures 106 = .ok (.ifCond .ne 19, 3) := by decide +kernel
theorem dD_detectFailures_109 : decode cD_detectFailures 109 = .ok (.aload_n 0, 1) := by decide +kernel
theorem dD_detectFailures_110 : decode cD_detectFailures 110 = .ok (.iload_n 1, 1) := by decide +kernel
theorem dD_detectFailures_111 : decode cD_detectFailures 111 = .ok (.invokevirtual 309, 3) := by decide +kernel
theorem dD_detectFailures_114 : decode cD_detectFailures 114 = .ok (.ifCond .eq 11, 3) := by decide +kernel
theorem dD_detectFailures_117 : decode cD_detectFailures 117 = .ok (.aload_n 0, 1) := by decide +kernel
theorem dD_detectFailures_118 : decode cD_detectFailures 118 = .ok (.bipush 6, 2) := by decide +kernel
theorem dD_detectFailures_120 : decode cD_detectFailures 120 = .ok (.iload_n 1, 1) := by decide +kernel
theorem dD_detectFailures_121 : decode cD_detectFailures 121 = .ok (.iadd, 1) := by decide +kernel
theorem dD_detectFailures_122 : decode cD_detectFailures 122 = .ok (.invokevirtual 306, 3) := by decide +kernel
theorem dD_detectFailures_125 : decode cD_detectFailures 125 = .ok (.iinc 1 1, 3) := by decide +kernel
theorem dD_detectFailures_128 : decode cD_detectFailures 128 = .ok (.goto (-37), 3) := by decide +kernel
theorem dD_detectFailures_131 : decode cD_detectFailures 131 = .ok (.return_, 1) := by decide +kernel
theorem dD_isToldWrongly_0 : decode cD_isToldWrongly 0 = .ok (.aload_n 0, 1) := by decide +kernel
theorem dD_isToldWrongly_1 : decode cD_isToldWrongly 1 = .ok (.getfield 19, 3) := by decide +kernel
theorem dD_isToldWrongly_4 : decode cD_isToldWrongly 4 = .ok (.getfield 112, 3) := by decide +kernel
theorem dD_isToldWrongly_7 : decode cD_isToldWrongly 7 = .ok (.iload_n 1, 1) := by decide +kernel
theorem dD_isToldWrongly_8 : decode cD_isToldWrongly 8 = .ok (.invokestatic 255, 3) := by decide +kernel
theorem dD_isToldWrongly_11 : decode cD_isToldWrongly 11 = .ok (.ifCond .eq 25, 3) := by decide +kernel
theorem dD_isToldWrongly_14 : decode cD_isToldWrongly 14 = .ok (.aload_n 0, 1) := by decide +kernel
theorem dD_isToldWrongly_15 : decode cD_isToldWrongly 15 = .ok (.getfield 33, 3) := by decide +kernel
theorem dD_isToldWrongly_18 : decode cD_isToldWrongly 18 = .ok (.getfield 188, 3) := by decide +kernel
theorem dD_isToldWrongly_21 : decode cD_isToldWrongly 21 = .ok (.iload_n 1, 1) := by decide +kernel
theorem dD_isToldWrongly_22 : decode cD_isToldWrongly 22 = .ok (.invokestatic 255, 3) := by decide +kernel
theorem dD_isToldWrongly_25 : decode cD_isToldWrongly 25 = .ok (.ifCond .ne 7, 3) := by decide +kernel
theorem dD_isToldWrongly_28 : decode cD_isToldWrongly 28 = .ok (.iconst 1, 1) := by decide +kernel
theorem dD_isToldWrongly_29 : decode cD_isToldWrongly 29 = .ok (.goto 26, 3) := by decide +kernel
theorem dD_isToldWrongly_32 : decode cD_isToldWrongly 32 = .ok (.iconst 0, 1) := by decide +kernel
theorem dD_isToldWrongly_33 : decode cD_isToldWrongly 33 = .ok (.goto 22, 3) := by decide +kernel
theorem dD_isToldWrongly_36 : decode cD_isToldWrongly 36 = .ok (.aload_n 0, 1) := by decide +kernel
theorem dD_isToldWrongly_37 : decode cD_isToldWrongly 37 = .ok (.getfield 33, 3) := by decide +kernel
theorem dD_isToldWrongly_40 : decode cD_isToldWrongly 40 = .ok (.getfield 188, 3) := by decide +kernel
theorem dD_isToldWrongly_43 : decode cD_isToldWrongly 43 = .ok (.aload_n 0, 1) := by decide +kernel
theorem dD_isToldWrongly_44 : decode cD_isToldWrongly 44 = .ok (.getfield 33, 3) := by decide +kernel
theorem dD_isToldWrongly_47 : decode cD_isToldWrongly 47 = .ok (.getfield 312, 3) := by decide +kernel
theorem dD_isToldWrongly_50 : decode cD_isToldWrongly 50 = .ok (.iand, 1) := by decide +kernel
theorem dD_isToldWrongly_51 : decode cD_isToldWrongly 51 = .ok (.iload_n 1, 1) := by decide +kernel
theorem dD_isToldWrongly_52 : decode cD_isToldWrongly 52 = .ok (.invokestatic 255, 3) := by decide +kernel
theorem dD_isToldWrongly_55 : decode cD_isToldWrongly 55 = .ok (.ireturn, 1) := by decide +kernel
theorem dD_detect_0 : decode cD_detect 0 = .ok (.aload_n 0, 1) := by decide +kernel
theorem dD_detect_1 : decode cD_detect 1 = .ok (.getfield 26, 3) := by decide +kernel
theorem dD_detect_4 : decode cD_detect 4 = .ok (.iload_n 1, 1) := by decide +kernel
theorem dD_detect_5 : decode cD_detect 5 = .ok (.invokevirtual 259, 3) := by decide +kernel
theorem dD_detect_8 : decode cD_detect 8 = .ok (.ifCond .ne 30, 3) := by decide +kernel
theorem dD_detect_11 : decode cD_detect 11 = .ok (.aload_n 0, 1) := by decide +kernel
theorem dD_detect_12 : decode cD_detect 12 = .ok (.getfield 26, 3) := by decide +kernel
theorem dD_detect_15 : decode cD_detect 15 = .ok (.iload_n 1, 1) := by decide +kernel
theorem dD_detect_16 : decode cD_detect 16 = .ok (.invokevirtual 315, 3) := by decide +kernel
theorem dD_detect_19 : decode cD_detect 19 = .ok (.aload_n 0, 1) := by decide +kernel
theorem dD_detect_20 : decode cD_detect 20 = .ok (.getfield 40, 3) := by decide +kernel
theorem dD_detect_23 : decode cD_detect 23 = .ok (.aload_n 0, 1) := by decide +kernel
theorem dD_detect_24 : decode cD_detect 24 = .ok (.getfield 40, 3) := by decide +kernel
theorem dD_detect_27 : decode cD_detect 27 = .ok (.getfield 165, 3) := by decide +kernel
theorem dD_detect_30 : decode cD_detect 30 = .ok (.iload_n 1, 1) := by decide +kernel
theorem dD_detect_31 : decode cD_detect 31 = .ok (.iconst 1, 1) := by decide +kernel
theorem dD_detect_32 : decode cD_detect 32 = .ok (.invokestatic 105, 3) := by decide +kernel
theorem dD_detect_35 : decode cD_detect 35 = .ok (.putfield 165, 3) := by decide +kernel
theorem dD_detect_38 : decode cD_detect 38 = .ok (.return_, 1) := by decide +kernel
theorem dD_estimate_0 : decode cD_estimate 0 = .ok (.aload_n 0, 1) := by decide +kernel
theorem dD_estimate_1 : decode cD_estimate 1 = .ok (.getfield 26, 3) := by decide +kernel
theorem dD_estimate_4 : decode cD_estimate 4 = .ok (.iconst 0, 1) := by decide +kernel
theorem dD_estimate_5 : decode cD_estimate 5 = .ok (.invokevirtual 259, 3) := by decide +kernel
theorem dD_estimate_8 : decode cD_estimate 8 = .ok (.ifCond .eq 27, 3) := by decide +kernel
theorem dD_estimate_11 : decode cD_estimate 11 = .ok (.aload_n 0, 1) := by decide +kernel
theorem dD_estimate_12 : decode cD_estimate 12 = .ok (.getfield 47, 3) := by decide +kernel
theorem dD_estimate_15 : decode cD_estimate 15 = .ok (.aload_n 0, 1) := by decide +kernel
theorem dD_estimate_16 : decode cD_estimate 16 = .ok (.getfield 54, 3) := by decide +kernel
theorem dD_estimate_19 : decode cD_estimate 19 = .ok (.getfield 176, 3) := by decide +kernel
theorem dD_estimate_22 : decode cD_estimate 22 = .ok (.aload_n 0, 1) := by decide +kernel
theorem dD_estimate_23 : decode cD_estimate 23 = .ok (.getfield 54, 3) := by decide +kernel
theorem dD_estimate_26 : decode cD_estimate 26 = .ok (.getfield 179, 3) := by decide +kernel
theorem dD_estimate_29 : decode cD_estimate 29 = .ok (.invokevirtual 212, 3) := by decide +kernel
theorem dD_estimate_32 : decode cD_estimate 32 = .ok (.goto 24, 3) := by decide +kernel
theorem dD_estimate_35 : decode cD_estimate 35 = .ok (.aload_n 0, 1) := by decide +kernel
theorem dD_estimate_36 : decode cD_estimate 36 = .ok (.getfield 47, 3) := by decide +kernel
theorem dD_estimate_39 : decode cD_estimate 39 = .ok (.aload_n 0, 1) := by decide +kernel
theorem dD_estimate_40 : decode cD_estimate 40 = .ok (.getfield 19, 3) := by decide +kernel
theorem dD_estimate_43 : decode cD_estimate 43 = .ok (.getfield 90, 3) := by decide +kernel
theorem dD_estimate_46 : decode cD_estimate 46 = .ok (.aload_n 0, 1) := by decide +kernel
theorem dD_estimate_47 : decode cD_estimate 47 = .ok (.getfield 19, 3) := by decide +kernel
theorem dD_estimate_50 : decode cD_estimate 50 = .ok (.getfield 90, 3) := by decide +kernel
theorem dD_estimate_53 : decode cD_estimate 53 = .ok (.invokevirtual 212, 3) := by decide +kernel
theorem dD_estimate_56 : decode cD_estimate 56 = .ok (.aload_n 0, 1) := by decide +kernel
theorem dD_estimate_57 : decode cD_estimate 57 = .ok (.getfield 26, 3) := by decide +kernel
theorem dD_estimate_60 : decode cD_estimate 60 = .ok (.iconst 1, 1) := by decide +kernel
theorem dD_estimate_61 : decode cD_estimate 61 = .ok (.invokevirtual 259, 3) := by decide +kernel
theorem dD_estimate_64 : decode cD_estimate 64 = .ok (.ifCond .eq 27, 3) := by decide +kernel
theorem dD_estimate_67 : decode cD_estimate 67 = .ok (.aload_n 0, 1) := by decide +kernel
theorem dD_estimate_68 : decode cD_estimate 68 = .ok (.getfield 51, 3) := by decide +kernel
theorem dD_estimate_71 : decode cD_estimate 71 = .ok (.aload_n 0, 1) := by decide +kernel
theorem dD_estimate_72 : decode cD_estimate 72 = .ok (.getfield 57, 3) := by decide +kernel
theorem dD_estimate_75 : decode cD_estimate 75 = .ok (.getfield 176, 3) := by decide +kernel
theorem dD_estimate_78 : decode cD_estimate 78 = .ok (.aload_n 0, 1) := by decide +kernel
theorem dD_estimate_79 : decode cD_estimate 79 = .ok (.getfield 57, 3) := by decide +kernel
theorem dD_estimate_82 : decode cD_estimate 82 = .ok (.getfield 179, 3) := by decide +kernel
theorem dD_estimate_85 : decode cD_estimate 85 = .ok (.invokevirtual 212, 3) := by decide +kernel
end
section
theorem dD_estimate_88 : decode cD_estimate 88 = .ok (.goto 24, 3) := by decide +kernel
theorem dD_estimate_91 : decode cD_estimate 91 = .ok (.aload_n 0, 1) := by decide +kernel
theorem dD_estimate_92 : decode cD_estimate 92 = .ok (.getfield 51, 3) := by decide +kernel
theorem dD_estimate_95 : decode cD_estimate 95 = .ok (.aload_n 0, 1) := by decide +kernel
theorem dD_estimate_96 : decode cD_estimate 96 = .ok (.getfield 19, 3) := by decide +kernel
theorem dD_estimate_99 : decode cD_estimate 99 = .ok (.getfield 97, 3) := by decide +kernel
theorem dD_estimate_102 : decode cD_estimate 102 = .ok (.aload_n 0, 1) := by decide +kernel
theorem dD_estimate_103 : decode cD_estimate 103 = .ok (.getfield 19, 3) := by decide +kernel
theorem dD_estimate_106 : decode cD_estimate 106 = .ok (.getfield 97, 3) := by decide +kernel
theorem dD_estimate_109 : decode cD_estimate 109 = .ok (.invokevirtual 212, 3) := by decide +kernel
theorem dD_estimate_112 : decode cD_estimate 112 = .ok (.return_, 1) := by decide +kernel
theorem dD_modeBehindInitial_0 : decode cD_modeBehindInitial 0 = .ok (.aload_n 0, 1) := by decide +kernel
theorem dD_modeBehindInitial_1 : decode cD_modeBehindInitial 1 = .ok (.getfield 26, 3) := by decide +kernel
theorem dD_modeBehindInitial_4 : decode cD_modeBehindInitial 4 = .ok (.iconst 0, 1) := by decide +kernel
theorem dD_modeBehindInitial_5 : decode cD_modeBehindInitial 5 = .ok (.invokevirtual 259, 3) := by decide +kernel
theorem dD_modeBehindInitial_8 : decode cD_modeBehindInitial 8 = .ok (.ifCond .ne 14, 3) := by decide +kernel
theorem dD_modeBehindInitial_11 : decode cD_modeBehindInitial 11 = .ok (.aload_n 0, 1) := by decide +kernel
theorem dD_modeBehindInitial_12 : decode cD_modeBehindInitial 12 = .ok (.getfield 26, 3) := by decide +kernel
theorem dD_modeBehindInitial_15 : decode cD_modeBehindInitial 15 = .ok (.iconst 1, 1) := by decide +kernel
theorem dD_modeBehindInitial_16 : decode cD_modeBehindInitial 16 = .ok (.invokevirtual 259, 3) := by decide +kernel
theorem dD_modeBehindInitial_19 : decode cD_modeBehindInitial 19 = .ok (.ifCond .eq 5, 3) := by decide +kernel
theorem dD_modeBehindInitial_22 : decode cD_modeBehindInitial 22 = .ok (.iconst 4, 1) := by decide +kernel
theorem dD_modeBehindInitial_23 : decode cD_modeBehindInitial 23 = .ok (.ireturn, 1) := by decide +kernel
theorem dD_modeBehindInitial_24 : decode cD_modeBehindInitial 24 = .ok (.aload_n 0, 1) := by decide +kernel
theorem dD_modeBehindInitial_25 : decode cD_modeBehindInitial 25 = .ok (.getfield 204, 3) := by decide +kernel
theorem dD_modeBehindInitial_28 : decode cD_modeBehindInitial 28 = .ok (.ifCond .eq 15, 3) := by decide +kernel
theorem dD_modeBehindInitial_31 : decode cD_modeBehindInitial 31 = .ok (.aload_n 0, 1) := by decide +kernel
theorem dD_modeBehindInitial_32 : decode cD_modeBehindInitial 32 = .ok (.getfield 19, 3) := by decide +kernel
theorem dD_modeBehindInitial_35 : decode cD_modeBehindInitial 35 = .ok (.getfield 97, 3) := by decide +kernel
theorem dD_modeBehindInitial_38 : decode cD_modeBehindInitial 38 = .ok (.ifCond .eq 5, 3) := by decide +kernel
theorem dD_modeBehindInitial_41 : decode cD_modeBehindInitial 41 = .ok (.iconst 4, 1) := by decide +kernel
theorem dD_modeBehindInitial_42 : decode cD_modeBehindInitial 42 = .ok (.ireturn, 1) := by decide +kernel
theorem dD_modeBehindInitial_43 : decode cD_modeBehindInitial 43 = .ok (.aload_n 0, 1) := by decide +kernel
theorem dD_modeBehindInitial_44 : decode cD_modeBehindInitial 44 = .ok (.getfield 19, 3) := by decide +kernel
theorem dD_modeBehindInitial_47 : decode cD_modeBehindInitial 47 = .ok (.getfield 118, 3) := by decide +kernel
theorem dD_modeBehindInitial_50 : decode cD_modeBehindInitial 50 = .ok (.ifCond .ne 5, 3) := by decide +kernel
theorem dD_modeBehindInitial_53 : decode cD_modeBehindInitial 53 = .ok (.iconst 0, 1) := by decide +kernel
theorem dD_modeBehindInitial_54 : decode cD_modeBehindInitial 54 = .ok (.ireturn, 1) := by decide +kernel
theorem dD_modeBehindInitial_55 : decode cD_modeBehindInitial 55 = .ok (.aload_n 0, 1) := by decide +kernel
theorem dD_modeBehindInitial_56 : decode cD_modeBehindInitial 56 = .ok (.getfield 204, 3) := by decide +kernel
theorem dD_modeBehindInitial_59 : decode cD_modeBehindInitial 59 = .ok (.ifCond .eq 27, 3) := by decide +kernel
theorem dD_modeBehindInitial_62 : decode cD_modeBehindInitial 62 = .ok (.aload_n 0, 1) := by decide +kernel
theorem dD_modeBehindInitial_63 : decode cD_modeBehindInitial 63 = .ok (.getfield 12, 3) := by decide +kernel
theorem dD_modeBehindInitial_66 : decode cD_modeBehindInitial 66 = .ok (.aload_n 0, 1) := by decide +kernel
theorem dD_modeBehindInitial_67 : decode cD_modeBehindInitial 67 = .ok (.getfield 19, 3) := by decide +kernel
theorem dD_modeBehindInitial_70 : decode cD_modeBehindInitial 70 = .ok (.getfield 90, 3) := by decide +kernel
theorem dD_modeBehindInitial_73 : decode cD_modeBehindInitial 73 = .ok (.invokevirtual 318, 3) := by decide +kernel
theorem dD_modeBehindInitial_76 : decode cD_modeBehindInitial 76 = .ok (.ifCond .eq 10, 3) := by decide +kernel
theorem dD_modeBehindInitial_79 : decode cD_modeBehindInitial 79 = .ok (.aload_n 0, 1) := by decide +kernel
theorem dD_modeBehindInitial_80 : decode cD_modeBehindInitial 80 = .ok (.invokevirtual 321, 3) := by decide +kernel
theorem dD_modeBehindInitial_83 : decode cD_modeBehindInitial 83 = .ok (.goto 4, 3) := by decide +kernel
theorem dD_modeBehindInitial_86 : decode cD_modeBehindInitial 86 = .ok (.iconst 4, 1) := by decide +kernel
theorem dD_modeBehindInitial_87 : decode cD_modeBehindInitial 87 = .ok (.ireturn, 1) := by decide +kernel
theorem dD_modeInOperation_0 : decode cD_modeInOperation 0 = .ok (.aload_n 0, 1) := by decide +kernel
theorem dD_modeInOperation_1 : decode cD_modeInOperation 1 = .ok (.getfield 47, 3) := by decide +kernel
theorem dD_modeInOperation_4 : decode cD_modeInOperation 4 = .ok (.getfield 176, 3) := by decide +kernel
theorem dD_modeInOperation_7 : decode cD_modeInOperation 7 = .ok (.aload_n 0, 1) := by decide +kernel
theorem dD_modeInOperation_8 : decode cD_modeInOperation 8 = .ok (.getfield 12, 3) := by decide +kernel
theorem dD_modeInOperation_11 : decode cD_modeInOperation 11 = .ok (.getfield 324, 3) := by decide +kernel
theorem dD_modeInOperation_14 : decode cD_modeInOperation 14 = .ok (.if_icmp .le 20, 3) := by decide +kernel
theorem dD_modeInOperation_17 : decode cD_modeInOperation 17 = .ok (.aload_n 0, 1) := by decide +kernel
theorem dD_modeInOperation_18 : decode cD_modeInOperation 18 = .ok (.getfield 47, 3) := by decide +kernel
theorem dD_modeInOperation_21 : decode cD_modeInOperation 21 = .ok (.getfield 179, 3) := by decide +kernel
theorem dD_modeInOperation_24 : decode cD_modeInOperation 24 = .ok (.aload_n 0, 1) := by decide +kernel
theorem dD_modeInOperation_25 : decode cD_modeInOperation 25 = .ok (.getfield 12, 3) := by decide +kernel
theorem dD_modeInOperation_28 : decode cD_modeInOperation 28 = .ok (.getfield 327, 3) := by decide +kernel
theorem dD_modeInOperation_31 : decode cD_modeInOperation 31 = .ok (.if_icmp .lt 5, 3) := by decide +kernel
theorem dD_modeInOperation_34 : decode cD_modeInOperation 34 = .ok (.iconst 4, 1) := by decide +kernel
theorem dD_modeInOperation_35 : decode cD_modeInOperation 35 = .ok (.ireturn, 1) := by decide +kernel
theorem dD_modeInOperation_36 : decode cD_modeInOperation 36 = .ok (.aload_n 0, 1) := by decide +kernel
theorem dD_modeInOperation_37 : decode cD_modeInOperation 37 = .ok (.getfield 26, 3) := by decide +kernel
theorem dD_modeInOperation_40 : decode cD_modeInOperation 40 = .ok (.iconst 0, 1) := by decide +kernel
theorem dD_modeInOperation_41 : decode cD_modeInOperation 41 = .ok (.invokevirtual 259, 3) := by decide +kernel
theorem dD_modeInOperation_44 : decode cD_modeInOperation 44 = .ok (.ifCond .ne 8, 3) := by decide +kernel
theorem dD_modeInOperation_47 : decode cD_modeInOperation 47 = .ok (.aload_n 0, 1) := by decide +kernel
theorem dD_modeInOperation_48 : decode cD_modeInOperation 48 = .ok (.invokevirtual 321, 3) := by decide +kernel
theorem dD_modeInOperation_51 : decode cD_modeInOperation 51 = .ok (.ireturn, 1) := by decide +kernel
theorem dD_modeInOperation_52 : decode cD_modeInOperation 52 = .ok (.aload_n 0, 1) := by decide +kernel
theorem dD_modeInOperation_53 : decode cD_modeInOperation 53 = .ok (.getfield 26, 3) := by decide +kernel
theorem dD_modeInOperation_56 : decode cD_modeInOperation 56 = .ok (.iconst 1, 1) := by decide +kernel
theorem dD_modeInOperation_57 : decode cD_modeInOperation 57 = .ok (.invokevirtual 259, 3) := by decide +kernel
theorem dD_modeInOperation_60 : decode cD_modeInOperation 60 = .ok (.ifCond .ne 17, 3) := by decide +kernel
theorem dD_modeInOperation_63 : decode cD_modeInOperation 63 = .ok (.aload_n 0, 1) := by decide +kernel
theorem dD_modeInOperation_64 : decode cD_modeInOperation 64 = .ok (.getfield 26, 3) := by decide +kernel
theorem dD_modeInOperation_67 : decode cD_modeInOperation 67 = .ok (.getfield 182, 3) := by decide +kernel
theorem dD_modeInOperation_70 : decode cD_modeInOperation 70 = .ok (.sipush 960, 3) := by decide +kernel
theorem dD_modeInOperation_73 : decode cD_modeInOperation 73 = .ok (.iand, 1) := by decide +kernel
theorem dD_modeInOperation_74 : decode cD_modeInOperation 74 = .ok (.ifCond .eq 7, 3) := by decide +kernel
theorem dD_modeInOperation_77 : decode cD_modeInOperation 77 = .ok (.iconst 1, 1) := by decide +kernel
theorem dD_modeInOperation_78 : decode cD_modeInOperation 78 = .ok (.goto 4, 3) := by decide +kernel
theorem dD_modeInOperation_81 : decode cD_modeInOperation 81 = .ok (.iconst 0, 1) := by decide +kernel
theorem dD_modeInOperation_82 : decode cD_modeInOperation 82 = .ok (.istore_n 1, 1) := by decide +kernel
theorem dD_modeInOperation_83 : decode cD_modeInOperation 83 = .ok (.iload_n 1, 1) := by decide +kernel
theorem dD_modeInOperation_84 : decode cD_modeInOperation 84 = .ok (.ifCond .eq 7, 3) := by decide +kernel
theorem dD_modeInOperation_87 : decode cD_modeInOperation 87 = .ok (.iconst 4, 1) := by decide +kernel
theorem dD_modeInOperation_88 : decode cD_modeInOperation 88 = .ok (.goto 4, 3) := by decide +kernel
theorem dD_modeInOperation_91 : decode cD_modeInOperation 91 = .ok (.iconst 3, 1) := by decide +kernel
theorem dD_modeInOperation_92 : decode cD_modeInOperation 92 = .ok (.ireturn, 1) := by decide +kernel
theorem dD_modeByAnyFailure_0 : decode cD_modeByAnyFailure 0 = .ok (.aload_n 0, 1) := by decide +kernel
theorem dD_modeByAnyFailure_1 : decode cD_modeByAnyFailure 1 = .ok (.getfield 26, 3) := by decide +kernel
theorem dD_modeByAnyFailure_4 : decode cD_modeByAnyFailure 4 = .ok (.getfield 182, 3) := by decide +kernel
theorem dD_modeByAnyFailure_7 : decode cD_modeByAnyFailure 7 = .ok (.ifCond .ne 7, 3) := by decide +kernel
theorem dD_modeByAnyFailure_10 : decode cD_modeByAnyFailure 10 = .ok (.iconst 1, 1) := by decide +kernel
theorem dD_modeByAnyFailure_11 : decode cD_modeByAnyFailure 11 = .ok (.goto 4, 3) := by decide +kernel
theorem dD_modeByAnyFailure_14 : decode cD_modeByAnyFailure 14 = .ok (.iconst 2, 1) := by decide +kernel
theorem dD_modeByAnyFailure_15 : decode cD_modeByAnyFailure 15 = .ok (.ireturn, 1) := by decide +kernel
theorem dD_giveCommands_0 : decode cD_giveCommands 0 = .ok (.aload_n 0, 1) := by decide +kernel
theorem dD_giveCommands_1 : decode cD_giveCommands 1 = .ok (.getfield 146, 3) := by decide +kernel
theorem dD_giveCommands_4 : decode cD_giveCommands 4 = .ok (.ifCond .eq 10, 3) := by decide +kernel
theorem dD_giveCommands_7 : decode cD_giveCommands 7 = .ok (.aload_n 0, 1) := by decide +kernel
theorem dD_giveCommands_8 : decode cD_giveCommands 8 = .ok (.invokevirtual 330, 3) := by decide +kernel
theorem dD_giveCommands_11 : decode cD_giveCommands 11 = .ok (.goto 14, 3) := by decide +kernel
theorem dD_giveCommands_14 : decode cD_giveCommands 14 = .ok (.aload_n 0, 1) := by decide +kernel
theorem dD_giveCommands_15 : decode cD_giveCommands 15 = .ok (.getfield 204, 3) := by decide +kernel
theorem dD_giveCommands_18 : decode cD_giveCommands 18 = .ok (.ifCond .eq 7, 3) := by decide +kernel
theorem dD_giveCommands_21 : decode cD_giveCommands 21 = .ok (.aload_n 0, 1) := by decide +kernel
theorem dD_giveCommands_22 : decode cD_giveCommands 22 = .ok (.invokevirtual 333, 3) := by decide +kernel
theorem dD_giveCommands_25 : decode cD_giveCommands 25 = .ok (.return_, 1) := by decide +kernel
theorem dD_commandInInitial_0 : decode cD_commandInInitial 0 = .ok (.aload_n 0, 1) := by decide +kernel
theorem dD_commandInInitial_1 : decode cD_commandInInitial 1 = .ok (.aload_n 0, 1) := by decide +kernel
theorem dD_commandInInitial_2 : decode cD_commandInInitial 2 = .ok (.getfield 19, 3) := by decide +kernel
theorem dD_commandInInitial_5 : decode cD_commandInInitial 5 = .ok (.getfield 90, 3) := by decide +kernel
theorem dD_commandInInitial_8 : decode cD_commandInInitial 8 = .ok (.aload_n 0, 1) := by decide +kernel
theorem dD_commandInInitial_9 : decode cD_commandInInitial 9 = .ok (.getfield 12, 3) := by decide +kernel
theorem dD_commandInInitial_12 : decode cD_commandInInitial 12 = .ok (.getfield 336, 3) := by decide +kernel
theorem dD_commandInInitial_15 : decode cD_commandInInitial 15 = .ok (.if_icmp .le 7, 3) := by decide +kernel
theorem dD_commandInInitial_18 : decode cD_commandInInitial 18 = .ok (.iconst 1, 1) := by decide +kernel
theorem dD_commandInInitial_19 : decode cD_commandInInitial 19 = .ok (.goto 4, 3) := by decide +kernel
theorem dD_commandInInitial_22 : decode cD_commandInInitial 22 = .ok (.iconst 0, 1) := by decide +kernel
theorem dD_commandInInitial_23 : decode cD_commandInInitial 23 = .ok (.invokevirtual 339, 3) := by decide +kernel
theorem dD_commandInInitial_26 : decode cD_commandInInitial 26 = .ok (.aload_n 0, 1) := by decide +kernel
theorem dD_commandInInitial_27 : decode cD_commandInInitial 27 = .ok (.getfield 19, 3) := by decide +kernel
theorem dD_commandInInitial_30 : decode cD_commandInInitial 30 = .ok (.getfield 90, 3) := by decide +kernel
theorem dD_commandInInitial_33 : decode cD_commandInInitial 33 = .ok (.aload_n 0, 1) := by decide +kernel
theorem dD_commandInInitial_34 : decode cD_commandInInitial 34 = .ok (.getfield 12, 3) := by decide +kernel
theorem dD_commandInInitial_37 : decode cD_commandInInitial 37 = .ok (.getfield 343, 3) := by decide +kernel
theorem dD_commandInInitial_40 : decode cD_commandInInitial 40 = .ok (.if_icmp .ge 10, 3) := by decide +kernel
theorem dD_commandInInitial_43 : decode cD_commandInInitial 43 = .ok (.aload_n 0, 1) := by decide +kernel
theorem dD_commandInInitial_44 : decode cD_commandInInitial 44 = .ok (.invokevirtual 346, 3) := by decide +kernel
theorem dD_commandInInitial_47 : decode cD_commandInInitial 47 = .ok (.goto 8, 3) := by decide +kernel
theorem dD_commandInInitial_50 : decode cD_commandInInitial 50 = .ok (.aload_n 0, 1) := by decide +kernel
theorem dD_commandInInitial_51 : decode cD_commandInInitial 51 = .ok (.iconst 0, 1) := by decide +kernel
theorem dD_commandInInitial_52 : decode cD_commandInInitial 52 = .ok (.invokevirtual 349, 3) := by decide +kernel
theorem dD_commandInInitial_55 : decode cD_commandInInitial 55 = .ok (.aload_n 0, 1) := by decide +kernel
theorem dD_commandInInitial_56 : decode cD_commandInInitial 56 = .ok (.getfield 40, 3) := by decide +kernel
theorem dD_commandInInitial_59 : decode cD_commandInInitial 59 = .ok (.aload_n 0, 1) := by decide +kernel
theorem dD_commandInInitial_60 : decode cD_commandInInitial 60 = .ok (.getfield 12, 3) := by decide +kernel
theorem dD_commandInInitial_63 : decode cD_commandInInitial 63 = .ok (.aload_n 0, 1) := by decide +kernel
theorem dD_commandInInitial_64 : decode cD_commandInInitial 64 = .ok (.getfield 19, 3) := by decide +kernel
theorem dD_commandInInitial_67 : decode cD_commandInInitial 67 = .ok (.getfield 90, 3) := by decide +kernel
theorem dD_commandInInitial_70 : decode cD_commandInInitial 70 = .ok (.invokevirtual 318, 3) := by decide +kernel
theorem dD_commandInInitial_73 : decode cD_commandInInitial 73 = .ok (.putfield 171, 3) := by decide +kernel
theorem dD_commandInInitial_76 : decode cD_commandInInitial 76 = .ok (.return_, 1) := by decide +kernel
theorem dD_commandInOperation_0 : decode cD_commandInOperation 0 = .ok (.aload_n 0, 1) := by decide +kernel
theorem dD_commandInOperation_1 : decode cD_commandInOperation 1 = .ok (.iconst 0, 1) := by decide +kernel
theorem dD_commandInOperation_2 : decode cD_commandInOperation 2 = .ok (.invokevirtual 339, 3) := by decide +kernel
theorem dD_commandInOperation_5 : decode cD_commandInOperation 5 = .ok (.aload_n 0, 1) := by decide +kernel
theorem dD_commandInOperation_6 : decode cD_commandInOperation 6 = .ok (.getfield 12, 3) := by decide +kernel
theorem dD_commandInOperation_9 : decode cD_commandInOperation 9 = .ok (.getfield 343, 3) := by decide +kernel
theorem dD_commandInOperation_12 : decode cD_commandInOperation 12 = .ok (.aload_n 0, 1) := by decide +kernel
theorem dD_commandInOperation_13 : decode cD_commandInOperation 13 = .ok (.getfield 47, 3) := by decide +kernel
theorem dD_commandInOperation_16 : decode cD_commandInOperation 16 = .ok (.getfield 176, 3) := by decide +kernel
theorem dD_commandInOperation_19 : decode cD_commandInOperation 19 = .ok (.isub, 1) := by decide +kernel
theorem dD_commandInOperation_20 : decode cD_commandInOperation 20 = .ok (.istore_n 1, 1) := by decide +kernel
theorem dD_commandInOperation_21 : decode cD_commandInOperation 21 = .ok (.aload_n 0, 1) := by decide +kernel
theorem dD_commandInOperation_22 : decode cD_commandInOperation 22 = .ok (.getfield 47, 3) := by decide +kernel
theorem dD_commandInOperation_25 : decode cD_commandInOperation 25 = .ok (.getfield 179, 3) := by decide +kernel
theorem dD_commandInOperation_28 : decode cD_commandInOperation 28 = .ok (.aload_n 0, 1) := by decide +kernel
theorem dD_commandInOperation_29 : decode cD_commandInOperation 29 = .ok (.getfield 12, 3) := by decide +kernel
theorem dD_commandInOperation_32 : decode cD_commandInOperation 32 = .ok (.getfield 336, 3) := by decide +kernel
theorem dD_commandInOperation_35 : decode cD_commandInOperation 35 = .ok (.isub, 1) := by decide +kernel
theorem dD_commandInOperation_36 : decode cD_commandInOperation 36 = .ok (.istore_n 2, 1) := by decide +kernel
theorem dD_commandInOperation_37 : decode cD_commandInOperation 37 = .ok (.iload_n 1, 1) := by decide +kernel
theorem dD_commandInOperation_38 : decode cD_commandInOperation 38 = .ok (.ifCond .le 15, 3) := by decide +kernel
theorem dD_commandInOperation_41 : decode cD_commandInOperation 41 = .ok (.iload_n 1, 1) := by decide +kernel
theorem dD_commandInOperation_42 : decode cD_commandInOperation 42 = .ok (.iload_n 2, 1) := by decide +kernel
theorem dD_commandInOperation_43 : decode cD_commandInOperation 43 = .ok (.if_icmp .le 10, 3) := by decide +kernel
theorem dD_commandInOperation_46 : decode cD_commandInOperation 46 = .ok (.aload_n 0, 1) := by decide +kernel
theorem dD_commandInOperation_47 : decode cD_commandInOperation 47 = .ok (.invokevirtual 346, 3) := by decide +kernel
theorem dD_commandInOperation_50 : decode cD_commandInOperation 50 = .ok (.goto 12, 3) := by decide +kernel
theorem dD_commandInOperation_53 : decode cD_commandInOperation 53 = .ok (.iload_n 2, 1) := by decide +kernel
theorem dD_commandInOperation_54 : decode cD_commandInOperation 54 = .ok (.ifCond .le 8, 3) := by decide +kernel
theorem dD_commandInOperation_57 : decode cD_commandInOperation 57 = .ok (.aload_n 0, 1) := by decide +kernel
theorem dD_commandInOperation_58 : decode cD_commandInOperation 58 = .ok (.iconst 0, 1) := by decide +kernel
theorem dD_commandInOperation_59 : decode cD_commandInOperation 59 = .ok (.invokevirtual 349, 3) := by decide +kernel
theorem dD_commandInOperation_62 : decode cD_commandInOperation 62 = .ok (.return_, 1) := by decide +kernel
theorem dD_turnOnGoodPumps_0 : decode cD_turnOnGoodPumps 0 = .ok (.bipush 15, 2) := by decide +kernel
theorem dD_turnOnGoodPumps_2 : decode cD_turnOnGoodPumps 2 = .ok (.aload_n 0, 1) := by decide +kernel
theorem dD_turnOnGoodPumps_3 : decode cD_turnOnGoodPumps 3 = .ok (.getfield 26, 3) := by decide +kernel
theorem dD_turnOnGoodPumps_6 : decode cD_turnOnGoodPumps 6 = .ok (.getfield 182, 3) := by decide +kernel
theorem dD_turnOnGoodPumps_9 : decode cD_turnOnGoodPumps 9 = .ok (.iconst 2, 1) := by decide +kernel
theorem dD_turnOnGoodPumps_10 : decode cD_turnOnGoodPumps 10 = .ok (.ishr, 1) := by decide +kernel
theorem dD_turnOnGoodPumps_11 : decode cD_turnOnGoodPumps 11 = .ok (.iconst (-1), 1) := by decide +kernel
theorem dD_turnOnGoodPumps_12 : decode cD_turnOnGoodPumps 12 = .ok (.ixor, 1) := by decide +kernel
theorem dD_turnOnGoodPumps_13 : decode cD_turnOnGoodPumps 13 = .ok (.iand, 1) := by decide +kernel
theorem dD_turnOnGoodPumps_14 : decode cD_turnOnGoodPumps 14 = .ok (.istore_n 1, 1) := by decide +kernel
theorem dD_turnOnGoodPumps_15 : decode cD_turnOnGoodPumps 15 = .ok (.aload_n 0, 1) := by decide +kernel
theorem dD_turnOnGoodPumps_16 : decode cD_turnOnGoodPumps 16 = .ok (.aload_n 0, 1) := by decide +kernel
theorem dD_turnOnGoodPumps_17 : decode cD_turnOnGoodPumps 17 = .ok (.getfield 33, 3) := by decide +kernel
theorem dD_turnOnGoodPumps_20 : decode cD_turnOnGoodPumps 20 = .ok (.getfield 188, 3) := by decide +kernel
theorem dD_turnOnGoodPumps_23 : decode cD_turnOnGoodPumps 23 = .ok (.iload_n 1, 1) := by decide +kernel
theorem dD_turnOnGoodPumps_24 : decode cD_turnOnGoodPumps 24 = .ok (.ior, 1) := by decide +kernel
theorem dD_turnOnGoodPumps_25 : decode cD_turnOnGoodPumps 25 = .ok (.invokevirtual 349, 3) := by decide +kernel
theorem dD_turnOnGoodPumps_28 : decode cD_turnOnGoodPumps 28 = .ok (.return_, 1) := by decide +kernel
theorem dD_commandPumps_0 : decode cD_commandPumps 0 = .ok (.aload_n 0, 1) := by decide +kernel
theorem dD_commandPumps_1 : decode cD_commandPumps 1 = .ok (.getfield 40, 3) := by decide +kernel
theorem dD_commandPumps_4 : decode cD_commandPumps 4 = .ok (.iload_n 1, 1) := by decide +kernel
theorem dD_commandPumps_5 : decode cD_commandPumps 5 = .ok (.aload_n 0, 1) := by decide +kernel
theorem dD_commandPumps_6 : decode cD_commandPumps 6 = .ok (.getfield 33, 3) := by decide +kernel
theorem dD_commandPumps_9 : decode cD_commandPumps 9 = .ok (.getfield 188, 3) := by decide +kernel
theorem dD_commandPumps_12 : decode cD_commandPumps 12 = .ok (.iconst (-1), 1) := by decide +kernel
theorem dD_commandPumps_13 : decode cD_commandPumps 13 = .ok (.ixor, 1) := by decide +kernel
theorem dD_commandPumps_14 : decode cD_commandPumps 14 = .ok (.iand, 1) := by decide +kernel
theorem dD_commandPumps_15 : decode cD_commandPumps 15 = .ok (.putfield 153, 3) := by decide +kernel
theorem dD_commandPumps_18 : decode cD_commandPumps 18 = .ok (.aload_n 0, 1) := by decide +kernel
theorem dD_commandPumps_19 : decode cD_commandPumps 19 = .ok (.getfield 40, 3) := by decide +kernel
theorem dD_commandPumps_22 : decode cD_commandPumps 22 = .ok (.aload_n 0, 1) := by decide +kernel
theorem dD_commandPumps_23 : decode cD_commandPumps 23 = .ok (.getfield 33, 3) := by decide +kernel
theorem dD_commandPumps_26 : decode cD_commandPumps 26 = .ok (.getfield 188, 3) := by decide +kernel
theorem dD_commandPumps_29 : decode cD_commandPumps 29 = .ok (.iload_n 1, 1) := by decide +kernel
theorem dD_commandPumps_30 : decode cD_commandPumps 30 = .ok (.iconst (-1), 1) := by decide +kernel
theorem dD_commandPumps_31 : decode cD_commandPumps 31 = .ok (.ixor, 1) := by decide +kernel
theorem dD_commandPumps_32 : decode cD_commandPumps 32 = .ok (.iand, 1) := by decide +kernel
theorem dD_commandPumps_33 : decode cD_commandPumps 33 = .ok (.putfield 156, 3) := by decide +kernel
theorem dD_commandPumps_36 : decode cD_commandPumps 36 = .ok (.aload_n 0, 1) := by decide +kernel
theorem dD_commandPumps_37 : decode cD_commandPumps 37 = .ok (.getfield 33, 3) := by decide +kernel
theorem dD_commandPumps_40 : decode cD_commandPumps 40 = .ok (.iload_n 1, 1) := by decide +kernel
theorem dD_commandPumps_41 : decode cD_commandPumps 41 = .ok (.putfield 188, 3) := by decide +kernel
theorem dD_commandPumps_44 : decode cD_commandPumps 44 = .ok (.return_, 1) := by decide +kernel
theorem dD_commandValve_0 : decode cD_commandValve 0 = .ok (.aload_n 0, 1) := by decide +kernel
theorem dD_commandValve_1 : decode cD_commandValve 1 = .ok (.getfield 40, 3) := by decide +kernel
theorem dD_commandValve_4 : decode cD_commandValve 4 = .ok (.iload_n 1, 1) := by decide +kernel
theorem dD_commandValve_5 : decode cD_commandValve 5 = .ok (.ifCond .eq 17, 3) := by decide +kernel
theorem dD_commandValve_8 : decode cD_commandValve 8 = .ok (.aload_n 0, 1) := by decide +kernel
theorem dD_commandValve_9 : decode cD_commandValve 9 = .ok (.getfield 33, 3) := by decide +kernel
theorem dD_commandValve_12 : decode cD_commandValve 12 = .ok (.getfield 191, 3) := by decide +kernel
theorem dD_commandValve_15 : decode cD_commandValve 15 = .ok (.ifCond .ne 7, 3) := by decide +kernel
theorem dD_commandValve_18 : decode cD_commandValve 18 = .ok (.iconst 1, 1) := by decide +kernel
theorem dD_commandValve_19 : decode cD_commandValve 19 = .ok (.goto 4, 3) := by decide +kernel
theorem dD_commandValve_22 : decode cD_commandValve 22 = .ok (.iconst 0, 1) := by decide +kernel
theorem dD_commandValve_23 : decode cD_commandValve 23 = .ok (.putfield 159, 3) := by decide +kernel
theorem dD_commandValve_26 : decode cD_commandValve 26 = .ok (.aload_n 0, 1) := by decide +kernel
theorem dD_commandValve_27 : decode cD_commandValve 27 = .ok (.getfield 40, 3) := by decide +kernel
theorem dD_commandValve_30 : decode cD_commandValve 30 = .ok (.aload_n 0, 1) := by decide +kernel
theorem dD_commandValve_31 : decode cD_commandValve 31 = .ok (.getfield 33, 3) := by decide +kernel
theorem dD_commandValve_34 : decode cD_commandValve 34 = .ok (.getfield 191, 3) := by decide +kernel
theorem dD_commandValve_37 : decode cD_commandValve 37 = .ok (.ifCond .eq 11, 3) := by decide +kernel
theorem dD_commandValve_40 : decode cD_commandValve 40 = .ok (.iload_n 1, 1) := by decide +kernel
theorem dD_commandValve_41 : decode cD_commandValve 41 = .ok (.ifCond .ne 7, 3) := by decide +kernel
theorem dD_commandValve_44 : decode cD_commandValve 44 = .ok (.iconst 1, 1) := by decide +kernel
theorem dD_commandValve_45 : decode cD_commandValve 45 = .ok (.goto 4, 3) := by decide +kernel
theorem dD_commandValve_48 : decode cD_commandValve 48 = .ok (.iconst 0, 1) := by decide +kernel
theorem dD_commandValve_49 : decode cD_commandValve 49 = .ok (.putfield 162, 3) := by decide +kernel
theorem dD_commandValve_52 : decode cD_commandValve 52 = .ok (.aload_n 0, 1) := by decide +kernel
theorem dD_commandValve_53 : decode cD_commandValve 53 = .ok (.getfield 33, 3) := by decide +kernel
theorem dD_commandValve_56 : decode cD_commandValve 56 = .ok (.iload_n 1, 1) := by decide +kernel
theorem dD_commandValve_57 : decode cD_commandValve 57 = .ok (.putfield 191, 3) := by decide +kernel
theorem dD_commandValve_60 : decode cD_commandValve 60 = .ok (.return_, 1) := by decide +kernel
theorem dD_isWithin_0 : decode cD_isWithin 0 = .ok (.iload_n 1, 1) := by decide +kernel
theorem dD_isWithin_1 : decode cD_isWithin 1 = .ok (.iload_n 0, 1) := by decide +kernel
theorem dD_isWithin_2 : decode cD_isWithin 2 = .ok (.if_icmp .gt 12, 3) := by decide +kernel
theorem dD_isWithin_5 : decode cD_isWithin 5 = .ok (.iload_n 0, 1) := by decide +kernel
theorem dD_isWithin_6 : decode cD_isWithin 6 = .ok (.iload_n 2, 1) := by decide +kernel
theorem dD_isWithin_7 : decode cD_isWithin 7 = .ok (.if_icmp .gt 7, 3) := by decide +kernel
theorem dD_isWithin_10 : decode cD_isWithin 10 = .ok (.iconst 1, 1) := by decide +kernel
theorem dD_isWithin_11 : decode cD_isWithin 11 = .ok (.goto 4, 3) := by decide +kernel
theorem dD_isWithin_14 : decode cD_isWithin 14 = .ok (.iconst 0, 1) := by decide +kernel
theorem dD_isWithin_15 : decode cD_isWithin 15 = .ok (.ireturn, 1) := by decide +kernel
theorem dD_hasBit_0 : decode cD_hasBit 0 = .ok (.iload_n 0, 1) := by decide +kernel
theorem dD_hasBit_1 : decode cD_hasBit 1 = .ok (.iload_n 1, 1) := by decide +kernel
theorem dD_hasBit_2 : decode cD_hasBit 2 = .ok (.ishr, 1) := by decide +kernel
theorem dD_hasBit_3 : decode cD_hasBit 3 = .ok (.iconst 1, 1) := by decide +kernel
theorem dD_hasBit_4 : decode cD_hasBit 4 = .ok (.iand, 1) := by decide +kernel
theorem dD_hasBit_5 : decode cD_hasBit 5 = .ok (.ifCond .eq 7, 3) := by decide +kernel
theorem dD_hasBit_8 : decode cD_hasBit 8 = .ok (.iconst 1, 1) := by decide +kernel
theorem dD_hasBit_9 : decode cD_hasBit 9 = .ok (.goto 4, 3) := by decide +kernel
theorem dD_hasBit_12 : decode cD_hasBit 12 = .ok (.iconst 0, 1) := by decide +kernel
theorem dD_hasBit_13 : decode cD_hasBit 13 = .ok (.ireturn, 1) := by decide +kernel
theorem dD_withBit_0 : decode cD_withBit 0 = .ok (.iload_n 2, 1) := by decide +kernel
theorem dD_withBit_1 : decode cD_withBit 1 = .ok (.ifCond .eq 11, 3) := by decide +kernel
theorem dD_withBit_4 : decode cD_withBit 4 = .ok (.iload_n 0, 1) := by decide +kernel
theorem dD_withBit_5 : decode cD_withBit 5 = .ok (.iconst 1, 1) := by decide +kernel
theorem dD_withBit_6 : decode cD_withBit 6 = .ok (.iload_n 1, 1) := by decide +kernel
theorem dD_withBit_7 : decode cD_withBit 7 = .ok (.ishl, 1) := by decide +kernel
theorem dD_withBit_8 : decode cD_withBit 8 = .ok (.ior, 1) := by decide +kernel
theorem dD_withBit_9 : decode cD_withBit 9 = .ok (.goto 10, 3) := by decide +kernel
theorem dD_withBit_12 : decode cD_withBit 12 = .ok (.iload_n 0, 1) := by decide +kernel
theorem dD_withBit_13 : decode cD_withBit 13 = .ok (.iconst 1, 1) := by decide +kernel
theorem dD_withBit_14 : decode cD_withBit 14 = .ok (.iload_n 1, 1) := by decide +kernel
theorem dD_withBit_15 : decode cD_withBit 15 = .ok (.ishl, 1) := by decide +kernel
theorem dD_withBit_16 : decode cD_withBit 16 = .ok (.iconst (-1), 1) := by decide +kernel
theorem dD_withBit_17 : decode cD_withBit 17 = .ok (.ixor, 1) := by decide +kernel
theorem dD_withBit_18 : decode cD_withBit 18 = .ok (.iand, 1) := by decide +kernel
theorem dD_withBit_19 : decode cD_withBit 19 = .ok (.ireturn, 1) := by decide +kernel
theorem dX_init_0 : decode cX_init 0 = .ok (.aload_n 0, 1) := by decide +kernel
theorem dX_init_1 : decode cX_init 1 = .ok (.invokespecial 1, 3) := by decide +kernel
theorem dX_init_4 : decode cX_init 4 = .ok (.aload_n 0, 1) := by decide +kernel
theorem dX_init_5 : decode cX_init 5 = .ok (.bipush 10, 2) := by decide +kernel
theorem dX_init_7 : decode cX_init 7 = .ok (.newarray .boolean, 2) := by decide +kernel
theorem dX_init_9 : decode cX_init 9 = .ok (.putfield 7, 3) := by decide +kernel
theorem dX_init_12 : decode cX_init 12 = .ok (.aload_n 0, 1) := by decide +kernel
theorem dX_init_13 : decode cX_init 13 = .ok (.bipush 10, 2) := by decide +kernel
theorem dX_init_15 : decode cX_init 15 = .ok (.newarray .boolean, 2) := by decide +kernel
theorem dX_init_17 : decode cX_init 17 = .ok (.putfield 13, 3) := by decide +kernel
theorem dX_init_20 : decode cX_init 20 = .ok (.aload_n 0, 1) := by decide +kernel
theorem dX_init_21 : decode cX_init 21 = .ok (.bipush 10, 2) := by decide +kernel
theorem dX_init_23 : decode cX_init 23 = .ok (.newarray .boolean, 2) := by decide +kernel
theorem dX_init_25 : decode cX_init 25 = .ok (.putfield 16, 3) := by decide +kernel
theorem dX_init_28 : decode cX_init 28 = .ok (.aload_n 0, 1) := by decide +kernel
theorem dX_init_29 : decode cX_init 29 = .ok (.iconst 4, 1) := by decide +kernel
theorem dX_init_30 : decode cX_init 30 = .ok (.newarray .boolean, 2) := by decide +kernel
theorem dX_init_32 : decode cX_init 32 = .ok (.putfield 19, 3) := by decide +kernel
theorem dX_init_35 : decode cX_init 35 = .ok (.aload_n 0, 1) := by decide +kernel
theorem dX_init_36 : decode cX_init 36 = .ok (.iconst 4, 1) := by decide +kernel
theorem dX_init_37 : decode cX_init 37 = .ok (.newarray .boolean, 2) := by decide +kernel
theorem dX_init_39 : decode cX_init 39 = .ok (.putfield 22, 3) := by decide +kernel
theorem dX_init_42 : decode cX_init 42 = .ok (.aload_n 0, 1) := by decide +kernel
theorem dX_init_43 : decode cX_init 43 = .ok (.iconst 4, 1) := by decide +kernel
theorem dX_init_44 : decode cX_init 44 = .ok (.newarray .boolean, 2) := by decide +kernel
theorem dX_init_46 : decode cX_init 46 = .ok (.putfield 25, 3) := by decide +kernel
theorem dX_init_49 : decode cX_init 49 = .ok (.aload_n 0, 1) := by decide +kernel
theorem dX_init_50 : decode cX_init 50 = .ok (.iconst 4, 1) := by decide +kernel
theorem dX_init_51 : decode cX_init 51 = .ok (.newarray .boolean, 2) := by decide +kernel
theorem dX_init_53 : decode cX_init 53 = .ok (.putfield 28, 3) := by decide +kernel
theorem dX_init_56 : decode cX_init 56 = .ok (.aload_n 0, 1) := by decide +kernel
theorem dX_init_57 : decode cX_init 57 = .ok (.iconst 4, 1) := by decide +kernel
theorem dX_init_58 : decode cX_init 58 = .ok (.newarray .boolean, 2) := by decide +kernel
theorem dX_init_60 : decode cX_init 60 = .ok (.putfield 31, 3) := by decide +kernel
theorem dX_init_63 : decode cX_init 63 = .ok (.aload_n 0, 1) := by decide +kernel
theorem dX_init_64 : decode cX_init 64 = .ok (.iconst 4, 1) := by decide +kernel
theorem dX_init_65 : decode cX_init 65 = .ok (.newarray .boolean, 2) := by decide +kernel
theorem dX_init_67 : decode cX_init 67 = .ok (.putfield 34, 3) := by decide +kernel
theorem dX_init_70 : decode cX_init 70 = .ok (.aload_n 0, 1) := by decide +kernel
theorem dX_init_71 : decode cX_init 71 = .ok (.bipush 10, 2) := by decide +kernel
theorem dX_init_73 : decode cX_init 73 = .ok (.newarray .boolean, 2) := by decide +kernel
theorem dX_init_75 : decode cX_init 75 = .ok (.putfield 37, 3) := by decide +kernel
theorem dX_init_78 : decode cX_init 78 = .ok (.aload_n 0, 1) := by decide +kernel
theorem dX_init_79 : decode cX_init 79 = .ok (.bipush 10, 2) := by decide +kernel
theorem dX_init_81 : decode cX_init 81 = .ok (.newarray .boolean, 2) := by decide +kernel
theorem dX_init_83 : decode cX_init 83 = .ok (.putfield 40, 3) := by decide +kernel
theorem dX_init_86 : decode cX_init 86 = .ok (.aload_n 0, 1) := by decide +kernel
theorem dX_init_87 : decode cX_init 87 = .ok (.iconst 4, 1) := by decide +kernel
theorem dX_init_88 : decode cX_init 88 = .ok (.newarray .boolean, 2) := by decide +kernel
theorem dX_init_90 : decode cX_init 90 = .ok (.putfield 43, 3) := by decide +kernel
theorem dX_init_93 : decode cX_init 93 = .ok (.aload_n 0, 1) := by decide +kernel
theorem dX_init_94 : decode cX_init 94 = .ok (.sipush 1000, 3) := by decide +kernel
theorem dX_init_97 : decode cX_init 97 = .ok (.bipush 100, 2) := by decide +kernel
theorem dX_init_99 : decode cX_init 99 = .ok (.sipush 400, 3) := by decide +kernel
theorem dX_init_102 : decode cX_init 102 = .ok (.sipush 600, 3) := by decide +kernel
theorem dX_init_105 : decode cX_init 105 = .ok (.sipush 900, 3) := by decide +kernel
theorem dX_init_108 : decode cX_init 108 = .ok (.bipush 50, 2) := by decide +kernel
theorem dX_init_110 : decode cX_init 110 = .ok (.iconst 5, 1) := by decide +kernel
theorem dX_init_111 : decode cX_init 111 = .ok (.iconst 5, 1) := by decide +kernel
theorem dX_init_112 : decode cX_init 112 = .ok (.bipush 15, 2) := by decide +kernel
theorem dX_init_114 : decode cX_init 114 = .ok (.invokevirtual 46, 3) := by decide +kernel
theorem dX_init_117 : decode cX_init 117 = .ok (.return_, 1) := by decide +kernel
theorem dX_thrown_0 : decode cX_thrown 0 = .ok (.aload_n 0, 1) := by decide +kernel
theorem dX_thrown_1 : decode cX_thrown 1 = .ok (.getfield 50, 3) := by decide +kernel
theorem dX_thrown_4 : decode cX_thrown 4 = .ok (.ireturn, 1) := by decide +kernel
theorem dX_in_0 : decode cX_in 0 = .ok (.iload_n 0, 1) := by decide +kernel
theorem dX_in_1 : decode cX_in 1 = .ok (.iload_n 1, 1) := by decide +kernel
theorem dX_in_2 : decode cX_in 2 = .ok (.if_icmp .lt 12, 3) := by decide +kernel
theorem dX_in_5 : decode cX_in 5 = .ok (.iload_n 0, 1) := by decide +kernel
theorem dX_in_6 : decode cX_in 6 = .ok (.iload_n 2, 1) := by decide +kernel
theorem dX_in_7 : decode cX_in 7 = .ok (.if_icmp .gt 7, 3) := by decide +kernel
theorem dX_in_10 : decode cX_in 10 = .ok (.iconst 1, 1) := by decide +kernel
theorem dX_in_11 : decode cX_in 11 = .ok (.goto 4, 3) := by decide +kernel
theorem dX_in_14 : decode cX_in 14 = .ok (.iconst 0, 1) := by decide +kernel
theorem dX_in_15 : decode cX_in 15 = .ok (.ireturn, 1) := by decide +kernel
theorem dX_fails_0 : decode cX_fails 0 = .ok (.iload_n 1, 1) := by decide +kernel
theorem dX_fails_1 : decode cX_fails 1 = .ok (.ifCond .eq 15, 3) := by decide +kernel
theorem dX_fails_4 : decode cX_fails 4 = .ok (.aload_n 0, 1) := by decide +kernel
theorem dX_fails_5 : decode cX_fails 5 = .ok (.getfield 50, 3) := by decide +kernel
theorem dX_fails_8 : decode cX_fails 8 = .ok (.ifCond .ne 8, 3) := by decide +kernel
theorem dX_fails_11 : decode cX_fails 11 = .ok (.aload_n 0, 1) := by decide +kernel
theorem dX_fails_12 : decode cX_fails 12 = .ok (.iload_n 2, 1) := by decide +kernel
theorem dX_fails_13 : decode cX_fails 13 = .ok (.putfield 50, 3) := by decide +kernel
theorem dX_fails_16 : decode cX_fails 16 = .ok (.aload_n 0, 1) := by decide +kernel
theorem dX_fails_17 : decode cX_fails 17 = .ok (.getfield 50, 3) := by decide +kernel
theorem dX_fails_20 : decode cX_fails 20 = .ok (.ifCond .eq 7, 3) := by decide +kernel
theorem dX_fails_23 : decode cX_fails 23 = .ok (.iconst 1, 1) := by decide +kernel
theorem dX_fails_24 : decode cX_fails 24 = .ok (.goto 4, 3) := by decide +kernel
theorem dX_fails_27 : decode cX_fails 27 = .ok (.iconst 0, 1) := by decide +kernel
theorem dX_fails_28 : decode cX_fails 28 = .ok (.ireturn, 1) := by decide +kernel
theorem dX_anew_0 : decode cX_anew 0 = .ok (.aload_n 0, 1) := by decide +kernel
theorem dX_anew_1 : decode cX_anew 1 = .ok (.iload_n 1, 1) := by decide +kernel
theorem dX_anew_2 : decode cX_anew 2 = .ok (.putfield 54, 3) := by decide +kernel
theorem dX_anew_5 : decode cX_anew 5 = .ok (.aload_n 0, 1) := by decide +kernel
theorem dX_anew_6 : decode cX_anew 6 = .ok (.iload_n 2, 1) := by decide +kernel
theorem dX_anew_7 : decode cX_anew 7 = .ok (.putfield 57, 3) := by decide +kernel
theorem dX_anew_10 : decode cX_anew 10 = .ok (.aload_n 0, 1) := by decide +kernel
theorem dX_anew_11 : decode cX_anew 11 = .ok (.iload_n 3, 1) := by decide +kernel
theorem dX_anew_12 : decode cX_anew 12 = .ok (.putfield 60, 3) := by decide +kernel
theorem dX_anew_15 : decode cX_anew 15 = .ok (.aload_n 0, 1) := by decide +kernel
theorem dX_anew_16 : decode cX_anew 16 = .ok (.iload 4, 2) := by decide +kernel
theorem dX_anew_18 : decode cX_anew 18 = .ok (.putfield 63, 3) := by decide +kernel
theorem dX_anew_21 : decode cX_anew 21 = .ok (.aload_n 0, 1) := by decide +kernel
theorem dX_anew_22 : decode cX_anew 22 = .ok (.iload 5, 2) := by decide +kernel
theorem dX_anew_24 : decode cX_anew 24 = .ok (.putfield 66, 3) := by decide +kernel
theorem dX_anew_27 : decode cX_anew 27 = .ok (.aload_n 0, 1) := by decide +kernel
theorem dX_anew_28 : decode cX_anew 28 = .ok (.iload 6, 2) := by decide +kernel
theorem dX_anew_30 : decode cX_anew 30 = .ok (.putfield 69, 3) := by decide +kernel
theorem dX_anew_33 : decode cX_anew 33 = .ok (.aload_n 0, 1) := by decide +kernel
theorem dX_anew_34 : decode cX_anew 34 = .ok (.iload 7, 2) := by decide +kernel
theorem dX_anew_36 : decode cX_anew 36 = .ok (.putfield 72, 3) := by decide +kernel
theorem dX_anew_39 : decode cX_anew 39 = .ok (.aload_n 0, 1) := by decide +kernel
theorem dX_anew_40 : decode cX_anew 40 = .ok (.iload 8, 2) := by decide +kernel
theorem dX_anew_42 : decode cX_anew 42 = .ok (.putfield 75, 3) := by decide +kernel
theorem dX_anew_45 : decode cX_anew 45 = .ok (.aload_n 0, 1) := by decide +kernel
theorem dX_anew_46 : decode cX_anew 46 = .ok (.iload 9, 2) := by decide +kernel
theorem dX_anew_48 : decode cX_anew 48 = .ok (.putfield 78, 3) := by decide +kernel
theorem dX_anew_51 : decode cX_anew 51 = .ok (.aload_n 0, 1) := by decide +kernel
theorem dX_anew_52 : decode cX_anew 52 = .ok (.iconst 0, 1) := by decide +kernel
theorem dX_anew_53 : decode cX_anew 53 = .ok (.putfield 81, 3) := by decide +kernel
theorem dX_anew_56 : decode cX_anew 56 = .ok (.aload_n 0, 1) := by decide +kernel
theorem dX_anew_57 : decode cX_anew 57 = .ok (.iconst 0, 1) := by decide +kernel
theorem dX_anew_58 : decode cX_anew 58 = .ok (.putfield 84, 3) := by decide +kernel
theorem dX_anew_61 : decode cX_anew 61 = .ok (.aload_n 0, 1) := by decide +kernel
theorem dX_anew_62 : decode cX_anew 62 = .ok (.iconst 0, 1) := by decide +kernel
theorem dX_anew_63 : decode cX_anew 63 = .ok (.putfield 87, 3) := by decide +kernel
end
section
theorem dX_anew_66 : decode cX_anew 66 = .ok (.aload_n 0, 1) := by decide +kernel
theorem dX_anew_67 : decode cX_anew 67 = .ok (.aload_n 0, 1) := by decide +kernel
theorem dX_anew_68 : decode cX_anew 68 = .ok (.getfield 54, 3) := by decide +kernel
theorem dX_anew_71 : decode cX_anew 71 = .ok (.putfield 90, 3) := by decide +kernel
theorem dX_anew_74 : decode cX_anew 74 = .ok (.aload_n 0, 1) := by decide +kernel
theorem dX_anew_75 : decode cX_anew 75 = .ok (.iconst 0, 1) := by decide +kernel
theorem dX_anew_76 : decode cX_anew 76 = .ok (.putfield 93, 3) := by decide +kernel
theorem dX_anew_79 : decode cX_anew 79 = .ok (.aload_n 0, 1) := by decide +kernel
theorem dX_anew_80 : decode cX_anew 80 = .ok (.aload_n 0, 1) := by decide +kernel
theorem dX_anew_81 : decode cX_anew 81 = .ok (.getfield 69, 3) := by decide +kernel
theorem dX_anew_84 : decode cX_anew 84 = .ok (.putfield 96, 3) := by decide +kernel
theorem dX_anew_87 : decode cX_anew 87 = .ok (.aload_n 0, 1) := by decide +kernel
theorem dX_anew_88 : decode cX_anew 88 = .ok (.iconst 0, 1) := by decide +kernel
theorem dX_anew_89 : decode cX_anew 89 = .ok (.putfield 99, 3) := by decide +kernel
theorem dX_anew_92 : decode cX_anew 92 = .ok (.aload_n 0, 1) := by decide +kernel
theorem dX_anew_93 : decode cX_anew 93 = .ok (.iconst 0, 1) := by decide +kernel
theorem dX_anew_94 : decode cX_anew 94 = .ok (.putfield 102, 3) := by decide +kernel
theorem dX_anew_97 : decode cX_anew 97 = .ok (.aload_n 0, 1) := by decide +kernel
theorem dX_anew_98 : decode cX_anew 98 = .ok (.iconst 0, 1) := by decide +kernel
theorem dX_anew_99 : decode cX_anew 99 = .ok (.putfield 106, 3) := by decide +kernel
theorem dX_anew_102 : decode cX_anew 102 = .ok (.iconst 0, 1) := by decide +kernel
theorem dX_anew_103 : decode cX_anew 103 = .ok (.istore 10, 2) := by decide +kernel
theorem dX_anew_105 : decode cX_anew 105 = .ok (.iload 10, 2) := by decide +kernel
theorem dX_anew_107 : decode cX_anew 107 = .ok (.bipush 10, 2) := by decide +kernel
theorem dX_anew_109 : decode cX_anew 109 = .ok (.if_icmp .ge 25, 3) := by decide +kernel
theorem dX_anew_112 : decode cX_anew 112 = .ok (.aload_n 0, 1) := by decide +kernel
theorem dX_anew_113 : decode cX_anew 113 = .ok (.getfield 7, 3) := by decide +kernel
theorem dX_anew_116 : decode cX_anew 116 = .ok (.iload 10, 2) := by decide +kernel
theorem dX_anew_118 : decode cX_anew 118 = .ok (.iconst 0, 1) := by decide +kernel
theorem dX_anew_119 : decode cX_anew 119 = .ok (.bastore, 1) := by decide +kernel
theorem dX_anew_120 : decode cX_anew 120 = .ok (.aload_n 0, 1) := by decide +kernel
theorem dX_anew_121 : decode cX_anew 121 = .ok (.getfield 13, 3) := by decide +kernel
theorem dX_anew_124 : decode cX_anew 124 = .ok (.iload 10, 2) := by decide +kernel
theorem dX_anew_126 : decode cX_anew 126 = .ok (.iconst 0, 1) := by decide +kernel
theorem dX_anew_127 : decode cX_anew 127 = .ok (.bastore, 1) := by decide +kernel
theorem dX_anew_128 : decode cX_anew 128 = .ok (.iinc 10 1, 3) := by decide +kernel
theorem dX_anew_131 : decode cX_anew 131 = .ok (.goto (-26), 3) := by decide +kernel
theorem dX_anew_134 : decode cX_anew 134 = .ok (.iconst 0, 1) := by decide +kernel
theorem dX_anew_135 : decode cX_anew 135 = .ok (.istore 10, 2) := by decide +kernel
theorem dX_anew_137 : decode cX_anew 137 = .ok (.iload 10, 2) := by decide +kernel
theorem dX_anew_139 : decode cX_anew 139 = .ok (.iconst 4, 1) := by decide +kernel
theorem dX_anew_140 : decode cX_anew 140 = .ok (.if_icmp .ge 33, 3) := by decide +kernel
theorem dX_anew_143 : decode cX_anew 143 = .ok (.aload_n 0, 1) := by decide +kernel
theorem dX_anew_144 : decode cX_anew 144 = .ok (.getfield 19, 3) := by decide +kernel
theorem dX_anew_147 : decode cX_anew 147 = .ok (.iload 10, 2) := by decide +kernel
theorem dX_anew_149 : decode cX_anew 149 = .ok (.iconst 0, 1) := by decide +kernel
theorem dX_anew_150 : decode cX_anew 150 = .ok (.bastore, 1) := by decide +kernel
theorem dX_anew_151 : decode cX_anew 151 = .ok (.aload_n 0, 1) := by decide +kernel
theorem dX_anew_152 : decode cX_anew 152 = .ok (.getfield 22, 3) := by decide +kernel
theorem dX_anew_155 : decode cX_anew 155 = .ok (.iload 10, 2) := by decide +kernel
theorem dX_anew_157 : decode cX_anew 157 = .ok (.iconst 0, 1) := by decide +kernel
theorem dX_anew_158 : decode cX_anew 158 = .ok (.bastore, 1) := by decide +kernel
theorem dX_anew_159 : decode cX_anew 159 = .ok (.aload_n 0, 1) := by decide +kernel
theorem dX_anew_160 : decode cX_anew 160 = .ok (.getfield 25, 3) := by decide +kernel
theorem dX_anew_163 : decode cX_anew 163 = .ok (.iload 10, 2) := by decide +kernel
theorem dX_anew_165 : decode cX_anew 165 = .ok (.iconst 0, 1) := by decide +kernel
theorem dX_anew_166 : decode cX_anew 166 = .ok (.bastore, 1) := by decide +kernel
theorem dX_anew_167 : decode cX_anew 167 = .ok (.iinc 10 1, 3) := by decide +kernel
theorem dX_anew_170 : decode cX_anew 170 = .ok (.goto (-33), 3) := by decide +kernel
theorem dX_anew_173 : decode cX_anew 173 = .ok (.aload_n 0, 1) := by decide +kernel
theorem dX_anew_174 : decode cX_anew 174 = .ok (.invokevirtual 109, 3) := by decide +kernel
theorem dX_anew_177 : decode cX_anew 177 = .ok (.aload_n 0, 1) := by decide +kernel
theorem dX_anew_178 : decode cX_anew 178 = .ok (.invokevirtual 112, 3) := by decide +kernel
theorem dX_anew_181 : decode cX_anew 181 = .ok (.return_, 1) := by decide +kernel
theorem dX_forget_0 : decode cX_forget 0 = .ok (.aload_n 0, 1) := by decide +kernel
theorem dX_forget_1 : decode cX_forget 1 = .ok (.iconst 0, 1) := by decide +kernel
theorem dX_forget_2 : decode cX_forget 2 = .ok (.putfield 115, 3) := by decide +kernel
theorem dX_forget_5 : decode cX_forget 5 = .ok (.aload_n 0, 1) := by decide +kernel
theorem dX_forget_6 : decode cX_forget 6 = .ok (.iconst 0, 1) := by decide +kernel
theorem dX_forget_7 : decode cX_forget 7 = .ok (.putfield 118, 3) := by decide +kernel
theorem dX_forget_10 : decode cX_forget 10 = .ok (.aload_n 0, 1) := by decide +kernel
theorem dX_forget_11 : decode cX_forget 11 = .ok (.iconst 0, 1) := by decide +kernel
theorem dX_forget_12 : decode cX_forget 12 = .ok (.putfield 121, 3) := by decide +kernel
theorem dX_forget_15 : decode cX_forget 15 = .ok (.aload_n 0, 1) := by decide +kernel
theorem dX_forget_16 : decode cX_forget 16 = .ok (.iconst 0, 1) := by decide +kernel
theorem dX_forget_17 : decode cX_forget 17 = .ok (.putfield 124, 3) := by decide +kernel
theorem dX_forget_20 : decode cX_forget 20 = .ok (.aload_n 0, 1) := by decide +kernel
theorem dX_forget_21 : decode cX_forget 21 = .ok (.iconst 0, 1) := by decide +kernel
theorem dX_forget_22 : decode cX_forget 22 = .ok (.putfield 127, 3) := by decide +kernel
theorem dX_forget_25 : decode cX_forget 25 = .ok (.iconst 0, 1) := by decide +kernel
theorem dX_forget_26 : decode cX_forget 26 = .ok (.istore_n 1, 1) := by decide +kernel
theorem dX_forget_27 : decode cX_forget 27 = .ok (.iload_n 1, 1) := by decide +kernel
theorem dX_forget_28 : decode cX_forget 28 = .ok (.iconst 4, 1) := by decide +kernel
theorem dX_forget_29 : decode cX_forget 29 = .ok (.if_icmp .ge 16, 3) := by decide +kernel
theorem dX_forget_32 : decode cX_forget 32 = .ok (.aload_n 0, 1) := by decide +kernel
theorem dX_forget_33 : decode cX_forget 33 = .ok (.getfield 28, 3) := by decide +kernel
theorem dX_forget_36 : decode cX_forget 36 = .ok (.iload_n 1, 1) := by decide +kernel
theorem dX_forget_37 : decode cX_forget 37 = .ok (.iconst 0, 1) := by decide +kernel
theorem dX_forget_38 : decode cX_forget 38 = .ok (.bastore, 1) := by decide +kernel
theorem dX_forget_39 : decode cX_forget 39 = .ok (.iinc 1 1, 3) := by decide +kernel
theorem dX_forget_42 : decode cX_forget 42 = .ok (.goto (-15), 3) := by decide +kernel
theorem dX_forget_45 : decode cX_forget 45 = .ok (.iconst 0, 1) := by decide +kernel
theorem dX_forget_46 : decode cX_forget 46 = .ok (.istore_n 1, 1) := by decide +kernel
theorem dX_forget_47 : decode cX_forget 47 = .ok (.iload_n 1, 1) := by decide +kernel
theorem dX_forget_48 : decode cX_forget 48 = .ok (.bipush 10, 2) := by decide +kernel
theorem dX_forget_50 : decode cX_forget 50 = .ok (.if_icmp .ge 23, 3) := by decide +kernel
theorem dX_forget_53 : decode cX_forget 53 = .ok (.aload_n 0, 1) := by decide +kernel
theorem dX_forget_54 : decode cX_forget 54 = .ok (.getfield 37, 3) := by decide +kernel
theorem dX_forget_57 : decode cX_forget 57 = .ok (.iload_n 1, 1) := by decide +kernel
theorem dX_forget_58 : decode cX_forget 58 = .ok (.iconst 0, 1) := by decide +kernel
theorem dX_forget_59 : decode cX_forget 59 = .ok (.bastore, 1) := by decide +kernel
theorem dX_forget_60 : decode cX_forget 60 = .ok (.aload_n 0, 1) := by decide +kernel
theorem dX_forget_61 : decode cX_forget 61 = .ok (.getfield 40, 3) := by decide +kernel
theorem dX_forget_64 : decode cX_forget 64 = .ok (.iload_n 1, 1) := by decide +kernel
theorem dX_forget_65 : decode cX_forget 65 = .ok (.iconst 0, 1) := by decide +kernel
theorem dX_forget_66 : decode cX_forget 66 = .ok (.bastore, 1) := by decide +kernel
theorem dX_forget_67 : decode cX_forget 67 = .ok (.iinc 1 1, 3) := by decide +kernel
theorem dX_forget_70 : decode cX_forget 70 = .ok (.goto (-23), 3) := by decide +kernel
theorem dX_forget_73 : decode cX_forget 73 = .ok (.return_, 1) := by decide +kernel
theorem dX_quiet_0 : decode cX_quiet 0 = .ok (.aload_n 0, 1) := by decide +kernel
theorem dX_quiet_1 : decode cX_quiet 1 = .ok (.iconst 0, 1) := by decide +kernel
theorem dX_quiet_2 : decode cX_quiet 2 = .ok (.putfield 130, 3) := by decide +kernel
theorem dX_quiet_5 : decode cX_quiet 5 = .ok (.aload_n 0, 1) := by decide +kernel
theorem dX_quiet_6 : decode cX_quiet 6 = .ok (.iconst 0, 1) := by decide +kernel
theorem dX_quiet_7 : decode cX_quiet 7 = .ok (.putfield 133, 3) := by decide +kernel
theorem dX_quiet_10 : decode cX_quiet 10 = .ok (.aload_n 0, 1) := by decide +kernel
theorem dX_quiet_11 : decode cX_quiet 11 = .ok (.iconst 0, 1) := by decide +kernel
theorem dX_quiet_12 : decode cX_quiet 12 = .ok (.putfield 136, 3) := by decide +kernel
theorem dX_quiet_15 : decode cX_quiet 15 = .ok (.aload_n 0, 1) := by decide +kernel
theorem dX_quiet_16 : decode cX_quiet 16 = .ok (.iconst 0, 1) := by decide +kernel
theorem dX_quiet_17 : decode cX_quiet 17 = .ok (.putfield 139, 3) := by decide +kernel
theorem dX_quiet_20 : decode cX_quiet 20 = .ok (.aload_n 0, 1) := by decide +kernel
theorem dX_quiet_21 : decode cX_quiet 21 = .ok (.iconst 0, 1) := by decide +kernel
theorem dX_quiet_22 : decode cX_quiet 22 = .ok (.putfield 142, 3) := by decide +kernel
theorem dX_quiet_25 : decode cX_quiet 25 = .ok (.return_, 1) := by decide +kernel
theorem dX_begin_0 : decode cX_begin 0 = .ok (.aload_n 0, 1) := by decide +kernel
theorem dX_begin_1 : decode cX_begin 1 = .ok (.iconst 0, 1) := by decide +kernel
theorem dX_begin_2 : decode cX_begin 2 = .ok (.putfield 50, 3) := by decide +kernel
theorem dX_begin_5 : decode cX_begin 5 = .ok (.iload_n 1, 1) := by decide +kernel
theorem dX_begin_6 : decode cX_begin 6 = .ok (.ldc 145, 2) := by decide +kernel
theorem dX_begin_8 : decode cX_begin 8 = .ok (.if_icmp .gt 79, 3) := by decide +kernel
theorem dX_begin_11 : decode cX_begin 11 = .ok (.iload_n 2, 1) := by decide +kernel
theorem dX_begin_12 : decode cX_begin 12 = .ok (.ifCond .lt 75, 3) := by decide +kernel
theorem dX_begin_15 : decode cX_begin 15 = .ok (.iload_n 2, 1) := by decide +kernel
theorem dX_begin_16 : decode cX_begin 16 = .ok (.iload_n 3, 1) := by decide +kernel
theorem dX_begin_17 : decode cX_begin 17 = .ok (.if_icmp .ge 70, 3) := by decide +kernel
theorem dX_begin_20 : decode cX_begin 20 = .ok (.iload_n 3, 1) := by decide +kernel
theorem dX_begin_21 : decode cX_begin 21 = .ok (.iload 4, 2) := by decide +kernel
theorem dX_begin_23 : decode cX_begin 23 = .ok (.if_icmp .ge 64, 3) := by decide +kernel
theorem dX_begin_26 : decode cX_begin 26 = .ok (.iload 4, 2) := by decide +kernel
theorem dX_begin_28 : decode cX_begin 28 = .ok (.iload 5, 2) := by decide +kernel
theorem dX_begin_30 : decode cX_begin 30 = .ok (.if_icmp .ge 57, 3) := by decide +kernel
theorem dX_begin_33 : decode cX_begin 33 = .ok (.iload 5, 2) := by decide +kernel
theorem dX_begin_35 : decode cX_begin 35 = .ok (.iload_n 1, 1) := by decide +kernel
theorem dX_begin_36 : decode cX_begin 36 = .ok (.if_icmp .gt 51, 3) := by decide +kernel
theorem dX_begin_39 : decode cX_begin 39 = .ok (.iload 6, 2) := by decide +kernel
theorem dX_begin_41 : decode cX_begin 41 = .ok (.iconst 0, 1) := by decide +kernel
theorem dX_begin_42 : decode cX_begin 42 = .ok (.ldc 146, 2) := by decide +kernel
theorem dX_begin_44 : decode cX_begin 44 = .ok (.invokestatic 147, 3) := by decide +kernel
theorem dX_begin_47 : decode cX_begin 47 = .ok (.ifCond .eq 40, 3) := by decide +kernel
theorem dX_begin_50 : decode cX_begin 50 = .ok (.iload 7, 2) := by decide +kernel
theorem dX_begin_52 : decode cX_begin 52 = .ok (.iconst 0, 1) := by decide +kernel
theorem dX_begin_53 : decode cX_begin 53 = .ok (.ldc 146, 2) := by decide +kernel
theorem dX_begin_55 : decode cX_begin 55 = .ok (.invokestatic 147, 3) := by decide +kernel
theorem dX_begin_58 : decode cX_begin 58 = .ok (.ifCond .eq 29, 3) := by decide +kernel
theorem dX_begin_61 : decode cX_begin 61 = .ok (.iload 8, 2) := by decide +kernel
theorem dX_begin_63 : decode cX_begin 63 = .ok (.iconst 0, 1) := by decide +kernel
theorem dX_begin_64 : decode cX_begin 64 = .ok (.ldc 146, 2) := by decide +kernel
theorem dX_begin_66 : decode cX_begin 66 = .ok (.invokestatic 147, 3) := by decide +kernel
theorem dX_begin_69 : decode cX_begin 69 = .ok (.ifCond .eq 18, 3) := by decide +kernel
theorem dX_begin_72 : decode cX_begin 72 = .ok (.iload 9, 2) := by decide +kernel
theorem dX_begin_74 : decode cX_begin 74 = .ok (.iconst 1, 1) := by decide +kernel
theorem dX_begin_75 : decode cX_begin 75 = .ok (.ldc 146, 2) := by decide +kernel
theorem dX_begin_77 : decode cX_begin 77 = .ok (.invokestatic 147, 3) := by decide +kernel
theorem dX_begin_80 : decode cX_begin 80 = .ok (.ifCond .eq 7, 3) := by decide +kernel
theorem dX_begin_83 : decode cX_begin 83 = .ok (.iconst 1, 1) := by decide +kernel
theorem dX_begin_84 : decode cX_begin 84 = .ok (.goto 4, 3) := by decide +kernel
theorem dX_begin_87 : decode cX_begin 87 = .ok (.iconst 0, 1) := by decide +kernel
theorem dX_begin_88 : decode cX_begin 88 = .ok (.istore 10, 2) := by decide +kernel
theorem dX_begin_90 : decode cX_begin 90 = .ok (.aload_n 0, 1) := by decide +kernel
theorem dX_begin_91 : decode cX_begin 91 = .ok (.iload 10, 2) := by decide +kernel
theorem dX_begin_93 : decode cX_begin 93 = .ok (.ifCond .ne 7, 3) := by decide +kernel
theorem dX_begin_96 : decode cX_begin 96 = .ok (.iconst 1, 1) := by decide +kernel
theorem dX_begin_97 : decode cX_begin 97 = .ok (.goto 4, 3) := by decide +kernel
theorem dX_begin_100 : decode cX_begin 100 = .ok (.iconst 0, 1) := by decide +kernel
theorem dX_begin_101 : decode cX_begin 101 = .ok (.iconst 1, 1) := by decide +kernel
theorem dX_begin_102 : decode cX_begin 102 = .ok (.invokevirtual 151, 3) := by decide +kernel
theorem dX_begin_105 : decode cX_begin 105 = .ok (.ifCond .ne 22, 3) := by decide +kernel
theorem dX_begin_108 : decode cX_begin 108 = .ok (.aload_n 0, 1) := by decide +kernel
theorem dX_begin_109 : decode cX_begin 109 = .ok (.iload_n 1, 1) := by decide +kernel
theorem dX_begin_110 : decode cX_begin 110 = .ok (.iload_n 2, 1) := by decide +kernel
theorem dX_begin_111 : decode cX_begin 111 = .ok (.iload_n 3, 1) := by decide +kernel
theorem dX_begin_112 : decode cX_begin 112 = .ok (.iload 4, 2) := by decide +kernel
theorem dX_begin_114 : decode cX_begin 114 = .ok (.iload 5, 2) := by decide +kernel
theorem dX_begin_116 : decode cX_begin 116 = .ok (.iload 6, 2) := by decide +kernel
theorem dX_begin_118 : decode cX_begin 118 = .ok (.iload 7, 2) := by decide +kernel
theorem dX_begin_120 : decode cX_begin 120 = .ok (.iload 8, 2) := by decide +kernel
theorem dX_begin_122 : decode cX_begin 122 = .ok (.iload 9, 2) := by decide +kernel
theorem dX_begin_124 : decode cX_begin 124 = .ok (.invokevirtual 46, 3) := by decide +kernel
theorem dX_begin_127 : decode cX_begin 127 = .ok (.return_, 1) := by decide +kernel
theorem dX_level_0 : decode cX_level 0 = .ok (.aload_n 0, 1) := by decide +kernel
theorem dX_level_1 : decode cX_level 1 = .ok (.iconst 0, 1) := by decide +kernel
theorem dX_level_2 : decode cX_level 2 = .ok (.putfield 50, 3) := by decide +kernel
theorem dX_level_5 : decode cX_level 5 = .ok (.aload_n 0, 1) := by decide +kernel
theorem dX_level_6 : decode cX_level 6 = .ok (.iload_n 1, 1) := by decide +kernel
theorem dX_level_7 : decode cX_level 7 = .ok (.putfield 155, 3) := by decide +kernel
theorem dX_level_10 : decode cX_level 10 = .ok (.aload_n 0, 1) := by decide +kernel
theorem dX_level_11 : decode cX_level 11 = .ok (.iconst 1, 1) := by decide +kernel
theorem dX_level_12 : decode cX_level 12 = .ok (.putfield 115, 3) := by decide +kernel
theorem dX_level_15 : decode cX_level 15 = .ok (.return_, 1) := by decide +kernel
theorem dX_steam_0 : decode cX_steam 0 = .ok (.aload_n 0, 1) := by decide +kernel
theorem dX_steam_1 : decode cX_steam 1 = .ok (.iconst 0, 1) := by decide +kernel
theorem dX_steam_2 : decode cX_steam 2 = .ok (.putfield 50, 3) := by decide +kernel
theorem dX_steam_5 : decode cX_steam 5 = .ok (.aload_n 0, 1) := by decide +kernel
theorem dX_steam_6 : decode cX_steam 6 = .ok (.iload_n 1, 1) := by decide +kernel
theorem dX_steam_7 : decode cX_steam 7 = .ok (.putfield 158, 3) := by decide +kernel
theorem dX_steam_10 : decode cX_steam 10 = .ok (.aload_n 0, 1) := by decide +kernel
theorem dX_steam_11 : decode cX_steam 11 = .ok (.iconst 1, 1) := by decide +kernel
theorem dX_steam_12 : decode cX_steam 12 = .ok (.putfield 118, 3) := by decide +kernel
theorem dX_steam_15 : decode cX_steam 15 = .ok (.return_, 1) := by decide +kernel
theorem dX_pump_0 : decode cX_pump 0 = .ok (.aload_n 0, 1) := by decide +kernel
theorem dX_pump_1 : decode cX_pump 1 = .ok (.iconst 0, 1) := by decide +kernel
theorem dX_pump_2 : decode cX_pump 2 = .ok (.putfield 50, 3) := by decide +kernel
theorem dX_pump_5 : decode cX_pump 5 = .ok (.aload_n 0, 1) := by decide +kernel
theorem dX_pump_6 : decode cX_pump 6 = .ok (.iload_n 1, 1) := by decide +kernel
theorem dX_pump_7 : decode cX_pump 7 = .ok (.iconst 0, 1) := by decide +kernel
theorem dX_pump_8 : decode cX_pump 8 = .ok (.iconst 3, 1) := by decide +kernel
theorem dX_pump_9 : decode cX_pump 9 = .ok (.invokestatic 147, 3) := by decide +kernel
theorem dX_pump_12 : decode cX_pump 12 = .ok (.ifCond .ne 7, 3) := by decide +kernel
theorem dX_pump_15 : decode cX_pump 15 = .ok (.iconst 1, 1) := by decide +kernel
theorem dX_pump_16 : decode cX_pump 16 = .ok (.goto 4, 3) := by decide +kernel
theorem dX_pump_19 : decode cX_pump 19 = .ok (.iconst 0, 1) := by decide +kernel
theorem dX_pump_20 : decode cX_pump 20 = .ok (.iconst 1, 1) := by decide +kernel
theorem dX_pump_21 : decode cX_pump 21 = .ok (.invokevirtual 151, 3) := by decide +kernel
theorem dX_pump_24 : decode cX_pump 24 = .ok (.ifCond .eq 4, 3) := by decide +kernel
theorem dX_pump_27 : decode cX_pump 27 = .ok (.return_, 1) := by decide +kernel
theorem dX_pump_28 : decode cX_pump 28 = .ok (.aload_n 0, 1) := by decide +kernel
theorem dX_pump_29 : decode cX_pump 29 = .ok (.getfield 28, 3) := by decide +kernel
theorem dX_pump_32 : decode cX_pump 32 = .ok (.iload_n 1, 1) := by decide +kernel
theorem dX_pump_33 : decode cX_pump 33 = .ok (.iconst 1, 1) := by decide +kernel
theorem dX_pump_34 : decode cX_pump 34 = .ok (.bastore, 1) := by decide +kernel
theorem dX_pump_35 : decode cX_pump 35 = .ok (.aload_n 0, 1) := by decide +kernel
theorem dX_pump_36 : decode cX_pump 36 = .ok (.getfield 31, 3) := by decide +kernel
theorem dX_pump_39 : decode cX_pump 39 = .ok (.iload_n 1, 1) := by decide +kernel
theorem dX_pump_40 : decode cX_pump 40 = .ok (.iload_n 2, 1) := by decide +kernel
theorem dX_pump_41 : decode cX_pump 41 = .ok (.bastore, 1) := by decide +kernel
theorem dX_pump_42 : decode cX_pump 42 = .ok (.aload_n 0, 1) := by decide +kernel
theorem dX_pump_43 : decode cX_pump 43 = .ok (.getfield 34, 3) := by decide +kernel
theorem dX_pump_46 : decode cX_pump 46 = .ok (.iload_n 1, 1) := by decide +kernel
theorem dX_pump_47 : decode cX_pump 47 = .ok (.iload_n 3, 1) := by decide +kernel
theorem dX_pump_48 : decode cX_pump 48 = .ok (.bastore, 1) := by decide +kernel
theorem dX_pump_49 : decode cX_pump 49 = .ok (.return_, 1) := by decide +kernel
theorem dX_say_0 : decode cX_say 0 = .ok (.aload_n 0, 1) := by decide +kernel
theorem dX_say_1 : decode cX_say 1 = .ok (.iconst 0, 1) := by decide +kernel
theorem dX_say_2 : decode cX_say 2 = .ok (.putfield 50, 3) := by decide +kernel
theorem dX_say_5 : decode cX_say 5 = .ok (.aload_n 0, 1) := by decide +kernel
theorem dX_say_6 : decode cX_say 6 = .ok (.iload_n 1, 1) := by decide +kernel
theorem dX_say_7 : decode cX_say 7 = .ok (.iconst 0, 1) := by decide +kernel
theorem dX_say_8 : decode cX_say 8 = .ok (.iconst 2, 1) := by decide +kernel
theorem dX_say_9 : decode cX_say 9 = .ok (.invokestatic 147, 3) := by decide +kernel
theorem dX_say_12 : decode cX_say 12 = .ok (.ifCond .ne 7, 3) := by decide +kernel
theorem dX_say_15 : decode cX_say 15 = .ok (.iconst 1, 1) := by decide +kernel
theorem dX_say_16 : decode cX_say 16 = .ok (.goto 4, 3) := by decide +kernel
theorem dX_say_19 : decode cX_say 19 = .ok (.iconst 0, 1) := by decide +kernel
theorem dX_say_20 : decode cX_say 20 = .ok (.iconst 1, 1) := by decide +kernel
theorem dX_say_21 : decode cX_say 21 = .ok (.invokevirtual 151, 3) := by decide +kernel
theorem dX_say_24 : decode cX_say 24 = .ok (.ifCond .eq 4, 3) := by decide +kernel
theorem dX_say_27 : decode cX_say 27 = .ok (.return_, 1) := by decide +kernel
theorem dX_say_28 : decode cX_say 28 = .ok (.iload_n 1, 1) := by decide +kernel
theorem dX_say_29 : decode cX_say 29 = .ok (.ifCond .ne 11, 3) := by decide +kernel
theorem dX_say_32 : decode cX_say 32 = .ok (.aload_n 0, 1) := by decide +kernel
theorem dX_say_33 : decode cX_say 33 = .ok (.iconst 1, 1) := by decide +kernel
theorem dX_say_34 : decode cX_say 34 = .ok (.putfield 121, 3) := by decide +kernel
theorem dX_say_37 : decode cX_say 37 = .ok (.goto 21, 3) := by decide +kernel
theorem dX_say_40 : decode cX_say 40 = .ok (.iload_n 1, 1) := by decide +kernel
theorem dX_say_41 : decode cX_say 41 = .ok (.iconst 1, 1) := by decide +kernel
theorem dX_say_42 : decode cX_say 42 = .ok (.if_icmp .ne 11, 3) := by decide +kernel
theorem dX_say_45 : decode cX_say 45 = .ok (.aload_n 0, 1) := by decide +kernel
theorem dX_say_46 : decode cX_say 46 = .ok (.iconst 1, 1) := by decide +kernel
theorem dX_say_47 : decode cX_say 47 = .ok (.putfield 124, 3) := by decide +kernel
theorem dX_say_50 : decode cX_say 50 = .ok (.goto 8, 3) := by decide +kernel
theorem dX_say_53 : decode cX_say 53 = .ok (.aload_n 0, 1) := by decide +kernel
theorem dX_say_54 : decode cX_say 54 = .ok (.iconst 1, 1) := by decide +kernel
theorem dX_say_55 : decode cX_say 55 = .ok (.putfield 127, 3) := by decide +kernel
theorem dX_say_58 : decode cX_say 58 = .ok (.return_, 1) := by decide +kernel
theorem dX_unit_0 : decode cX_unit 0 = .ok (.aload_n 0, 1) := by decide +kernel
theorem dX_unit_1 : decode cX_unit 1 = .ok (.iconst 0, 1) := by decide +kernel
theorem dX_unit_2 : decode cX_unit 2 = .ok (.putfield 50, 3) := by decide +kernel
theorem dX_unit_5 : decode cX_unit 5 = .ok (.aload_n 0, 1) := by decide +kernel
theorem dX_unit_6 : decode cX_unit 6 = .ok (.iload_n 1, 1) := by decide +kernel
theorem dX_unit_7 : decode cX_unit 7 = .ok (.iconst 0, 1) := by decide +kernel
theorem dX_unit_8 : decode cX_unit 8 = .ok (.bipush 9, 2) := by decide +kernel
theorem dX_unit_10 : decode cX_unit 10 = .ok (.invokestatic 147, 3) := by decide +kernel
theorem dX_unit_13 : decode cX_unit 13 = .ok (.ifCond .ne 7, 3) := by decide +kernel
theorem dX_unit_16 : decode cX_unit 16 = .ok (.iconst 1, 1) := by decide +kernel
theorem dX_unit_17 : decode cX_unit 17 = .ok (.goto 4, 3) := by decide +kernel
theorem dX_unit_20 : decode cX_unit 20 = .ok (.iconst 0, 1) := by decide +kernel
theorem dX_unit_21 : decode cX_unit 21 = .ok (.iconst 1, 1) := by decide +kernel
theorem dX_unit_22 : decode cX_unit 22 = .ok (.invokevirtual 151, 3) := by decide +kernel
theorem dX_unit_25 : decode cX_unit 25 = .ok (.ifCond .eq 4, 3) := by decide +kernel
theorem dX_unit_28 : decode cX_unit 28 = .ok (.return_, 1) := by decide +kernel
theorem dX_unit_29 : decode cX_unit 29 = .ok (.iload_n 2, 1) := by decide +kernel
theorem dX_unit_30 : decode cX_unit 30 = .ok (.ifCond .eq 13, 3) := by decide +kernel
theorem dX_unit_33 : decode cX_unit 33 = .ok (.aload_n 0, 1) := by decide +kernel
theorem dX_unit_34 : decode cX_unit 34 = .ok (.getfield 37, 3) := by decide +kernel
theorem dX_unit_37 : decode cX_unit 37 = .ok (.iload_n 1, 1) := by decide +kernel
theorem dX_unit_38 : decode cX_unit 38 = .ok (.iconst 1, 1) := by decide +kernel
theorem dX_unit_39 : decode cX_unit 39 = .ok (.bastore, 1) := by decide +kernel
theorem dX_unit_40 : decode cX_unit 40 = .ok (.goto 10, 3) := by decide +kernel
theorem dX_unit_43 : decode cX_unit 43 = .ok (.aload_n 0, 1) := by decide +kernel
theorem dX_unit_44 : decode cX_unit 44 = .ok (.getfield 40, 3) := by decide +kernel
theorem dX_unit_47 : decode cX_unit 47 = .ok (.iload_n 1, 1) := by decide +kernel
theorem dX_unit_48 : decode cX_unit 48 = .ok (.iconst 1, 1) := by decide +kernel
theorem dX_unit_49 : decode cX_unit 49 = .ok (.bastore, 1) := by decide +kernel
theorem dX_unit_50 : decode cX_unit 50 = .ok (.return_, 1) := by decide +kernel
theorem dX_cycle_0 : decode cX_cycle 0 = .ok (.aload_n 0, 1) := by decide +kernel
theorem dX_cycle_1 : decode cX_cycle 1 = .ok (.iconst 0, 1) := by decide +kernel
theorem dX_cycle_2 : decode cX_cycle 2 = .ok (.putfield 50, 3) := by decide +kernel
theorem dX_cycle_5 : decode cX_cycle 5 = .ok (.aload_n 0, 1) := by decide +kernel
theorem dX_cycle_6 : decode cX_cycle 6 = .ok (.aload_n 0, 1) := by decide +kernel
theorem dX_cycle_7 : decode cX_cycle 7 = .ok (.getfield 84, 3) := by decide +kernel
theorem dX_cycle_10 : decode cX_cycle 10 = .ok (.ldc 145, 2) := by decide +kernel
theorem dX_cycle_12 : decode cX_cycle 12 = .ok (.if_icmp .ne 7, 3) := by decide +kernel
theorem dX_cycle_15 : decode cX_cycle 15 = .ok (.iconst 1, 1) := by decide +kernel
theorem dX_cycle_16 : decode cX_cycle 16 = .ok (.goto 4, 3) := by decide +kernel
theorem dX_cycle_19 : decode cX_cycle 19 = .ok (.iconst 0, 1) := by decide +kernel
theorem dX_cycle_20 : decode cX_cycle 20 = .ok (.iconst 1, 1) := by decide +kernel
theorem dX_cycle_21 : decode cX_cycle 21 = .ok (.invokevirtual 151, 3) := by decide +kernel
theorem dX_cycle_24 : decode cX_cycle 24 = .ok (.ifCond .eq 5, 3) := by decide +kernel
theorem dX_cycle_27 : decode cX_cycle 27 = .ok (.iconst 0, 1) := by decide +kernel
theorem dX_cycle_28 : decode cX_cycle 28 = .ok (.ireturn, 1) := by decide +kernel
theorem dX_cycle_29 : decode cX_cycle 29 = .ok (.aload_n 0, 1) := by decide +kernel
theorem dX_cycle_30 : decode cX_cycle 30 = .ok (.dup, 1) := by decide +kernel
theorem dX_cycle_31 : decode cX_cycle 31 = .ok (.getfield 84, 3) := by decide +kernel
theorem dX_cycle_34 : decode cX_cycle 34 = .ok (.iconst 1, 1) := by decide +kernel
theorem dX_cycle_35 : decode cX_cycle 35 = .ok (.iadd, 1) := by decide +kernel
theorem dX_cycle_36 : decode cX_cycle 36 = .ok (.putfield 84, 3) := by decide +kernel
theorem dX_cycle_39 : decode cX_cycle 39 = .ok (.aload_n 0, 1) := by decide +kernel
theorem dX_cycle_40 : decode cX_cycle 40 = .ok (.invokevirtual 112, 3) := by decide +kernel
theorem dX_cycle_43 : decode cX_cycle 43 = .ok (.aload_n 0, 1) := by decide +kernel
theorem dX_cycle_44 : decode cX_cycle 44 = .ok (.getfield 81, 3) := by decide +kernel
theorem dX_cycle_47 : decode cX_cycle 47 = .ok (.iconst 4, 1) := by decide +kernel
theorem dX_cycle_48 : decode cX_cycle 48 = .ok (.if_icmp .eq 17, 3) := by decide +kernel
theorem dX_cycle_51 : decode cX_cycle 51 = .ok (.aload_n 0, 1) := by decide +kernel
theorem dX_cycle_52 : decode cX_cycle 52 = .ok (.invokevirtual 161, 3) := by decide +kernel
theorem dX_cycle_55 : decode cX_cycle 55 = .ok (.istore_n 1, 1) := by decide +kernel
theorem dX_cycle_56 : decode cX_cycle 56 = .ok (.iload_n 1, 1) := by decide +kernel
theorem dX_cycle_57 : decode cX_cycle 57 = .ok (.ifCond .ne 8, 3) := by decide +kernel
theorem dX_cycle_60 : decode cX_cycle 60 = .ok (.aload_n 0, 1) := by decide +kernel
theorem dX_cycle_61 : decode cX_cycle 61 = .ok (.iconst 4, 1) := by decide +kernel
theorem dX_cycle_62 : decode cX_cycle 62 = .ok (.putfield 81, 3) := by decide +kernel
theorem dX_cycle_65 : decode cX_cycle 65 = .ok (.aload_n 0, 1) := by decide +kernel
theorem dX_cycle_66 : decode cX_cycle 66 = .ok (.invokevirtual 109, 3) := by decide +kernel
theorem dX_cycle_69 : decode cX_cycle 69 = .ok (.aload_n 0, 1) := by decide +kernel
theorem dX_cycle_70 : decode cX_cycle 70 = .ok (.getfield 81, 3) := by decide +kernel
theorem dX_cycle_73 : decode cX_cycle 73 = .ok (.ireturn, 1) := by decide +kernel
theorem dX_turn_0 : decode cX_turn 0 = .ok (.aload_n 0, 1) := by decide +kernel
theorem dX_turn_1 : decode cX_turn 1 = .ok (.aload_n 0, 1) := by decide +kernel
theorem dX_turn_2 : decode cX_turn 2 = .ok (.getfield 127, 3) := by decide +kernel
theorem dX_turn_5 : decode cX_turn 5 = .ok (.ifCond .eq 12, 3) := by decide +kernel
theorem dX_turn_8 : decode cX_turn 8 = .ok (.aload_n 0, 1) := by decide +kernel
theorem dX_turn_9 : decode cX_turn 9 = .ok (.getfield 99, 3) := by decide +kernel
theorem dX_turn_12 : decode cX_turn 12 = .ok (.iconst 1, 1) := by decide +kernel
theorem dX_turn_13 : decode cX_turn 13 = .ok (.iadd, 1) := by decide +kernel
theorem dX_turn_14 : decode cX_turn 14 = .ok (.goto 4, 3) := by decide +kernel
theorem dX_turn_17 : decode cX_turn 17 = .ok (.iconst 0, 1) := by decide +kernel
theorem dX_turn_18 : decode cX_turn 18 = .ok (.putfield 99, 3) := by decide +kernel
theorem dX_turn_21 : decode cX_turn 21 = .ok (.aload_n 0, 1) := by decide +kernel
theorem dX_turn_22 : decode cX_turn 22 = .ok (.getfield 99, 3) := by decide +kernel
theorem dX_turn_25 : decode cX_turn 25 = .ok (.iconst 3, 1) := by decide +kernel
theorem dX_turn_26 : decode cX_turn 26 = .ok (.if_icmp .lt 5, 3) := by decide +kernel
theorem dX_turn_29 : decode cX_turn 29 = .ok (.iconst 0, 1) := by decide +kernel
theorem dX_turn_30 : decode cX_turn 30 = .ok (.ireturn, 1) := by decide +kernel
theorem dX_turn_31 : decode cX_turn 31 = .ok (.aload_n 0, 1) := by decide +kernel
theorem dX_turn_32 : decode cX_turn 32 = .ok (.getfield 115, 3) := by decide +kernel
theorem dX_turn_35 : decode cX_turn 35 = .ok (.ifCond .eq 10, 3) := by decide +kernel
theorem dX_turn_38 : decode cX_turn 38 = .ok (.aload_n 0, 1) := by decide +kernel
theorem dX_turn_39 : decode cX_turn 39 = .ok (.getfield 118, 3) := by decide +kernel
theorem dX_turn_42 : decode cX_turn 42 = .ok (.ifCond .ne 5, 3) := by decide +kernel
theorem dX_turn_45 : decode cX_turn 45 = .ok (.iconst 0, 1) := by decide +kernel
theorem dX_turn_46 : decode cX_turn 46 = .ok (.ireturn, 1) := by decide +kernel
theorem dX_turn_47 : decode cX_turn 47 = .ok (.iconst 0, 1) := by decide +kernel
theorem dX_turn_48 : decode cX_turn 48 = .ok (.istore_n 1, 1) := by decide +kernel
theorem dX_turn_49 : decode cX_turn 49 = .ok (.iload_n 1, 1) := by decide +kernel
theorem dX_turn_50 : decode cX_turn 50 = .ok (.iconst 4, 1) := by decide +kernel
theorem dX_turn_51 : decode cX_turn 51 = .ok (.if_icmp .ge 20, 3) := by decide +kernel
theorem dX_turn_54 : decode cX_turn 54 = .ok (.aload_n 0, 1) := by decide +kernel
theorem dX_turn_55 : decode cX_turn 55 = .ok (.getfield 28, 3) := by decide +kernel
theorem dX_turn_58 : decode cX_turn 58 = .ok (.iload_n 1, 1) := by decide +kernel
theorem dX_turn_59 : decode cX_turn 59 = .ok (.baload, 1) := by decide +kernel
theorem dX_turn_60 : decode cX_turn 60 = .ok (.ifCond .ne 5, 3) := by decide +kernel
theorem dX_turn_63 : decode cX_turn 63 = .ok (.iconst 0, 1) := by decide +kernel
theorem dX_turn_64 : decode cX_turn 64 = .ok (.ireturn, 1) := by decide +kernel
theorem dX_turn_65 : decode cX_turn 65 = .ok (.iinc 1 1, 3) := by decide +kernel
theorem dX_turn_68 : decode cX_turn 68 = .ok (.goto (-19), 3) := by decide +kernel
theorem dX_turn_71 : decode cX_turn 71 = .ok (.iconst 0, 1) := by decide +kernel
theorem dX_turn_72 : decode cX_turn 72 = .ok (.istore_n 1, 1) := by decide +kernel
theorem dX_turn_73 : decode cX_turn 73 = .ok (.iload_n 1, 1) := by decide +kernel
theorem dX_turn_74 : decode cX_turn 74 = .ok (.bipush 10, 2) := by decide +kernel
theorem dX_turn_76 : decode cX_turn 76 = .ok (.if_icmp .ge 21, 3) := by decide +kernel
theorem dX_turn_79 : decode cX_turn 79 = .ok (.aload_n 0, 1) := by decide +kernel
theorem dX_turn_80 : decode cX_turn 80 = .ok (.getfield 16, 3) := by decide +kernel
theorem dX_turn_83 : decode cX_turn 83 = .ok (.iload_n 1, 1) := by decide +kernel
theorem dX_turn_84 : decode cX_turn 84 = .ok (.aload_n 0, 1) := by decide +kernel
theorem dX_turn_85 : decode cX_turn 85 = .ok (.getfield 7, 3) := by decide +kernel
theorem dX_turn_88 : decode cX_turn 88 = .ok (.iload_n 1, 1) := by decide +kernel
theorem dX_turn_89 : decode cX_turn 89 = .ok (.baload, 1) := by decide +kernel
theorem dX_turn_90 : decode cX_turn 90 = .ok (.bastore, 1) := by decide +kernel
theorem dX_turn_91 : decode cX_turn 91 = .ok (.iinc 1 1, 3) := by decide +kernel
theorem dX_turn_94 : decode cX_turn 94 = .ok (.goto (-21), 3) := by decide +kernel
theorem dX_turn_97 : decode cX_turn 97 = .ok (.aload_n 0, 1) := by decide +kernel
theorem dX_turn_98 : decode cX_turn 98 = .ok (.invokevirtual 165, 3) := by decide +kernel
theorem dX_turn_101 : decode cX_turn 101 = .ok (.ifCond .ne 5, 3) := by decide +kernel
theorem dX_turn_104 : decode cX_turn 104 = .ok (.iconst 0, 1) := by decide +kernel
theorem dX_turn_105 : decode cX_turn 105 = .ok (.ireturn, 1) := by decide +kernel
theorem dX_turn_106 : decode cX_turn 106 = .ok (.aload_n 0, 1) := by decide +kernel
theorem dX_turn_107 : decode cX_turn 107 = .ok (.getfield 93, 3) := by decide +kernel
theorem dX_turn_110 : decode cX_turn 110 = .ok (.aload_n 0, 1) := by decide +kernel
theorem dX_turn_111 : decode cX_turn 111 = .ok (.getfield 75, 3) := by decide +kernel
theorem dX_turn_114 : decode cX_turn 114 = .ok (.isub, 1) := by decide +kernel
theorem dX_turn_115 : decode cX_turn 115 = .ok (.ifCond .ge 7, 3) := by decide +kernel
theorem dX_turn_118 : decode cX_turn 118 = .ok (.iconst 0, 1) := by decide +kernel
theorem dX_turn_119 : decode cX_turn 119 = .ok (.goto 12, 3) := by decide +kernel
theorem dX_turn_122 : decode cX_turn 122 = .ok (.aload_n 0, 1) := by decide +kernel
theorem dX_turn_123 : decode cX_turn 123 = .ok (.getfield 93, 3) := by decide +kernel
theorem dX_turn_126 : decode cX_turn 126 = .ok (.aload_n 0, 1) := by decide +kernel
theorem dX_turn_127 : decode cX_turn 127 = .ok (.getfield 75, 3) := by decide +kernel
theorem dX_turn_130 : decode cX_turn 130 = .ok (.isub, 1) := by decide +kernel
theorem dX_turn_131 : decode cX_turn 131 = .ok (.istore_n 1, 1) := by decide +kernel
theorem dX_turn_132 : decode cX_turn 132 = .ok (.aload_n 0, 1) := by decide +kernel
end
section
theorem dX_turn_133 : decode cX_turn 133 = .ok (.getfield 96, 3) := by decide +kernel
theorem dX_turn_136 : decode cX_turn 136 = .ok (.aload_n 0, 1) := by decide +kernel
theorem dX_turn_137 : decode cX_turn 137 = .ok (.getfield 72, 3) := by decide +kernel
theorem dX_turn_140 : decode cX_turn 140 = .ok (.iadd, 1) := by decide +kernel
theorem dX_turn_141 : decode cX_turn 141 = .ok (.aload_n 0, 1) := by decide +kernel
theorem dX_turn_142 : decode cX_turn 142 = .ok (.getfield 69, 3) := by decide +kernel
theorem dX_turn_145 : decode cX_turn 145 = .ok (.if_icmp .le 10, 3) := by decide +kernel
theorem dX_turn_148 : decode cX_turn 148 = .ok (.aload_n 0, 1) := by decide +kernel
theorem dX_turn_149 : decode cX_turn 149 = .ok (.getfield 69, 3) := by decide +kernel
theorem dX_turn_152 : decode cX_turn 152 = .ok (.goto 12, 3) := by decide +kernel
theorem dX_turn_155 : decode cX_turn 155 = .ok (.aload_n 0, 1) := by decide +kernel
theorem dX_turn_156 : decode cX_turn 156 = .ok (.getfield 96, 3) := by decide +kernel
theorem dX_turn_159 : decode cX_turn 159 = .ok (.aload_n 0, 1) := by decide +kernel
theorem dX_turn_160 : decode cX_turn 160 = .ok (.getfield 72, 3) := by decide +kernel
theorem dX_turn_163 : decode cX_turn 163 = .ok (.iadd, 1) := by decide +kernel
theorem dX_turn_164 : decode cX_turn 164 = .ok (.istore_n 2, 1) := by decide +kernel
theorem dX_turn_165 : decode cX_turn 165 = .ok (.aload_n 0, 1) := by decide +kernel
theorem dX_turn_166 : decode cX_turn 166 = .ok (.getfield 87, 3) := by decide +kernel
theorem dX_turn_169 : decode cX_turn 169 = .ok (.aload_n 0, 1) := by decide +kernel
theorem dX_turn_170 : decode cX_turn 170 = .ok (.getfield 96, 3) := by decide +kernel
theorem dX_turn_173 : decode cX_turn 173 = .ok (.iload_n 2, 1) := by decide +kernel
theorem dX_turn_174 : decode cX_turn 174 = .ok (.if_icmp .le 10, 3) := by decide +kernel
theorem dX_turn_177 : decode cX_turn 177 = .ok (.aload_n 0, 1) := by decide +kernel
theorem dX_turn_178 : decode cX_turn 178 = .ok (.getfield 96, 3) := by decide +kernel
theorem dX_turn_181 : decode cX_turn 181 = .ok (.goto 4, 3) := by decide +kernel
theorem dX_turn_184 : decode cX_turn 184 = .ok (.iload_n 2, 1) := by decide +kernel
theorem dX_turn_185 : decode cX_turn 185 = .ok (.isub, 1) := by decide +kernel
theorem dX_turn_186 : decode cX_turn 186 = .ok (.istore_n 3, 1) := by decide +kernel
theorem dX_turn_187 : decode cX_turn 187 = .ok (.aload_n 0, 1) := by decide +kernel
theorem dX_turn_188 : decode cX_turn 188 = .ok (.getfield 90, 3) := by decide +kernel
theorem dX_turn_191 : decode cX_turn 191 = .ok (.aload_n 0, 1) := by decide +kernel
theorem dX_turn_192 : decode cX_turn 192 = .ok (.getfield 93, 3) := by decide +kernel
theorem dX_turn_195 : decode cX_turn 195 = .ok (.iload_n 1, 1) := by decide +kernel
theorem dX_turn_196 : decode cX_turn 196 = .ok (.if_icmp .ge 10, 3) := by decide +kernel
theorem dX_turn_199 : decode cX_turn 199 = .ok (.aload_n 0, 1) := by decide +kernel
theorem dX_turn_200 : decode cX_turn 200 = .ok (.getfield 93, 3) := by decide +kernel
theorem dX_turn_203 : decode cX_turn 203 = .ok (.goto 4, 3) := by decide +kernel
theorem dX_turn_206 : decode cX_turn 206 = .ok (.iload_n 1, 1) := by decide +kernel
theorem dX_turn_207 : decode cX_turn 207 = .ok (.isub, 1) := by decide +kernel
theorem dX_turn_208 : decode cX_turn 208 = .ok (.istore 4, 2) := by decide +kernel
theorem dX_turn_210 : decode cX_turn 210 = .ok (.iconst 0, 1) := by decide +kernel
theorem dX_turn_211 : decode cX_turn 211 = .ok (.istore 5, 2) := by decide +kernel
theorem dX_turn_213 : decode cX_turn 213 = .ok (.iload 5, 2) := by decide +kernel
theorem dX_turn_215 : decode cX_turn 215 = .ok (.iconst 4, 1) := by decide +kernel
theorem dX_turn_216 : decode cX_turn 216 = .ok (.if_icmp .ge 119, 3) := by decide +kernel
theorem dX_turn_219 : decode cX_turn 219 = .ok (.aload_n 0, 1) := by decide +kernel
theorem dX_turn_220 : decode cX_turn 220 = .ok (.getfield 16, 3) := by decide +kernel
theorem dX_turn_223 : decode cX_turn 223 = .ok (.iconst 2, 1) := by decide +kernel
theorem dX_turn_224 : decode cX_turn 224 = .ok (.iload 5, 2) := by decide +kernel
theorem dX_turn_226 : decode cX_turn 226 = .ok (.iadd, 1) := by decide +kernel
theorem dX_turn_227 : decode cX_turn 227 = .ok (.baload, 1) := by decide +kernel
theorem dX_turn_228 : decode cX_turn 228 = .ok (.ifCond .ne 20, 3) := by decide +kernel
theorem dX_turn_231 : decode cX_turn 231 = .ok (.aload_n 0, 1) := by decide +kernel
theorem dX_turn_232 : decode cX_turn 232 = .ok (.getfield 16, 3) := by decide +kernel
theorem dX_turn_235 : decode cX_turn 235 = .ok (.bipush 6, 2) := by decide +kernel
theorem dX_turn_237 : decode cX_turn 237 = .ok (.iload 5, 2) := by decide +kernel
theorem dX_turn_239 : decode cX_turn 239 = .ok (.iadd, 1) := by decide +kernel
theorem dX_turn_240 : decode cX_turn 240 = .ok (.baload, 1) := by decide +kernel
theorem dX_turn_241 : decode cX_turn 241 = .ok (.ifCond .ne 7, 3) := by decide +kernel
theorem dX_turn_244 : decode cX_turn 244 = .ok (.iconst 1, 1) := by decide +kernel
theorem dX_turn_245 : decode cX_turn 245 = .ok (.goto 4, 3) := by decide +kernel
theorem dX_turn_248 : decode cX_turn 248 = .ok (.iconst 0, 1) := by decide +kernel
theorem dX_turn_249 : decode cX_turn 249 = .ok (.istore 6, 2) := by decide +kernel
theorem dX_turn_251 : decode cX_turn 251 = .ok (.iload 6, 2) := by decide +kernel
theorem dX_turn_253 : decode cX_turn 253 = .ok (.ifCond .eq 52, 3) := by decide +kernel
theorem dX_turn_256 : decode cX_turn 256 = .ok (.aload_n 0, 1) := by decide +kernel
theorem dX_turn_257 : decode cX_turn 257 = .ok (.getfield 19, 3) := by decide +kernel
theorem dX_turn_260 : decode cX_turn 260 = .ok (.iload 5, 2) := by decide +kernel
theorem dX_turn_262 : decode cX_turn 262 = .ok (.baload, 1) := by decide +kernel
theorem dX_turn_263 : decode cX_turn 263 = .ok (.ifCond .eq 42, 3) := by decide +kernel
theorem dX_turn_266 : decode cX_turn 266 = .ok (.aload_n 0, 1) := by decide +kernel
theorem dX_turn_267 : decode cX_turn 267 = .ok (.getfield 22, 3) := by decide +kernel
theorem dX_turn_270 : decode cX_turn 270 = .ok (.iload 5, 2) := by decide +kernel
theorem dX_turn_272 : decode cX_turn 272 = .ok (.baload, 1) := by decide +kernel
theorem dX_turn_273 : decode cX_turn 273 = .ok (.ifCond .eq 32, 3) := by decide +kernel
theorem dX_turn_276 : decode cX_turn 276 = .ok (.aload_n 0, 1) := by decide +kernel
theorem dX_turn_277 : decode cX_turn 277 = .ok (.getfield 25, 3) := by decide +kernel
theorem dX_turn_280 : decode cX_turn 280 = .ok (.iload 5, 2) := by decide +kernel
theorem dX_turn_282 : decode cX_turn 282 = .ok (.baload, 1) := by decide +kernel
theorem dX_turn_283 : decode cX_turn 283 = .ok (.ifCond .eq 22, 3) := by decide +kernel
theorem dX_turn_286 : decode cX_turn 286 = .ok (.iload_n 3, 1) := by decide +kernel
theorem dX_turn_287 : decode cX_turn 287 = .ok (.aload_n 0, 1) := by decide +kernel
theorem dX_turn_288 : decode cX_turn 288 = .ok (.getfield 78, 3) := by decide +kernel
theorem dX_turn_291 : decode cX_turn 291 = .ok (.iadd, 1) := by decide +kernel
theorem dX_turn_292 : decode cX_turn 292 = .ok (.istore_n 3, 1) := by decide +kernel
theorem dX_turn_293 : decode cX_turn 293 = .ok (.iload 4, 2) := by decide +kernel
theorem dX_turn_295 : decode cX_turn 295 = .ok (.aload_n 0, 1) := by decide +kernel
theorem dX_turn_296 : decode cX_turn 296 = .ok (.getfield 78, 3) := by decide +kernel
theorem dX_turn_299 : decode cX_turn 299 = .ok (.iadd, 1) := by decide +kernel
theorem dX_turn_300 : decode cX_turn 300 = .ok (.istore 4, 2) := by decide +kernel
theorem dX_turn_302 : decode cX_turn 302 = .ok (.goto 27, 3) := by decide +kernel
theorem dX_turn_305 : decode cX_turn 305 = .ok (.iload 6, 2) := by decide +kernel
theorem dX_turn_307 : decode cX_turn 307 = .ok (.ifCond .eq 13, 3) := by decide +kernel
theorem dX_turn_310 : decode cX_turn 310 = .ok (.aload_n 0, 1) := by decide +kernel
theorem dX_turn_311 : decode cX_turn 311 = .ok (.getfield 19, 3) := by decide +kernel
theorem dX_turn_314 : decode cX_turn 314 = .ok (.iload 5, 2) := by decide +kernel
theorem dX_turn_316 : decode cX_turn 316 = .ok (.baload, 1) := by decide +kernel
theorem dX_turn_317 : decode cX_turn 317 = .ok (.ifCond .eq 12, 3) := by decide +kernel
theorem dX_turn_320 : decode cX_turn 320 = .ok (.iload 4, 2) := by decide +kernel
theorem dX_turn_322 : decode cX_turn 322 = .ok (.aload_n 0, 1) := by decide +kernel
theorem dX_turn_323 : decode cX_turn 323 = .ok (.getfield 78, 3) := by decide +kernel
theorem dX_turn_326 : decode cX_turn 326 = .ok (.iadd, 1) := by decide +kernel
theorem dX_turn_327 : decode cX_turn 327 = .ok (.istore 4, 2) := by decide +kernel
theorem dX_turn_329 : decode cX_turn 329 = .ok (.iinc 5 1, 3) := by decide +kernel
theorem dX_turn_332 : decode cX_turn 332 = .ok (.goto (-119), 3) := by decide +kernel
theorem dX_turn_335 : decode cX_turn 335 = .ok (.iload_n 3, 1) := by decide +kernel
theorem dX_turn_336 : decode cX_turn 336 = .ok (.ifCond .ge 7, 3) := by decide +kernel
theorem dX_turn_339 : decode cX_turn 339 = .ok (.iconst 0, 1) := by decide +kernel
theorem dX_turn_340 : decode cX_turn 340 = .ok (.goto 19, 3) := by decide +kernel
theorem dX_turn_343 : decode cX_turn 343 = .ok (.iload_n 3, 1) := by decide +kernel
theorem dX_turn_344 : decode cX_turn 344 = .ok (.aload_n 0, 1) := by decide +kernel
theorem dX_turn_345 : decode cX_turn 345 = .ok (.getfield 54, 3) := by decide +kernel
theorem dX_turn_348 : decode cX_turn 348 = .ok (.if_icmp .le 10, 3) := by decide +kernel
theorem dX_turn_351 : decode cX_turn 351 = .ok (.aload_n 0, 1) := by decide +kernel
theorem dX_turn_352 : decode cX_turn 352 = .ok (.getfield 54, 3) := by decide +kernel
theorem dX_turn_355 : decode cX_turn 355 = .ok (.goto 4, 3) := by decide +kernel
theorem dX_turn_358 : decode cX_turn 358 = .ok (.iload_n 3, 1) := by decide +kernel
theorem dX_turn_359 : decode cX_turn 359 = .ok (.istore_n 3, 1) := by decide +kernel
theorem dX_turn_360 : decode cX_turn 360 = .ok (.iload 4, 2) := by decide +kernel
theorem dX_turn_362 : decode cX_turn 362 = .ok (.ifCond .ge 7, 3) := by decide +kernel
theorem dX_turn_365 : decode cX_turn 365 = .ok (.iconst 0, 1) := by decide +kernel
theorem dX_turn_366 : decode cX_turn 366 = .ok (.goto 21, 3) := by decide +kernel
theorem dX_turn_369 : decode cX_turn 369 = .ok (.iload 4, 2) := by decide +kernel
theorem dX_turn_371 : decode cX_turn 371 = .ok (.aload_n 0, 1) := by decide +kernel
theorem dX_turn_372 : decode cX_turn 372 = .ok (.getfield 54, 3) := by decide +kernel
theorem dX_turn_375 : decode cX_turn 375 = .ok (.if_icmp .le 10, 3) := by decide +kernel
theorem dX_turn_378 : decode cX_turn 378 = .ok (.aload_n 0, 1) := by decide +kernel
theorem dX_turn_379 : decode cX_turn 379 = .ok (.getfield 54, 3) := by decide +kernel
theorem dX_turn_382 : decode cX_turn 382 = .ok (.goto 5, 3) := by decide +kernel
theorem dX_turn_385 : decode cX_turn 385 = .ok (.iload 4, 2) := by decide +kernel
theorem dX_turn_387 : decode cX_turn 387 = .ok (.istore 4, 2) := by decide +kernel
theorem dX_turn_389 : decode cX_turn 389 = .ok (.aload_n 0, 1) := by decide +kernel
theorem dX_turn_390 : decode cX_turn 390 = .ok (.getfield 81, 3) := by decide +kernel
theorem dX_turn_393 : decode cX_turn 393 = .ok (.ifCond .ne 18, 3) := by decide +kernel
theorem dX_turn_396 : decode cX_turn 396 = .ok (.iconst 0, 1) := by decide +kernel
theorem dX_turn_397 : decode cX_turn 397 = .ok (.istore_n 1, 1) := by decide +kernel
theorem dX_turn_398 : decode cX_turn 398 = .ok (.aload_n 0, 1) := by decide +kernel
theorem dX_turn_399 : decode cX_turn 399 = .ok (.getfield 69, 3) := by decide +kernel
theorem dX_turn_402 : decode cX_turn 402 = .ok (.istore_n 2, 1) := by decide +kernel
theorem dX_turn_403 : decode cX_turn 403 = .ok (.iconst 0, 1) := by decide +kernel
theorem dX_turn_404 : decode cX_turn 404 = .ok (.istore_n 3, 1) := by decide +kernel
theorem dX_turn_405 : decode cX_turn 405 = .ok (.aload_n 0, 1) := by decide +kernel
theorem dX_turn_406 : decode cX_turn 406 = .ok (.getfield 54, 3) := by decide +kernel
theorem dX_turn_409 : decode cX_turn 409 = .ok (.istore 4, 2) := by decide +kernel
theorem dX_turn_411 : decode cX_turn 411 = .ok (.aload_n 0, 1) := by decide +kernel
theorem dX_turn_412 : decode cX_turn 412 = .ok (.getfield 81, 3) := by decide +kernel
theorem dX_turn_415 : decode cX_turn 415 = .ok (.ifCond .ne 7, 3) := by decide +kernel
theorem dX_turn_418 : decode cX_turn 418 = .ok (.iconst 1, 1) := by decide +kernel
theorem dX_turn_419 : decode cX_turn 419 = .ok (.goto 4, 3) := by decide +kernel
theorem dX_turn_422 : decode cX_turn 422 = .ok (.iconst 0, 1) := by decide +kernel
theorem dX_turn_423 : decode cX_turn 423 = .ok (.istore 5, 2) := by decide +kernel
theorem dX_turn_425 : decode cX_turn 425 = .ok (.aload_n 0, 1) := by decide +kernel
theorem dX_turn_426 : decode cX_turn 426 = .ok (.iconst 0, 1) := by decide +kernel
theorem dX_turn_427 : decode cX_turn 427 = .ok (.aload_n 0, 1) := by decide +kernel
theorem dX_turn_428 : decode cX_turn 428 = .ok (.getfield 155, 3) := by decide +kernel
theorem dX_turn_431 : decode cX_turn 431 = .ok (.iconst 0, 1) := by decide +kernel
theorem dX_turn_432 : decode cX_turn 432 = .ok (.aload_n 0, 1) := by decide +kernel
theorem dX_turn_433 : decode cX_turn 433 = .ok (.getfield 54, 3) := by decide +kernel
theorem dX_turn_436 : decode cX_turn 436 = .ok (.invokestatic 147, 3) := by decide +kernel
theorem dX_turn_439 : decode cX_turn 439 = .ok (.ifCond .eq 21, 3) := by decide +kernel
theorem dX_turn_442 : decode cX_turn 442 = .ok (.iload 5, 2) := by decide +kernel
theorem dX_turn_444 : decode cX_turn 444 = .ok (.ifCond .ne 20, 3) := by decide +kernel
theorem dX_turn_447 : decode cX_turn 447 = .ok (.aload_n 0, 1) := by decide +kernel
theorem dX_turn_448 : decode cX_turn 448 = .ok (.getfield 155, 3) := by decide +kernel
theorem dX_turn_451 : decode cX_turn 451 = .ok (.iload_n 3, 1) := by decide +kernel
theorem dX_turn_452 : decode cX_turn 452 = .ok (.iload 4, 2) := by decide +kernel
theorem dX_turn_454 : decode cX_turn 454 = .ok (.invokestatic 147, 3) := by decide +kernel
theorem dX_turn_457 : decode cX_turn 457 = .ok (.ifCond .ne 7, 3) := by decide +kernel
theorem dX_turn_460 : decode cX_turn 460 = .ok (.iconst 1, 1) := by decide +kernel
theorem dX_turn_461 : decode cX_turn 461 = .ok (.goto 4, 3) := by decide +kernel
theorem dX_turn_464 : decode cX_turn 464 = .ok (.iconst 0, 1) := by decide +kernel
theorem dX_turn_465 : decode cX_turn 465 = .ok (.invokevirtual 168, 3) := by decide +kernel
theorem dX_turn_468 : decode cX_turn 468 = .ok (.aload_n 0, 1) := by decide +kernel
theorem dX_turn_469 : decode cX_turn 469 = .ok (.iconst 1, 1) := by decide +kernel
theorem dX_turn_470 : decode cX_turn 470 = .ok (.aload_n 0, 1) := by decide +kernel
theorem dX_turn_471 : decode cX_turn 471 = .ok (.getfield 158, 3) := by decide +kernel
theorem dX_turn_474 : decode cX_turn 474 = .ok (.iconst 0, 1) := by decide +kernel
theorem dX_turn_475 : decode cX_turn 475 = .ok (.aload_n 0, 1) := by decide +kernel
theorem dX_turn_476 : decode cX_turn 476 = .ok (.getfield 69, 3) := by decide +kernel
theorem dX_turn_479 : decode cX_turn 479 = .ok (.invokestatic 147, 3) := by decide +kernel
theorem dX_turn_482 : decode cX_turn 482 = .ok (.ifCond .eq 20, 3) := by decide +kernel
theorem dX_turn_485 : decode cX_turn 485 = .ok (.iload 5, 2) := by decide +kernel
theorem dX_turn_487 : decode cX_turn 487 = .ok (.ifCond .ne 19, 3) := by decide +kernel
theorem dX_turn_490 : decode cX_turn 490 = .ok (.aload_n 0, 1) := by decide +kernel
theorem dX_turn_491 : decode cX_turn 491 = .ok (.getfield 158, 3) := by decide +kernel
theorem dX_turn_494 : decode cX_turn 494 = .ok (.iload_n 1, 1) := by decide +kernel
theorem dX_turn_495 : decode cX_turn 495 = .ok (.iload_n 2, 1) := by decide +kernel
theorem dX_turn_496 : decode cX_turn 496 = .ok (.invokestatic 147, 3) := by decide +kernel
theorem dX_turn_499 : decode cX_turn 499 = .ok (.ifCond .ne 7, 3) := by decide +kernel
theorem dX_turn_502 : decode cX_turn 502 = .ok (.iconst 1, 1) := by decide +kernel
theorem dX_turn_503 : decode cX_turn 503 = .ok (.goto 4, 3) := by decide +kernel
theorem dX_turn_506 : decode cX_turn 506 = .ok (.iconst 0, 1) := by decide +kernel
theorem dX_turn_507 : decode cX_turn 507 = .ok (.invokevirtual 168, 3) := by decide +kernel
theorem dX_turn_510 : decode cX_turn 510 = .ok (.iconst 0, 1) := by decide +kernel
theorem dX_turn_511 : decode cX_turn 511 = .ok (.istore 6, 2) := by decide +kernel
theorem dX_turn_513 : decode cX_turn 513 = .ok (.iload 6, 2) := by decide +kernel
theorem dX_turn_515 : decode cX_turn 515 = .ok (.iconst 4, 1) := by decide +kernel
theorem dX_turn_516 : decode cX_turn 516 = .ok (.if_icmp .ge 39, 3) := by decide +kernel
theorem dX_turn_519 : decode cX_turn 519 = .ok (.aload_n 0, 1) := by decide +kernel
theorem dX_turn_520 : decode cX_turn 520 = .ok (.iconst 2, 1) := by decide +kernel
theorem dX_turn_521 : decode cX_turn 521 = .ok (.iload 6, 2) := by decide +kernel
theorem dX_turn_523 : decode cX_turn 523 = .ok (.iadd, 1) := by decide +kernel
theorem dX_turn_524 : decode cX_turn 524 = .ok (.aload_n 0, 1) := by decide +kernel
theorem dX_turn_525 : decode cX_turn 525 = .ok (.getfield 31, 3) := by decide +kernel
theorem dX_turn_528 : decode cX_turn 528 = .ok (.iload 6, 2) := by decide +kernel
theorem dX_turn_530 : decode cX_turn 530 = .ok (.baload, 1) := by decide +kernel
theorem dX_turn_531 : decode cX_turn 531 = .ok (.aload_n 0, 1) := by decide +kernel
theorem dX_turn_532 : decode cX_turn 532 = .ok (.getfield 19, 3) := by decide +kernel
theorem dX_turn_535 : decode cX_turn 535 = .ok (.iload 6, 2) := by decide +kernel
theorem dX_turn_537 : decode cX_turn 537 = .ok (.baload, 1) := by decide +kernel
theorem dX_turn_538 : decode cX_turn 538 = .ok (.if_icmp .eq 7, 3) := by decide +kernel
theorem dX_turn_541 : decode cX_turn 541 = .ok (.iconst 1, 1) := by decide +kernel
theorem dX_turn_542 : decode cX_turn 542 = .ok (.goto 4, 3) := by decide +kernel
theorem dX_turn_545 : decode cX_turn 545 = .ok (.iconst 0, 1) := by decide +kernel
theorem dX_turn_546 : decode cX_turn 546 = .ok (.invokevirtual 168, 3) := by decide +kernel
theorem dX_turn_549 : decode cX_turn 549 = .ok (.iinc 6 1, 3) := by decide +kernel
theorem dX_turn_552 : decode cX_turn 552 = .ok (.goto (-39), 3) := by decide +kernel
theorem dX_turn_555 : decode cX_turn 555 = .ok (.iconst 0, 1) := by decide +kernel
theorem dX_turn_556 : decode cX_turn 556 = .ok (.istore 6, 2) := by decide +kernel
theorem dX_turn_558 : decode cX_turn 558 = .ok (.iload 6, 2) := by decide +kernel
theorem dX_turn_560 : decode cX_turn 560 = .ok (.iconst 4, 1) := by decide +kernel
theorem dX_turn_561 : decode cX_turn 561 = .ok (.if_icmp .ge 83, 3) := by decide +kernel
theorem dX_turn_564 : decode cX_turn 564 = .ok (.aload_n 0, 1) := by decide +kernel
theorem dX_turn_565 : decode cX_turn 565 = .ok (.getfield 7, 3) := by decide +kernel
theorem dX_turn_568 : decode cX_turn 568 = .ok (.iconst 2, 1) := by decide +kernel
theorem dX_turn_569 : decode cX_turn 569 = .ok (.iload 6, 2) := by decide +kernel
theorem dX_turn_571 : decode cX_turn 571 = .ok (.iadd, 1) := by decide +kernel
theorem dX_turn_572 : decode cX_turn 572 = .ok (.baload, 1) := by decide +kernel
theorem dX_turn_573 : decode cX_turn 573 = .ok (.ifCond .ne 65, 3) := by decide +kernel
theorem dX_turn_576 : decode cX_turn 576 = .ok (.aload_n 0, 1) := by decide +kernel
theorem dX_turn_577 : decode cX_turn 577 = .ok (.bipush 6, 2) := by decide +kernel
theorem dX_turn_579 : decode cX_turn 579 = .ok (.iload 6, 2) := by decide +kernel
theorem dX_turn_581 : decode cX_turn 581 = .ok (.iadd, 1) := by decide +kernel
theorem dX_turn_582 : decode cX_turn 582 = .ok (.aload_n 0, 1) := by decide +kernel
theorem dX_turn_583 : decode cX_turn 583 = .ok (.getfield 34, 3) := by decide +kernel
theorem dX_turn_586 : decode cX_turn 586 = .ok (.iload 6, 2) := by decide +kernel
theorem dX_turn_588 : decode cX_turn 588 = .ok (.baload, 1) := by decide +kernel
theorem dX_turn_589 : decode cX_turn 589 = .ok (.ifCond .eq 21, 3) := by decide +kernel
theorem dX_turn_592 : decode cX_turn 592 = .ok (.aload_n 0, 1) := by decide +kernel
theorem dX_turn_593 : decode cX_turn 593 = .ok (.getfield 19, 3) := by decide +kernel
theorem dX_turn_596 : decode cX_turn 596 = .ok (.iload 6, 2) := by decide +kernel
theorem dX_turn_598 : decode cX_turn 598 = .ok (.baload, 1) := by decide +kernel
theorem dX_turn_599 : decode cX_turn 599 = .ok (.ifCond .ne 7, 3) := by decide +kernel
theorem dX_turn_602 : decode cX_turn 602 = .ok (.iconst 1, 1) := by decide +kernel
theorem dX_turn_603 : decode cX_turn 603 = .ok (.goto 32, 3) := by decide +kernel
theorem dX_turn_606 : decode cX_turn 606 = .ok (.iconst 0, 1) := by decide +kernel
theorem dX_turn_607 : decode cX_turn 607 = .ok (.goto 28, 3) := by decide +kernel
theorem dX_turn_610 : decode cX_turn 610 = .ok (.aload_n 0, 1) := by decide +kernel
theorem dX_turn_611 : decode cX_turn 611 = .ok (.getfield 19, 3) := by decide +kernel
theorem dX_turn_614 : decode cX_turn 614 = .ok (.iload 6, 2) := by decide +kernel
theorem dX_turn_616 : decode cX_turn 616 = .ok (.baload, 1) := by decide +kernel
theorem dX_turn_617 : decode cX_turn 617 = .ok (.ifCond .eq 17, 3) := by decide +kernel
theorem dX_turn_620 : decode cX_turn 620 = .ok (.aload_n 0, 1) := by decide +kernel
theorem dX_turn_621 : decode cX_turn 621 = .ok (.getfield 22, 3) := by decide +kernel
theorem dX_turn_624 : decode cX_turn 624 = .ok (.iload 6, 2) := by decide +kernel
theorem dX_turn_626 : decode cX_turn 626 = .ok (.baload, 1) := by decide +kernel
theorem dX_turn_627 : decode cX_turn 627 = .ok (.ifCond .eq 7, 3) := by decide +kernel
theorem dX_turn_630 : decode cX_turn 630 = .ok (.iconst 1, 1) := by decide +kernel
theorem dX_turn_631 : decode cX_turn 631 = .ok (.goto 4, 3) := by decide +kernel
theorem dX_turn_634 : decode cX_turn 634 = .ok (.iconst 0, 1) := by decide +kernel
theorem dX_turn_635 : decode cX_turn 635 = .ok (.invokevirtual 168, 3) := by decide +kernel
theorem dX_turn_638 : decode cX_turn 638 = .ok (.iinc 6 1, 3) := by decide +kernel
theorem dX_turn_641 : decode cX_turn 641 = .ok (.goto (-83), 3) := by decide +kernel
theorem dX_turn_644 : decode cX_turn 644 = .ok (.aload_n 0, 1) := by decide +kernel
theorem dX_turn_645 : decode cX_turn 645 = .ok (.aload_n 0, 1) := by decide +kernel
theorem dX_turn_646 : decode cX_turn 646 = .ok (.getfield 7, 3) := by decide +kernel
theorem dX_turn_649 : decode cX_turn 649 = .ok (.iconst 0, 1) := by decide +kernel
theorem dX_turn_650 : decode cX_turn 650 = .ok (.baload, 1) := by decide +kernel
theorem dX_turn_651 : decode cX_turn 651 = .ok (.ifCond .eq 7, 3) := by decide +kernel
theorem dX_turn_654 : decode cX_turn 654 = .ok (.iload_n 3, 1) := by decide +kernel
theorem dX_turn_655 : decode cX_turn 655 = .ok (.goto 7, 3) := by decide +kernel
theorem dX_turn_658 : decode cX_turn 658 = .ok (.aload_n 0, 1) := by decide +kernel
theorem dX_turn_659 : decode cX_turn 659 = .ok (.getfield 155, 3) := by decide +kernel
theorem dX_turn_662 : decode cX_turn 662 = .ok (.putfield 87, 3) := by decide +kernel
theorem dX_turn_665 : decode cX_turn 665 = .ok (.aload_n 0, 1) := by decide +kernel
theorem dX_turn_666 : decode cX_turn 666 = .ok (.aload_n 0, 1) := by decide +kernel
theorem dX_turn_667 : decode cX_turn 667 = .ok (.getfield 7, 3) := by decide +kernel
theorem dX_turn_670 : decode cX_turn 670 = .ok (.iconst 0, 1) := by decide +kernel
theorem dX_turn_671 : decode cX_turn 671 = .ok (.baload, 1) := by decide +kernel
theorem dX_turn_672 : decode cX_turn 672 = .ok (.ifCond .eq 8, 3) := by decide +kernel
theorem dX_turn_675 : decode cX_turn 675 = .ok (.iload 4, 2) := by decide +kernel
theorem dX_turn_677 : decode cX_turn 677 = .ok (.goto 7, 3) := by decide +kernel
theorem dX_turn_680 : decode cX_turn 680 = .ok (.aload_n 0, 1) := by decide +kernel
theorem dX_turn_681 : decode cX_turn 681 = .ok (.getfield 155, 3) := by decide +kernel
theorem dX_turn_684 : decode cX_turn 684 = .ok (.putfield 90, 3) := by decide +kernel
theorem dX_turn_687 : decode cX_turn 687 = .ok (.aload_n 0, 1) := by decide +kernel
theorem dX_turn_688 : decode cX_turn 688 = .ok (.aload_n 0, 1) := by decide +kernel
theorem dX_turn_689 : decode cX_turn 689 = .ok (.getfield 7, 3) := by decide +kernel
theorem dX_turn_692 : decode cX_turn 692 = .ok (.iconst 1, 1) := by decide +kernel
theorem dX_turn_693 : decode cX_turn 693 = .ok (.baload, 1) := by decide +kernel
theorem dX_turn_694 : decode cX_turn 694 = .ok (.ifCond .eq 7, 3) := by decide +kernel
theorem dX_turn_697 : decode cX_turn 697 = .ok (.iload_n 1, 1) := by decide +kernel
theorem dX_turn_698 : decode cX_turn 698 = .ok (.goto 7, 3) := by decide +kernel
theorem dX_turn_701 : decode cX_turn 701 = .ok (.aload_n 0, 1) := by decide +kernel
theorem dX_turn_702 : decode cX_turn 702 = .ok (.getfield 158, 3) := by decide +kernel
theorem dX_turn_705 : decode cX_turn 705 = .ok (.putfield 93, 3) := by decide +kernel
theorem dX_turn_708 : decode cX_turn 708 = .ok (.aload_n 0, 1) := by decide +kernel
theorem dX_turn_709 : decode cX_turn 709 = .ok (.aload_n 0, 1) := by decide +kernel
theorem dX_turn_710 : decode cX_turn 710 = .ok (.getfield 7, 3) := by decide +kernel
theorem dX_turn_713 : decode cX_turn 713 = .ok (.iconst 1, 1) := by decide +kernel
theorem dX_turn_714 : decode cX_turn 714 = .ok (.baload, 1) := by decide +kernel
theorem dX_turn_715 : decode cX_turn 715 = .ok (.ifCond .eq 7, 3) := by decide +kernel
theorem dX_turn_718 : decode cX_turn 718 = .ok (.iload_n 2, 1) := by decide +kernel
theorem dX_turn_719 : decode cX_turn 719 = .ok (.goto 7, 3) := by decide +kernel
theorem dX_turn_722 : decode cX_turn 722 = .ok (.aload_n 0, 1) := by decide +kernel
theorem dX_turn_723 : decode cX_turn 723 = .ok (.getfield 158, 3) := by decide +kernel
theorem dX_turn_726 : decode cX_turn 726 = .ok (.putfield 96, 3) := by decide +kernel
theorem dX_turn_729 : decode cX_turn 729 = .ok (.aload_n 0, 1) := by decide +kernel
theorem dX_turn_730 : decode cX_turn 730 = .ok (.dup, 1) := by decide +kernel
theorem dX_turn_731 : decode cX_turn 731 = .ok (.getfield 106, 3) := by decide +kernel
theorem dX_turn_734 : decode cX_turn 734 = .ok (.aload_n 0, 1) := by decide +kernel
theorem dX_turn_735 : decode cX_turn 735 = .ok (.getfield 121, 3) := by decide +kernel
theorem dX_turn_738 : decode cX_turn 738 = .ok (.ior, 1) := by decide +kernel
theorem dX_turn_739 : decode cX_turn 739 = .ok (.putfield 106, 3) := by decide +kernel
theorem dX_turn_742 : decode cX_turn 742 = .ok (.iload 5, 2) := by decide +kernel
theorem dX_turn_744 : decode cX_turn 744 = .ok (.ifCond .eq 13, 3) := by decide +kernel
theorem dX_turn_747 : decode cX_turn 747 = .ok (.aload_n 0, 1) := by decide +kernel
theorem dX_turn_748 : decode cX_turn 748 = .ok (.invokevirtual 172, 3) := by decide +kernel
theorem dX_turn_751 : decode cX_turn 751 = .ok (.ifCond .ne 15, 3) := by decide +kernel
theorem dX_turn_754 : decode cX_turn 754 = .ok (.goto 10, 3) := by decide +kernel
theorem dX_turn_757 : decode cX_turn 757 = .ok (.aload_n 0, 1) := by decide +kernel
theorem dX_turn_758 : decode cX_turn 758 = .ok (.invokevirtual 175, 3) := by decide +kernel
theorem dX_turn_761 : decode cX_turn 761 = .ok (.ifCond .ne 5, 3) := by decide +kernel
theorem dX_turn_764 : decode cX_turn 764 = .ok (.iconst 0, 1) := by decide +kernel
theorem dX_turn_765 : decode cX_turn 765 = .ok (.ireturn, 1) := by decide +kernel
theorem dX_turn_766 : decode cX_turn 766 = .ok (.aload_n 0, 1) := by decide +kernel
theorem dX_turn_767 : decode cX_turn 767 = .ok (.invokevirtual 178, 3) := by decide +kernel
theorem dX_turn_770 : decode cX_turn 770 = .ok (.iconst 1, 1) := by decide +kernel
theorem dX_turn_771 : decode cX_turn 771 = .ok (.ireturn, 1) := by decide +kernel
theorem dX_find_0 : decode cX_find 0 = .ok (.iload_n 2, 1) := by decide +kernel
theorem dX_find_1 : decode cX_find 1 = .ok (.ifCond .eq 12, 3) := by decide +kernel
theorem dX_find_4 : decode cX_find 4 = .ok (.aload_n 0, 1) := by decide +kernel
theorem dX_find_5 : decode cX_find 5 = .ok (.getfield 7, 3) := by decide +kernel
theorem dX_find_8 : decode cX_find 8 = .ok (.iload_n 1, 1) := by decide +kernel
theorem dX_find_9 : decode cX_find 9 = .ok (.baload, 1) := by decide +kernel
theorem dX_find_10 : decode cX_find 10 = .ok (.ifCond .eq 4, 3) := by decide +kernel
theorem dX_find_13 : decode cX_find 13 = .ok (.return_, 1) := by decide +kernel
theorem dX_find_14 : decode cX_find 14 = .ok (.aload_n 0, 1) := by decide +kernel
theorem dX_find_15 : decode cX_find 15 = .ok (.getfield 7, 3) := by decide +kernel
theorem dX_find_18 : decode cX_find 18 = .ok (.iload_n 1, 1) := by decide +kernel
theorem dX_find_19 : decode cX_find 19 = .ok (.iconst 1, 1) := by decide +kernel
theorem dX_find_20 : decode cX_find 20 = .ok (.bastore, 1) := by decide +kernel
theorem dX_find_21 : decode cX_find 21 = .ok (.aload_n 0, 1) := by decide +kernel
theorem dX_find_22 : decode cX_find 22 = .ok (.getfield 13, 3) := by decide +kernel
theorem dX_find_25 : decode cX_find 25 = .ok (.iload_n 1, 1) := by decide +kernel
theorem dX_find_26 : decode cX_find 26 = .ok (.iconst 0, 1) := by decide +kernel
theorem dX_find_27 : decode cX_find 27 = .ok (.bastore, 1) := by decide +kernel
theorem dX_find_28 : decode cX_find 28 = .ok (.aload_n 0, 1) := by decide +kernel
theorem dX_find_29 : decode cX_find 29 = .ok (.dup, 1) := by decide +kernel
theorem dX_find_30 : decode cX_find 30 = .ok (.getfield 130, 3) := by decide +kernel
theorem dX_find_33 : decode cX_find 33 = .ok (.iconst 1, 1) := by decide +kernel
theorem dX_find_34 : decode cX_find 34 = .ok (.iload_n 1, 1) := by decide +kernel
theorem dX_find_35 : decode cX_find 35 = .ok (.ishl, 1) := by decide +kernel
theorem dX_find_36 : decode cX_find 36 = .ok (.ior, 1) := by decide +kernel
theorem dX_find_37 : decode cX_find 37 = .ok (.putfield 130, 3) := by decide +kernel
theorem dX_find_40 : decode cX_find 40 = .ok (.return_, 1) := by decide +kernel
theorem dX_units_0 : decode cX_units 0 = .ok (.iconst 0, 1) := by decide +kernel
theorem dX_units_1 : decode cX_units 1 = .ok (.istore_n 1, 1) := by decide +kernel
theorem dX_units_2 : decode cX_units 2 = .ok (.iload_n 1, 1) := by decide +kernel
theorem dX_units_3 : decode cX_units 3 = .ok (.bipush 10, 2) := by decide +kernel
theorem dX_units_5 : decode cX_units 5 = .ok (.if_icmp .ge 68, 3) := by decide +kernel
theorem dX_units_8 : decode cX_units 8 = .ok (.aload_n 0, 1) := by decide +kernel
theorem dX_units_9 : decode cX_units 9 = .ok (.getfield 37, 3) := by decide +kernel
theorem dX_units_12 : decode cX_units 12 = .ok (.iload_n 1, 1) := by decide +kernel
theorem dX_units_13 : decode cX_units 13 = .ok (.baload, 1) := by decide +kernel
theorem dX_units_14 : decode cX_units 14 = .ok (.ifCond .ne 6, 3) := by decide +kernel
theorem dX_units_17 : decode cX_units 17 = .ok (.goto 50, 3) := by decide +kernel
theorem dX_units_20 : decode cX_units 20 = .ok (.aload_n 0, 1) := by decide +kernel
theorem dX_units_21 : decode cX_units 21 = .ok (.getfield 7, 3) := by decide +kernel
theorem dX_units_24 : decode cX_units 24 = .ok (.iload_n 1, 1) := by decide +kernel
theorem dX_units_25 : decode cX_units 25 = .ok (.baload, 1) := by decide +kernel
theorem dX_units_26 : decode cX_units 26 = .ok (.ifCond .eq 32, 3) := by decide +kernel
theorem dX_units_29 : decode cX_units 29 = .ok (.aload_n 0, 1) := by decide +kernel
theorem dX_units_30 : decode cX_units 30 = .ok (.getfield 7, 3) := by decide +kernel
theorem dX_units_33 : decode cX_units 33 = .ok (.iload_n 1, 1) := by decide +kernel
theorem dX_units_34 : decode cX_units 34 = .ok (.iconst 0, 1) := by decide +kernel
theorem dX_units_35 : decode cX_units 35 = .ok (.bastore, 1) := by decide +kernel
theorem dX_units_36 : decode cX_units 36 = .ok (.aload_n 0, 1) := by decide +kernel
theorem dX_units_37 : decode cX_units 37 = .ok (.getfield 13, 3) := by decide +kernel
theorem dX_units_40 : decode cX_units 40 = .ok (.iload_n 1, 1) := by decide +kernel
theorem dX_units_41 : decode cX_units 41 = .ok (.iconst 0, 1) := by decide +kernel
theorem dX_units_42 : decode cX_units 42 = .ok (.bastore, 1) := by decide +kernel
theorem dX_units_43 : decode cX_units 43 = .ok (.aload_n 0, 1) := by decide +kernel
theorem dX_units_44 : decode cX_units 44 = .ok (.dup, 1) := by decide +kernel
theorem dX_units_45 : decode cX_units 45 = .ok (.getfield 133, 3) := by decide +kernel
theorem dX_units_48 : decode cX_units 48 = .ok (.iconst 1, 1) := by decide +kernel
theorem dX_units_49 : decode cX_units 49 = .ok (.iload_n 1, 1) := by decide +kernel
theorem dX_units_50 : decode cX_units 50 = .ok (.ishl, 1) := by decide +kernel
theorem dX_units_51 : decode cX_units 51 = .ok (.ior, 1) := by decide +kernel
theorem dX_units_52 : decode cX_units 52 = .ok (.putfield 133, 3) := by decide +kernel
theorem dX_units_55 : decode cX_units 55 = .ok (.goto 12, 3) := by decide +kernel
theorem dX_units_58 : decode cX_units 58 = .ok (.aload_n 0, 1) := by decide +kernel
theorem dX_units_59 : decode cX_units 59 = .ok (.getfield 81, 3) := by decide +kernel
theorem dX_units_62 : decode cX_units 62 = .ok (.ifCond .eq 5, 3) := by decide +kernel
theorem dX_units_65 : decode cX_units 65 = .ok (.iconst 0, 1) := by decide +kernel
theorem dX_units_66 : decode cX_units 66 = .ok (.ireturn, 1) := by decide +kernel
theorem dX_units_67 : decode cX_units 67 = .ok (.iinc 1 1, 3) := by decide +kernel
theorem dX_units_70 : decode cX_units 70 = .ok (.goto (-68), 3) := by decide +kernel
theorem dX_units_73 : decode cX_units 73 = .ok (.iconst 0, 1) := by decide +kernel
theorem dX_units_74 : decode cX_units 74 = .ok (.istore_n 1, 1) := by decide +kernel
theorem dX_units_75 : decode cX_units 75 = .ok (.iload_n 1, 1) := by decide +kernel
theorem dX_units_76 : decode cX_units 76 = .ok (.bipush 10, 2) := by decide +kernel
theorem dX_units_78 : decode cX_units 78 = .ok (.if_icmp .ge 58, 3) := by decide +kernel
theorem dX_units_81 : decode cX_units 81 = .ok (.aload_n 0, 1) := by decide +kernel
theorem dX_units_82 : decode cX_units 82 = .ok (.getfield 40, 3) := by decide +kernel
theorem dX_units_85 : decode cX_units 85 = .ok (.iload_n 1, 1) := by decide +kernel
theorem dX_units_86 : decode cX_units 86 = .ok (.baload, 1) := by decide +kernel
theorem dX_units_87 : decode cX_units 87 = .ok (.ifCond .ne 6, 3) := by decide +kernel
theorem dX_units_90 : decode cX_units 90 = .ok (.goto 40, 3) := by decide +kernel
theorem dX_units_93 : decode cX_units 93 = .ok (.aload_n 0, 1) := by decide +kernel
theorem dX_units_94 : decode cX_units 94 = .ok (.getfield 7, 3) := by decide +kernel
theorem dX_units_97 : decode cX_units 97 = .ok (.iload_n 1, 1) := by decide +kernel
theorem dX_units_98 : decode cX_units 98 = .ok (.baload, 1) := by decide +kernel
theorem dX_units_99 : decode cX_units 99 = .ok (.ifCond .eq 22, 3) := by decide +kernel
theorem dX_units_102 : decode cX_units 102 = .ok (.aload_n 0, 1) := by decide +kernel
theorem dX_units_103 : decode cX_units 103 = .ok (.getfield 13, 3) := by decide +kernel
theorem dX_units_106 : decode cX_units 106 = .ok (.iload_n 1, 1) := by decide +kernel
theorem dX_units_107 : decode cX_units 107 = .ok (.baload, 1) := by decide +kernel
theorem dX_units_108 : decode cX_units 108 = .ok (.ifCond .ne 13, 3) := by decide +kernel
theorem dX_units_111 : decode cX_units 111 = .ok (.aload_n 0, 1) := by decide +kernel
end
section
theorem dX_units_112 : decode cX_units 112 = .ok (.getfield 13, 3) := by decide +kernel
theorem dX_units_115 : decode cX_units 115 = .ok (.iload_n 1, 1) := by decide +kernel
theorem dX_units_116 : decode cX_units 116 = .ok (.iconst 1, 1) := by decide +kernel
theorem dX_units_117 : decode cX_units 117 = .ok (.bastore, 1) := by decide +kernel
theorem dX_units_118 : decode cX_units 118 = .ok (.goto 12, 3) := by decide +kernel
theorem dX_units_121 : decode cX_units 121 = .ok (.aload_n 0, 1) := by decide +kernel
theorem dX_units_122 : decode cX_units 122 = .ok (.getfield 81, 3) := by decide +kernel
theorem dX_units_125 : decode cX_units 125 = .ok (.ifCond .eq 5, 3) := by decide +kernel
theorem dX_units_128 : decode cX_units 128 = .ok (.iconst 0, 1) := by decide +kernel
theorem dX_units_129 : decode cX_units 129 = .ok (.ireturn, 1) := by decide +kernel
theorem dX_units_130 : decode cX_units 130 = .ok (.iinc 1 1, 3) := by decide +kernel
theorem dX_units_133 : decode cX_units 133 = .ok (.goto (-58), 3) := by decide +kernel
theorem dX_units_136 : decode cX_units 136 = .ok (.iconst 1, 1) := by decide +kernel
theorem dX_units_137 : decode cX_units 137 = .ok (.ireturn, 1) := by decide +kernel
theorem dX_some_0 : decode cX_some 0 = .ok (.iload_n 1, 1) := by decide +kernel
theorem dX_some_1 : decode cX_some 1 = .ok (.istore_n 3, 1) := by decide +kernel
theorem dX_some_2 : decode cX_some 2 = .ok (.iload_n 3, 1) := by decide +kernel
theorem dX_some_3 : decode cX_some 3 = .ok (.iload_n 2, 1) := by decide +kernel
theorem dX_some_4 : decode cX_some 4 = .ok (.if_icmp .gt 20, 3) := by decide +kernel
theorem dX_some_7 : decode cX_some 7 = .ok (.aload_n 0, 1) := by decide +kernel
theorem dX_some_8 : decode cX_some 8 = .ok (.getfield 7, 3) := by decide +kernel
theorem dX_some_11 : decode cX_some 11 = .ok (.iload_n 3, 1) := by decide +kernel
theorem dX_some_12 : decode cX_some 12 = .ok (.baload, 1) := by decide +kernel
theorem dX_some_13 : decode cX_some 13 = .ok (.ifCond .eq 5, 3) := by decide +kernel
theorem dX_some_16 : decode cX_some 16 = .ok (.iconst 1, 1) := by decide +kernel
theorem dX_some_17 : decode cX_some 17 = .ok (.ireturn, 1) := by decide +kernel
theorem dX_some_18 : decode cX_some 18 = .ok (.iinc 3 1, 3) := by decide +kernel
theorem dX_some_21 : decode cX_some 21 = .ok (.goto (-19), 3) := by decide +kernel
theorem dX_some_24 : decode cX_some 24 = .ok (.iconst 0, 1) := by decide +kernel
theorem dX_some_25 : decode cX_some 25 = .ok (.ireturn, 1) := by decide +kernel
theorem dX_first_0 : decode cX_first 0 = .ok (.aload_n 0, 1) := by decide +kernel
theorem dX_first_1 : decode cX_first 1 = .ok (.getfield 7, 3) := by decide +kernel
theorem dX_first_4 : decode cX_first 4 = .ok (.iconst 0, 1) := by decide +kernel
theorem dX_first_5 : decode cX_first 5 = .ok (.baload, 1) := by decide +kernel
theorem dX_first_6 : decode cX_first 6 = .ok (.ifCond .ne 12, 3) := by decide +kernel
theorem dX_first_9 : decode cX_first 9 = .ok (.aload_n 0, 1) := by decide +kernel
theorem dX_first_10 : decode cX_first 10 = .ok (.getfield 7, 3) := by decide +kernel
theorem dX_first_13 : decode cX_first 13 = .ok (.iconst 1, 1) := by decide +kernel
theorem dX_first_14 : decode cX_first 14 = .ok (.baload, 1) := by decide +kernel
theorem dX_first_15 : decode cX_first 15 = .ok (.ifCond .eq 5, 3) := by decide +kernel
theorem dX_first_18 : decode cX_first 18 = .ok (.iconst 0, 1) := by decide +kernel
theorem dX_first_19 : decode cX_first 19 = .ok (.ireturn, 1) := by decide +kernel
theorem dX_first_20 : decode cX_first 20 = .ok (.aload_n 0, 1) := by decide +kernel
theorem dX_first_21 : decode cX_first 21 = .ok (.getfield 106, 3) := by decide +kernel
theorem dX_first_24 : decode cX_first 24 = .ok (.ifCond .ne 16, 3) := by decide +kernel
theorem dX_first_27 : decode cX_first 27 = .ok (.aload_n 0, 1) := by decide +kernel
theorem dX_first_28 : decode cX_first 28 = .ok (.getfield 124, 3) := by decide +kernel
theorem dX_first_31 : decode cX_first 31 = .ok (.ifCond .ne 7, 3) := by decide +kernel
theorem dX_first_34 : decode cX_first 34 = .ok (.iconst 1, 1) := by decide +kernel
theorem dX_first_35 : decode cX_first 35 = .ok (.goto 4, 3) := by decide +kernel
theorem dX_first_38 : decode cX_first 38 = .ok (.iconst 0, 1) := by decide +kernel
theorem dX_first_39 : decode cX_first 39 = .ok (.ireturn, 1) := by decide +kernel
theorem dX_first_40 : decode cX_first 40 = .ok (.aload_n 0, 1) := by decide +kernel
theorem dX_first_41 : decode cX_first 41 = .ok (.getfield 158, 3) := by decide +kernel
theorem dX_first_44 : decode cX_first 44 = .ok (.ifCond .eq 5, 3) := by decide +kernel
theorem dX_first_47 : decode cX_first 47 = .ok (.iconst 0, 1) := by decide +kernel
theorem dX_first_48 : decode cX_first 48 = .ok (.ireturn, 1) := by decide +kernel
theorem dX_first_49 : decode cX_first 49 = .ok (.aload_n 0, 1) := by decide +kernel
theorem dX_first_50 : decode cX_first 50 = .ok (.getfield 124, 3) := by decide +kernel
theorem dX_first_53 : decode cX_first 53 = .ok (.ifCond .ne 5, 3) := by decide +kernel
theorem dX_first_56 : decode cX_first 56 = .ok (.iconst 1, 1) := by decide +kernel
theorem dX_first_57 : decode cX_first 57 = .ok (.ireturn, 1) := by decide +kernel
theorem dX_first_58 : decode cX_first 58 = .ok (.aload_n 0, 1) := by decide +kernel
theorem dX_first_59 : decode cX_first 59 = .ok (.getfield 155, 3) := by decide +kernel
theorem dX_first_62 : decode cX_first 62 = .ok (.aload_n 0, 1) := by decide +kernel
theorem dX_first_63 : decode cX_first 63 = .ok (.getfield 60, 3) := by decide +kernel
theorem dX_first_66 : decode cX_first 66 = .ok (.aload_n 0, 1) := by decide +kernel
theorem dX_first_67 : decode cX_first 67 = .ok (.getfield 63, 3) := by decide +kernel
theorem dX_first_70 : decode cX_first 70 = .ok (.invokestatic 147, 3) := by decide +kernel
theorem dX_first_73 : decode cX_first 73 = .ok (.ifCond .ne 5, 3) := by decide +kernel
theorem dX_first_76 : decode cX_first 76 = .ok (.iconst 0, 1) := by decide +kernel
theorem dX_first_77 : decode cX_first 77 = .ok (.ireturn, 1) := by decide +kernel
theorem dX_first_78 : decode cX_first 78 = .ok (.aload_n 0, 1) := by decide +kernel
theorem dX_first_79 : decode cX_first 79 = .ok (.aload_n 0, 1) := by decide +kernel
theorem dX_first_80 : decode cX_first 80 = .ok (.iconst 0, 1) := by decide +kernel
theorem dX_first_81 : decode cX_first 81 = .ok (.bipush 9, 2) := by decide +kernel
theorem dX_first_83 : decode cX_first 83 = .ok (.invokevirtual 181, 3) := by decide +kernel
theorem dX_first_86 : decode cX_first 86 = .ok (.ifCond .eq 7, 3) := by decide +kernel
theorem dX_first_89 : decode cX_first 89 = .ok (.iconst 2, 1) := by decide +kernel
theorem dX_first_90 : decode cX_first 90 = .ok (.goto 4, 3) := by decide +kernel
theorem dX_first_93 : decode cX_first 93 = .ok (.iconst 1, 1) := by decide +kernel
theorem dX_first_94 : decode cX_first 94 = .ok (.putfield 81, 3) := by decide +kernel
theorem dX_first_97 : decode cX_first 97 = .ok (.iconst 1, 1) := by decide +kernel
theorem dX_first_98 : decode cX_first 98 = .ok (.ireturn, 1) := by decide +kernel
theorem dX_others_0 : decode cX_others 0 = .ok (.aload_n 0, 1) := by decide +kernel
theorem dX_others_1 : decode cX_others 1 = .ok (.getfield 87, 3) := by decide +kernel
theorem dX_others_4 : decode cX_others 4 = .ok (.aload_n 0, 1) := by decide +kernel
theorem dX_others_5 : decode cX_others 5 = .ok (.getfield 57, 3) := by decide +kernel
theorem dX_others_8 : decode cX_others 8 = .ok (.if_icmp .le 14, 3) := by decide +kernel
theorem dX_others_11 : decode cX_others 11 = .ok (.aload_n 0, 1) := by decide +kernel
theorem dX_others_12 : decode cX_others 12 = .ok (.getfield 90, 3) := by decide +kernel
theorem dX_others_15 : decode cX_others 15 = .ok (.aload_n 0, 1) := by decide +kernel
theorem dX_others_16 : decode cX_others 16 = .ok (.getfield 66, 3) := by decide +kernel
theorem dX_others_19 : decode cX_others 19 = .ok (.if_icmp .lt 5, 3) := by decide +kernel
theorem dX_others_22 : decode cX_others 22 = .ok (.iconst 0, 1) := by decide +kernel
theorem dX_others_23 : decode cX_others 23 = .ok (.ireturn, 1) := by decide +kernel
theorem dX_others_24 : decode cX_others 24 = .ok (.aload_n 0, 1) := by decide +kernel
theorem dX_others_25 : decode cX_others 25 = .ok (.getfield 7, 3) := by decide +kernel
theorem dX_others_28 : decode cX_others 28 = .ok (.iconst 0, 1) := by decide +kernel
theorem dX_others_29 : decode cX_others 29 = .ok (.baload, 1) := by decide +kernel
theorem dX_others_30 : decode cX_others 30 = .ok (.ifCond .eq 33, 3) := by decide +kernel
theorem dX_others_33 : decode cX_others 33 = .ok (.aload_n 0, 1) := by decide +kernel
theorem dX_others_34 : decode cX_others 34 = .ok (.getfield 7, 3) := by decide +kernel
theorem dX_others_37 : decode cX_others 37 = .ok (.iconst 1, 1) := by decide +kernel
theorem dX_others_38 : decode cX_others 38 = .ok (.baload, 1) := by decide +kernel
theorem dX_others_39 : decode cX_others 39 = .ok (.ifCond .ne 14, 3) := by decide +kernel
theorem dX_others_42 : decode cX_others 42 = .ok (.aload_n 0, 1) := by decide +kernel
theorem dX_others_43 : decode cX_others 43 = .ok (.bipush 6, 2) := by decide +kernel
theorem dX_others_45 : decode cX_others 45 = .ok (.bipush 9, 2) := by decide +kernel
theorem dX_others_47 : decode cX_others 47 = .ok (.invokevirtual 181, 3) := by decide +kernel
theorem dX_others_50 : decode cX_others 50 = .ok (.ifCond .eq 5, 3) := by decide +kernel
theorem dX_others_53 : decode cX_others 53 = .ok (.iconst 0, 1) := by decide +kernel
theorem dX_others_54 : decode cX_others 54 = .ok (.ireturn, 1) := by decide +kernel
theorem dX_others_55 : decode cX_others 55 = .ok (.aload_n 0, 1) := by decide +kernel
theorem dX_others_56 : decode cX_others 56 = .ok (.iconst 3, 1) := by decide +kernel
theorem dX_others_57 : decode cX_others 57 = .ok (.putfield 81, 3) := by decide +kernel
theorem dX_others_60 : decode cX_others 60 = .ok (.goto 22, 3) := by decide +kernel
theorem dX_others_63 : decode cX_others 63 = .ok (.aload_n 0, 1) := by decide +kernel
theorem dX_others_64 : decode cX_others 64 = .ok (.aload_n 0, 1) := by decide +kernel
theorem dX_others_65 : decode cX_others 65 = .ok (.iconst 0, 1) := by decide +kernel
theorem dX_others_66 : decode cX_others 66 = .ok (.bipush 9, 2) := by decide +kernel
theorem dX_others_68 : decode cX_others 68 = .ok (.invokevirtual 181, 3) := by decide +kernel
theorem dX_others_71 : decode cX_others 71 = .ok (.ifCond .eq 7, 3) := by decide +kernel
theorem dX_others_74 : decode cX_others 74 = .ok (.iconst 2, 1) := by decide +kernel
theorem dX_others_75 : decode cX_others 75 = .ok (.goto 4, 3) := by decide +kernel
theorem dX_others_78 : decode cX_others 78 = .ok (.iconst 1, 1) := by decide +kernel
theorem dX_others_79 : decode cX_others 79 = .ok (.putfield 81, 3) := by decide +kernel
theorem dX_others_82 : decode cX_others 82 = .ok (.iconst 1, 1) := by decide +kernel
theorem dX_others_83 : decode cX_others 83 = .ok (.ireturn, 1) := by decide +kernel
theorem dX_command_0 : decode cX_command 0 = .ok (.iconst 0, 1) := by decide +kernel
theorem dX_command_1 : decode cX_command 1 = .ok (.istore_n 1, 1) := by decide +kernel
theorem dX_command_2 : decode cX_command 2 = .ok (.iload_n 1, 1) := by decide +kernel
theorem dX_command_3 : decode cX_command 3 = .ok (.iconst 4, 1) := by decide +kernel
theorem dX_command_4 : decode cX_command 4 = .ok (.if_icmp .ge 21, 3) := by decide +kernel
theorem dX_command_7 : decode cX_command 7 = .ok (.aload_n 0, 1) := by decide +kernel
theorem dX_command_8 : decode cX_command 8 = .ok (.getfield 43, 3) := by decide +kernel
theorem dX_command_11 : decode cX_command 11 = .ok (.iload_n 1, 1) := by decide +kernel
theorem dX_command_12 : decode cX_command 12 = .ok (.aload_n 0, 1) := by decide +kernel
theorem dX_command_13 : decode cX_command 13 = .ok (.getfield 19, 3) := by decide +kernel
theorem dX_command_16 : decode cX_command 16 = .ok (.iload_n 1, 1) := by decide +kernel
theorem dX_command_17 : decode cX_command 17 = .ok (.baload, 1) := by decide +kernel
theorem dX_command_18 : decode cX_command 18 = .ok (.bastore, 1) := by decide +kernel
theorem dX_command_19 : decode cX_command 19 = .ok (.iinc 1 1, 3) := by decide +kernel
theorem dX_command_22 : decode cX_command 22 = .ok (.goto (-20), 3) := by decide +kernel
theorem dX_command_25 : decode cX_command 25 = .ok (.aload_n 0, 1) := by decide +kernel
theorem dX_command_26 : decode cX_command 26 = .ok (.getfield 102, 3) := by decide +kernel
theorem dX_command_29 : decode cX_command 29 = .ok (.istore_n 1, 1) := by decide +kernel
theorem dX_command_30 : decode cX_command 30 = .ok (.aload_n 0, 1) := by decide +kernel
theorem dX_command_31 : decode cX_command 31 = .ok (.getfield 81, 3) := by decide +kernel
theorem dX_command_34 : decode cX_command 34 = .ok (.ifCond .ne 109, 3) := by decide +kernel
theorem dX_command_37 : decode cX_command 37 = .ok (.aload_n 0, 1) := by decide +kernel
theorem dX_command_38 : decode cX_command 38 = .ok (.getfield 106, 3) := by decide +kernel
theorem dX_command_41 : decode cX_command 41 = .ok (.ifCond .eq 233, 3) := by decide +kernel
theorem dX_command_44 : decode cX_command 44 = .ok (.aload_n 0, 1) := by decide +kernel
theorem dX_command_45 : decode cX_command 45 = .ok (.getfield 155, 3) := by decide +kernel
theorem dX_command_48 : decode cX_command 48 = .ok (.aload_n 0, 1) := by decide +kernel
theorem dX_command_49 : decode cX_command 49 = .ok (.getfield 63, 3) := by decide +kernel
theorem dX_command_52 : decode cX_command 52 = .ok (.if_icmp .le 7, 3) := by decide +kernel
theorem dX_command_55 : decode cX_command 55 = .ok (.iconst 1, 1) := by decide +kernel
theorem dX_command_56 : decode cX_command 56 = .ok (.goto 4, 3) := by decide +kernel
theorem dX_command_59 : decode cX_command 59 = .ok (.iconst 0, 1) := by decide +kernel
theorem dX_command_60 : decode cX_command 60 = .ok (.istore_n 1, 1) := by decide +kernel
theorem dX_command_61 : decode cX_command 61 = .ok (.iconst 0, 1) := by decide +kernel
theorem dX_command_62 : decode cX_command 62 = .ok (.istore_n 2, 1) := by decide +kernel
theorem dX_command_63 : decode cX_command 63 = .ok (.iload_n 2, 1) := by decide +kernel
theorem dX_command_64 : decode cX_command 64 = .ok (.iconst 4, 1) := by decide +kernel
theorem dX_command_65 : decode cX_command 65 = .ok (.if_icmp .ge 48, 3) := by decide +kernel
theorem dX_command_68 : decode cX_command 68 = .ok (.aload_n 0, 1) := by decide +kernel
theorem dX_command_69 : decode cX_command 69 = .ok (.getfield 155, 3) := by decide +kernel
theorem dX_command_72 : decode cX_command 72 = .ok (.aload_n 0, 1) := by decide +kernel
theorem dX_command_73 : decode cX_command 73 = .ok (.getfield 60, 3) := by decide +kernel
theorem dX_command_76 : decode cX_command 76 = .ok (.if_icmp .lt 13, 3) := by decide +kernel
theorem dX_command_79 : decode cX_command 79 = .ok (.aload_n 0, 1) := by decide +kernel
theorem dX_command_80 : decode cX_command 80 = .ok (.getfield 43, 3) := by decide +kernel
theorem dX_command_83 : decode cX_command 83 = .ok (.iload_n 2, 1) := by decide +kernel
theorem dX_command_84 : decode cX_command 84 = .ok (.iconst 0, 1) := by decide +kernel
theorem dX_command_85 : decode cX_command 85 = .ok (.bastore, 1) := by decide +kernel
theorem dX_command_86 : decode cX_command 86 = .ok (.goto 21, 3) := by decide +kernel
theorem dX_command_89 : decode cX_command 89 = .ok (.aload_n 0, 1) := by decide +kernel
theorem dX_command_90 : decode cX_command 90 = .ok (.getfield 7, 3) := by decide +kernel
theorem dX_command_93 : decode cX_command 93 = .ok (.iconst 2, 1) := by decide +kernel
theorem dX_command_94 : decode cX_command 94 = .ok (.iload_n 2, 1) := by decide +kernel
theorem dX_command_95 : decode cX_command 95 = .ok (.iadd, 1) := by decide +kernel
theorem dX_command_96 : decode cX_command 96 = .ok (.baload, 1) := by decide +kernel
theorem dX_command_97 : decode cX_command 97 = .ok (.ifCond .ne 10, 3) := by decide +kernel
theorem dX_command_100 : decode cX_command 100 = .ok (.aload_n 0, 1) := by decide +kernel
theorem dX_command_101 : decode cX_command 101 = .ok (.getfield 43, 3) := by decide +kernel
theorem dX_command_104 : decode cX_command 104 = .ok (.iload_n 2, 1) := by decide +kernel
theorem dX_command_105 : decode cX_command 105 = .ok (.iconst 1, 1) := by decide +kernel
theorem dX_command_106 : decode cX_command 106 = .ok (.bastore, 1) := by decide +kernel
theorem dX_command_107 : decode cX_command 107 = .ok (.iinc 2 1, 3) := by decide +kernel
theorem dX_command_110 : decode cX_command 110 = .ok (.goto (-47), 3) := by decide +kernel
theorem dX_command_113 : decode cX_command 113 = .ok (.aload_n 0, 1) := by decide +kernel
theorem dX_command_114 : decode cX_command 114 = .ok (.aload_n 0, 1) := by decide +kernel
theorem dX_command_115 : decode cX_command 115 = .ok (.getfield 155, 3) := by decide +kernel
theorem dX_command_118 : decode cX_command 118 = .ok (.aload_n 0, 1) := by decide +kernel
theorem dX_command_119 : decode cX_command 119 = .ok (.getfield 60, 3) := by decide +kernel
theorem dX_command_122 : decode cX_command 122 = .ok (.aload_n 0, 1) := by decide +kernel
theorem dX_command_123 : decode cX_command 123 = .ok (.getfield 63, 3) := by decide +kernel
theorem dX_command_126 : decode cX_command 126 = .ok (.invokestatic 147, 3) := by decide +kernel
theorem dX_command_129 : decode cX_command 129 = .ok (.ifCond .eq 7, 3) := by decide +kernel
theorem dX_command_132 : decode cX_command 132 = .ok (.iconst 1, 1) := by decide +kernel
theorem dX_command_133 : decode cX_command 133 = .ok (.goto 4, 3) := by decide +kernel
theorem dX_command_136 : decode cX_command 136 = .ok (.iconst 0, 1) := by decide +kernel
theorem dX_command_137 : decode cX_command 137 = .ok (.putfield 142, 3) := by decide +kernel
theorem dX_command_140 : decode cX_command 140 = .ok (.goto 134, 3) := by decide +kernel
theorem dX_command_143 : decode cX_command 143 = .ok (.iconst 0, 1) := by decide +kernel
theorem dX_command_144 : decode cX_command 144 = .ok (.istore_n 1, 1) := by decide +kernel
theorem dX_command_145 : decode cX_command 145 = .ok (.aload_n 0, 1) := by decide +kernel
theorem dX_command_146 : decode cX_command 146 = .ok (.getfield 90, 3) := by decide +kernel
theorem dX_command_149 : decode cX_command 149 = .ok (.aload_n 0, 1) := by decide +kernel
theorem dX_command_150 : decode cX_command 150 = .ok (.getfield 63, 3) := by decide +kernel
theorem dX_command_153 : decode cX_command 153 = .ok (.if_icmp .le 7, 3) := by decide +kernel
theorem dX_command_156 : decode cX_command 156 = .ok (.iconst 1, 1) := by decide +kernel
theorem dX_command_157 : decode cX_command 157 = .ok (.goto 4, 3) := by decide +kernel
theorem dX_command_160 : decode cX_command 160 = .ok (.iconst 0, 1) := by decide +kernel
theorem dX_command_161 : decode cX_command 161 = .ok (.istore_n 2, 1) := by decide +kernel
theorem dX_command_162 : decode cX_command 162 = .ok (.aload_n 0, 1) := by decide +kernel
theorem dX_command_163 : decode cX_command 163 = .ok (.getfield 87, 3) := by decide +kernel
theorem dX_command_166 : decode cX_command 166 = .ok (.aload_n 0, 1) := by decide +kernel
theorem dX_command_167 : decode cX_command 167 = .ok (.getfield 60, 3) := by decide +kernel
theorem dX_command_170 : decode cX_command 170 = .ok (.if_icmp .ge 7, 3) := by decide +kernel
theorem dX_command_173 : decode cX_command 173 = .ok (.iconst 1, 1) := by decide +kernel
theorem dX_command_174 : decode cX_command 174 = .ok (.goto 4, 3) := by decide +kernel
theorem dX_command_177 : decode cX_command 177 = .ok (.iconst 0, 1) := by decide +kernel
theorem dX_command_178 : decode cX_command 178 = .ok (.istore_n 3, 1) := by decide +kernel
theorem dX_command_179 : decode cX_command 179 = .ok (.iload_n 3, 1) := by decide +kernel
theorem dX_command_180 : decode cX_command 180 = .ok (.ifCond .eq 32, 3) := by decide +kernel
theorem dX_command_183 : decode cX_command 183 = .ok (.iload_n 2, 1) := by decide +kernel
theorem dX_command_184 : decode cX_command 184 = .ok (.ifCond .eq 24, 3) := by decide +kernel
theorem dX_command_187 : decode cX_command 187 = .ok (.aload_n 0, 1) := by decide +kernel
theorem dX_command_188 : decode cX_command 188 = .ok (.getfield 60, 3) := by decide +kernel
theorem dX_command_191 : decode cX_command 191 = .ok (.aload_n 0, 1) := by decide +kernel
theorem dX_command_192 : decode cX_command 192 = .ok (.getfield 87, 3) := by decide +kernel
theorem dX_command_195 : decode cX_command 195 = .ok (.isub, 1) := by decide +kernel
theorem dX_command_196 : decode cX_command 196 = .ok (.aload_n 0, 1) := by decide +kernel
theorem dX_command_197 : decode cX_command 197 = .ok (.getfield 90, 3) := by decide +kernel
theorem dX_command_200 : decode cX_command 200 = .ok (.aload_n 0, 1) := by decide +kernel
theorem dX_command_201 : decode cX_command 201 = .ok (.getfield 63, 3) := by decide +kernel
theorem dX_command_204 : decode cX_command 204 = .ok (.isub, 1) := by decide +kernel
theorem dX_command_205 : decode cX_command 205 = .ok (.if_icmp .le 7, 3) := by decide +kernel
theorem dX_command_208 : decode cX_command 208 = .ok (.iconst 1, 1) := by decide +kernel
theorem dX_command_209 : decode cX_command 209 = .ok (.goto 4, 3) := by decide +kernel
theorem dX_command_212 : decode cX_command 212 = .ok (.iconst 0, 1) := by decide +kernel
theorem dX_command_213 : decode cX_command 213 = .ok (.istore 4, 2) := by decide +kernel
theorem dX_command_215 : decode cX_command 215 = .ok (.iload_n 2, 1) := by decide +kernel
theorem dX_command_216 : decode cX_command 216 = .ok (.ifCond .ne 7, 3) := by decide +kernel
theorem dX_command_219 : decode cX_command 219 = .ok (.iload_n 3, 1) := by decide +kernel
theorem dX_command_220 : decode cX_command 220 = .ok (.ifCond .eq 54, 3) := by decide +kernel
theorem dX_command_223 : decode cX_command 223 = .ok (.iconst 0, 1) := by decide +kernel
theorem dX_command_224 : decode cX_command 224 = .ok (.istore 5, 2) := by decide +kernel
theorem dX_command_226 : decode cX_command 226 = .ok (.iload 5, 2) := by decide +kernel
theorem dX_command_228 : decode cX_command 228 = .ok (.iconst 4, 1) := by decide +kernel
theorem dX_command_229 : decode cX_command 229 = .ok (.if_icmp .ge 45, 3) := by decide +kernel
theorem dX_command_232 : decode cX_command 232 = .ok (.iload 4, 2) := by decide +kernel
theorem dX_command_234 : decode cX_command 234 = .ok (.ifCond .ne 14, 3) := by decide +kernel
theorem dX_command_237 : decode cX_command 237 = .ok (.aload_n 0, 1) := by decide +kernel
theorem dX_command_238 : decode cX_command 238 = .ok (.getfield 43, 3) := by decide +kernel
theorem dX_command_241 : decode cX_command 241 = .ok (.iload 5, 2) := by decide +kernel
theorem dX_command_243 : decode cX_command 243 = .ok (.iconst 0, 1) := by decide +kernel
theorem dX_command_244 : decode cX_command 244 = .ok (.bastore, 1) := by decide +kernel
theorem dX_command_245 : decode cX_command 245 = .ok (.goto 23, 3) := by decide +kernel
theorem dX_command_248 : decode cX_command 248 = .ok (.aload_n 0, 1) := by decide +kernel
theorem dX_command_249 : decode cX_command 249 = .ok (.getfield 7, 3) := by decide +kernel
theorem dX_command_252 : decode cX_command 252 = .ok (.iconst 2, 1) := by decide +kernel
theorem dX_command_253 : decode cX_command 253 = .ok (.iload 5, 2) := by decide +kernel
theorem dX_command_255 : decode cX_command 255 = .ok (.iadd, 1) := by decide +kernel
theorem dX_command_256 : decode cX_command 256 = .ok (.baload, 1) := by decide +kernel
theorem dX_command_257 : decode cX_command 257 = .ok (.ifCond .ne 11, 3) := by decide +kernel
theorem dX_command_260 : decode cX_command 260 = .ok (.aload_n 0, 1) := by decide +kernel
theorem dX_command_261 : decode cX_command 261 = .ok (.getfield 43, 3) := by decide +kernel
theorem dX_command_264 : decode cX_command 264 = .ok (.iload 5, 2) := by decide +kernel
theorem dX_command_266 : decode cX_command 266 = .ok (.iconst 1, 1) := by decide +kernel
theorem dX_command_267 : decode cX_command 267 = .ok (.bastore, 1) := by decide +kernel
theorem dX_command_268 : decode cX_command 268 = .ok (.iinc 5 1, 3) := by decide +kernel
theorem dX_command_271 : decode cX_command 271 = .ok (.goto (-45), 3) := by decide +kernel
theorem dX_command_274 : decode cX_command 274 = .ok (.iconst 0, 1) := by decide +kernel
theorem dX_command_275 : decode cX_command 275 = .ok (.istore_n 2, 1) := by decide +kernel
theorem dX_command_276 : decode cX_command 276 = .ok (.iload_n 2, 1) := by decide +kernel
theorem dX_command_277 : decode cX_command 277 = .ok (.iconst 4, 1) := by decide +kernel
theorem dX_command_278 : decode cX_command 278 = .ok (.if_icmp .ge 88, 3) := by decide +kernel
theorem dX_command_281 : decode cX_command 281 = .ok (.aload_n 0, 1) := by decide +kernel
theorem dX_command_282 : decode cX_command 282 = .ok (.getfield 43, 3) := by decide +kernel
theorem dX_command_285 : decode cX_command 285 = .ok (.iload_n 2, 1) := by decide +kernel
theorem dX_command_286 : decode cX_command 286 = .ok (.baload, 1) := by decide +kernel
theorem dX_command_287 : decode cX_command 287 = .ok (.aload_n 0, 1) := by decide +kernel
theorem dX_command_288 : decode cX_command 288 = .ok (.getfield 19, 3) := by decide +kernel
theorem dX_command_291 : decode cX_command 291 = .ok (.iload_n 2, 1) := by decide +kernel
theorem dX_command_292 : decode cX_command 292 = .ok (.baload, 1) := by decide +kernel
theorem dX_command_293 : decode cX_command 293 = .ok (.if_icmp .eq 31, 3) := by decide +kernel
theorem dX_command_296 : decode cX_command 296 = .ok (.aload_n 0, 1) := by decide +kernel
theorem dX_command_297 : decode cX_command 297 = .ok (.dup, 1) := by decide +kernel
theorem dX_command_298 : decode cX_command 298 = .ok (.getfield 136, 3) := by decide +kernel
theorem dX_command_301 : decode cX_command 301 = .ok (.aload_n 0, 1) := by decide +kernel
theorem dX_command_302 : decode cX_command 302 = .ok (.getfield 43, 3) := by decide +kernel
theorem dX_command_305 : decode cX_command 305 = .ok (.iload_n 2, 1) := by decide +kernel
theorem dX_command_306 : decode cX_command 306 = .ok (.baload, 1) := by decide +kernel
theorem dX_command_307 : decode cX_command 307 = .ok (.ifCond .eq 9, 3) := by decide +kernel
theorem dX_command_310 : decode cX_command 310 = .ok (.iconst 1, 1) := by decide +kernel
theorem dX_command_311 : decode cX_command 311 = .ok (.iload_n 2, 1) := by decide +kernel
theorem dX_command_312 : decode cX_command 312 = .ok (.ishl, 1) := by decide +kernel
theorem dX_command_313 : decode cX_command 313 = .ok (.goto 7, 3) := by decide +kernel
theorem dX_command_316 : decode cX_command 316 = .ok (.bipush 16, 2) := by decide +kernel
theorem dX_command_318 : decode cX_command 318 = .ok (.iload_n 2, 1) := by decide +kernel
theorem dX_command_319 : decode cX_command 319 = .ok (.ishl, 1) := by decide +kernel
theorem dX_command_320 : decode cX_command 320 = .ok (.ior, 1) := by decide +kernel
theorem dX_command_321 : decode cX_command 321 = .ok (.putfield 136, 3) := by decide +kernel
theorem dX_command_324 : decode cX_command 324 = .ok (.aload_n 0, 1) := by decide +kernel
theorem dX_command_325 : decode cX_command 325 = .ok (.getfield 22, 3) := by decide +kernel
theorem dX_command_328 : decode cX_command 328 = .ok (.iload_n 2, 1) := by decide +kernel
theorem dX_command_329 : decode cX_command 329 = .ok (.aload_n 0, 1) := by decide +kernel
theorem dX_command_330 : decode cX_command 330 = .ok (.getfield 19, 3) := by decide +kernel
theorem dX_command_333 : decode cX_command 333 = .ok (.iload_n 2, 1) := by decide +kernel
theorem dX_command_334 : decode cX_command 334 = .ok (.baload, 1) := by decide +kernel
theorem dX_command_335 : decode cX_command 335 = .ok (.bastore, 1) := by decide +kernel
theorem dX_command_336 : decode cX_command 336 = .ok (.aload_n 0, 1) := by decide +kernel
theorem dX_command_337 : decode cX_command 337 = .ok (.getfield 19, 3) := by decide +kernel
theorem dX_command_340 : decode cX_command 340 = .ok (.iload_n 2, 1) := by decide +kernel
theorem dX_command_341 : decode cX_command 341 = .ok (.aload_n 0, 1) := by decide +kernel
theorem dX_command_342 : decode cX_command 342 = .ok (.getfield 43, 3) := by decide +kernel
theorem dX_command_345 : decode cX_command 345 = .ok (.iload_n 2, 1) := by decide +kernel
theorem dX_command_346 : decode cX_command 346 = .ok (.baload, 1) := by decide +kernel
theorem dX_command_347 : decode cX_command 347 = .ok (.bastore, 1) := by decide +kernel
theorem dX_command_348 : decode cX_command 348 = .ok (.aload_n 0, 1) := by decide +kernel
theorem dX_command_349 : decode cX_command 349 = .ok (.getfield 25, 3) := by decide +kernel
theorem dX_command_352 : decode cX_command 352 = .ok (.iload_n 2, 1) := by decide +kernel
theorem dX_command_353 : decode cX_command 353 = .ok (.aload_n 0, 1) := by decide +kernel
theorem dX_command_354 : decode cX_command 354 = .ok (.getfield 34, 3) := by decide +kernel
theorem dX_command_357 : decode cX_command 357 = .ok (.iload_n 2, 1) := by decide +kernel
theorem dX_command_358 : decode cX_command 358 = .ok (.baload, 1) := by decide +kernel
theorem dX_command_359 : decode cX_command 359 = .ok (.bastore, 1) := by decide +kernel
theorem dX_command_360 : decode cX_command 360 = .ok (.iinc 2 1, 3) := by decide +kernel
theorem dX_command_363 : decode cX_command 363 = .ok (.goto (-87), 3) := by decide +kernel
theorem dX_command_366 : decode cX_command 366 = .ok (.iload_n 1, 1) := by decide +kernel
theorem dX_command_367 : decode cX_command 367 = .ok (.aload_n 0, 1) := by decide +kernel
theorem dX_command_368 : decode cX_command 368 = .ok (.getfield 102, 3) := by decide +kernel
theorem dX_command_371 : decode cX_command 371 = .ok (.if_icmp .eq 16, 3) := by decide +kernel
theorem dX_command_374 : decode cX_command 374 = .ok (.aload_n 0, 1) := by decide +kernel
theorem dX_command_375 : decode cX_command 375 = .ok (.iload_n 1, 1) := by decide +kernel
theorem dX_command_376 : decode cX_command 376 = .ok (.ifCond .eq 7, 3) := by decide +kernel
theorem dX_command_379 : decode cX_command 379 = .ok (.iconst 1, 1) := by decide +kernel
theorem dX_command_380 : decode cX_command 380 = .ok (.goto 4, 3) := by decide +kernel
theorem dX_command_383 : decode cX_command 383 = .ok (.iconst 2, 1) := by decide +kernel
theorem dX_command_384 : decode cX_command 384 = .ok (.putfield 139, 3) := by decide +kernel
theorem dX_command_387 : decode cX_command 387 = .ok (.aload_n 0, 1) := by decide +kernel
theorem dX_command_388 : decode cX_command 388 = .ok (.iload_n 1, 1) := by decide +kernel
theorem dX_command_389 : decode cX_command 389 = .ok (.putfield 102, 3) := by decide +kernel
theorem dX_command_392 : decode cX_command 392 = .ok (.return_, 1) := by decide +kernel
theorem dX_told_0 : decode cX_told 0 = .ok (.aload_n 0, 1) := by decide +kernel
theorem dX_told_1 : decode cX_told 1 = .ok (.iconst 0, 1) := by decide +kernel
theorem dX_told_2 : decode cX_told 2 = .ok (.putfield 50, 3) := by decide +kernel
theorem dX_told_5 : decode cX_told 5 = .ok (.aload_n 0, 1) := by decide +kernel
theorem dX_told_6 : decode cX_told 6 = .ok (.iload_n 1, 1) := by decide +kernel
theorem dX_told_7 : decode cX_told 7 = .ok (.iconst 0, 1) := by decide +kernel
theorem dX_told_8 : decode cX_told 8 = .ok (.iconst 4, 1) := by decide +kernel
theorem dX_told_9 : decode cX_told 9 = .ok (.invokestatic 147, 3) := by decide +kernel
theorem dX_told_12 : decode cX_told 12 = .ok (.ifCond .ne 7, 3) := by decide +kernel
theorem dX_told_15 : decode cX_told 15 = .ok (.iconst 1, 1) := by decide +kernel
theorem dX_told_16 : decode cX_told 16 = .ok (.goto 4, 3) := by decide +kernel
theorem dX_told_19 : decode cX_told 19 = .ok (.iconst 0, 1) := by decide +kernel
theorem dX_told_20 : decode cX_told 20 = .ok (.iconst 1, 1) := by decide +kernel
theorem dX_told_21 : decode cX_told 21 = .ok (.invokevirtual 151, 3) := by decide +kernel
theorem dX_told_24 : decode cX_told 24 = .ok (.ifCond .eq 5, 3) := by decide +kernel
theorem dX_told_27 : decode cX_told 27 = .ok (.iconst 0, 1) := by decide +kernel
theorem dX_told_28 : decode cX_told 28 = .ok (.ireturn, 1) := by decide +kernel
theorem dX_told_29 : decode cX_told 29 = .ok (.iload_n 1, 1) := by decide +kernel
theorem dX_told_30 : decode cX_told 30 = .ok (.ifCond .ne 10, 3) := by decide +kernel
theorem dX_told_33 : decode cX_told 33 = .ok (.aload_n 0, 1) := by decide +kernel
theorem dX_told_34 : decode cX_told 34 = .ok (.getfield 136, 3) := by decide +kernel
theorem dX_told_37 : decode cX_told 37 = .ok (.goto 43, 3) := by decide +kernel
theorem dX_told_40 : decode cX_told 40 = .ok (.iload_n 1, 1) := by decide +kernel
theorem dX_told_41 : decode cX_told 41 = .ok (.iconst 1, 1) := by decide +kernel
theorem dX_told_42 : decode cX_told 42 = .ok (.if_icmp .ne 10, 3) := by decide +kernel
theorem dX_told_45 : decode cX_told 45 = .ok (.aload_n 0, 1) := by decide +kernel
theorem dX_told_46 : decode cX_told 46 = .ok (.getfield 139, 3) := by decide +kernel
theorem dX_told_49 : decode cX_told 49 = .ok (.goto 31, 3) := by decide +kernel
theorem dX_told_52 : decode cX_told 52 = .ok (.iload_n 1, 1) := by decide +kernel
theorem dX_told_53 : decode cX_told 53 = .ok (.iconst 2, 1) := by decide +kernel
theorem dX_told_54 : decode cX_told 54 = .ok (.if_icmp .ne 10, 3) := by decide +kernel
theorem dX_told_57 : decode cX_told 57 = .ok (.aload_n 0, 1) := by decide +kernel
theorem dX_told_58 : decode cX_told 58 = .ok (.getfield 130, 3) := by decide +kernel
theorem dX_told_61 : decode cX_told 61 = .ok (.goto 19, 3) := by decide +kernel
theorem dX_told_64 : decode cX_told 64 = .ok (.iload_n 1, 1) := by decide +kernel
theorem dX_told_65 : decode cX_told 65 = .ok (.iconst 3, 1) := by decide +kernel
theorem dX_told_66 : decode cX_told 66 = .ok (.if_icmp .ne 10, 3) := by decide +kernel
theorem dX_told_69 : decode cX_told 69 = .ok (.aload_n 0, 1) := by decide +kernel
theorem dX_told_70 : decode cX_told 70 = .ok (.getfield 133, 3) := by decide +kernel
theorem dX_told_73 : decode cX_told 73 = .ok (.goto 7, 3) := by decide +kernel
theorem dX_told_76 : decode cX_told 76 = .ok (.aload_n 0, 1) := by decide +kernel
theorem dX_told_77 : decode cX_told 77 = .ok (.getfield 142, 3) := by decide +kernel
theorem dX_told_80 : decode cX_told 80 = .ok (.ireturn, 1) := by decide +kernel
theorem dX_state_0 : decode cX_state 0 = .ok (.aload_n 0, 1) := by decide +kernel
theorem dX_state_1 : decode cX_state 1 = .ok (.iconst 0, 1) := by decide +kernel
theorem dX_state_2 : decode cX_state 2 = .ok (.putfield 50, 3) := by decide +kernel
theorem dX_state_5 : decode cX_state 5 = .ok (.aload_n 0, 1) := by decide +kernel
theorem dX_state_6 : decode cX_state 6 = .ok (.iload_n 1, 1) := by decide +kernel
theorem dX_state_7 : decode cX_state 7 = .ok (.iconst 0, 1) := by decide +kernel
theorem dX_state_8 : decode cX_state 8 = .ok (.bipush 9, 2) := by decide +kernel
theorem dX_state_10 : decode cX_state 10 = .ok (.invokestatic 147, 3) := by decide +kernel
theorem dX_state_13 : decode cX_state 13 = .ok (.ifCond .ne 7, 3) := by decide +kernel
theorem dX_state_16 : decode cX_state 16 = .ok (.iconst 1, 1) := by decide +kernel
theorem dX_state_17 : decode cX_state 17 = .ok (.goto 4, 3) := by decide +kernel
theorem dX_state_20 : decode cX_state 20 = .ok (.iconst 0, 1) := by decide +kernel
theorem dX_state_21 : decode cX_state 21 = .ok (.iconst 1, 1) := by decide +kernel
theorem dX_state_22 : decode cX_state 22 = .ok (.invokevirtual 151, 3) := by decide +kernel
theorem dX_state_25 : decode cX_state 25 = .ok (.ifCond .eq 5, 3) := by decide +kernel
theorem dX_state_28 : decode cX_state 28 = .ok (.iconst 0, 1) := by decide +kernel
theorem dX_state_29 : decode cX_state 29 = .ok (.ireturn, 1) := by decide +kernel
theorem dX_state_30 : decode cX_state 30 = .ok (.iconst 0, 1) := by decide +kernel
theorem dX_state_31 : decode cX_state 31 = .ok (.istore_n 2, 1) := by decide +kernel
theorem dX_state_32 : decode cX_state 32 = .ok (.iload_n 1, 1) := by decide +kernel
theorem dX_state_33 : decode cX_state 33 = .ok (.tableswitch 181 0 8 #[51, 56, 61, 66, 71, 102, 133, 163, 176], 51) := by decide +kernel
theorem dX_state_84 : decode cX_state 84 = .ok (.aload_n 0, 1) := by decide +kernel
theorem dX_state_85 : decode cX_state 85 = .ok (.getfield 87, 3) := by decide +kernel
theorem dX_state_88 : decode cX_state 88 = .ok (.ireturn, 1) := by decide +kernel
theorem dX_state_89 : decode cX_state 89 = .ok (.aload_n 0, 1) := by decide +kernel
theorem dX_state_90 : decode cX_state 90 = .ok (.getfield 90, 3) := by decide +kernel
theorem dX_state_93 : decode cX_state 93 = .ok (.ireturn, 1) := by decide +kernel
theorem dX_state_94 : decode cX_state 94 = .ok (.aload_n 0, 1) := by decide +kernel
theorem dX_state_95 : decode cX_state 95 = .ok (.getfield 93, 3) := by decide +kernel
end
section
theorem dX_state_98 : decode cX_state 98 = .ok (.ireturn, 1) := by decide +kernel
theorem dX_state_99 : decode cX_state 99 = .ok (.aload_n 0, 1) := by decide +kernel
theorem dX_state_100 : decode cX_state 100 = .ok (.getfield 96, 3) := by decide +kernel
theorem dX_state_103 : decode cX_state 103 = .ok (.ireturn, 1) := by decide +kernel
theorem dX_state_104 : decode cX_state 104 = .ok (.iconst 0, 1) := by decide +kernel
theorem dX_state_105 : decode cX_state 105 = .ok (.istore_n 3, 1) := by decide +kernel
theorem dX_state_106 : decode cX_state 106 = .ok (.iload_n 3, 1) := by decide +kernel
theorem dX_state_107 : decode cX_state 107 = .ok (.bipush 10, 2) := by decide +kernel
theorem dX_state_109 : decode cX_state 109 = .ok (.if_icmp .ge 24, 3) := by decide +kernel
theorem dX_state_112 : decode cX_state 112 = .ok (.aload_n 0, 1) := by decide +kernel
theorem dX_state_113 : decode cX_state 113 = .ok (.getfield 7, 3) := by decide +kernel
theorem dX_state_116 : decode cX_state 116 = .ok (.iload_n 3, 1) := by decide +kernel
theorem dX_state_117 : decode cX_state 117 = .ok (.baload, 1) := by decide +kernel
theorem dX_state_118 : decode cX_state 118 = .ok (.ifCond .eq 9, 3) := by decide +kernel
theorem dX_state_121 : decode cX_state 121 = .ok (.iload_n 2, 1) := by decide +kernel
theorem dX_state_122 : decode cX_state 122 = .ok (.iconst 1, 1) := by decide +kernel
theorem dX_state_123 : decode cX_state 123 = .ok (.iload_n 3, 1) := by decide +kernel
theorem dX_state_124 : decode cX_state 124 = .ok (.ishl, 1) := by decide +kernel
theorem dX_state_125 : decode cX_state 125 = .ok (.ior, 1) := by decide +kernel
theorem dX_state_126 : decode cX_state 126 = .ok (.istore_n 2, 1) := by decide +kernel
theorem dX_state_127 : decode cX_state 127 = .ok (.iinc 3 1, 3) := by decide +kernel
theorem dX_state_130 : decode cX_state 130 = .ok (.goto (-24), 3) := by decide +kernel
theorem dX_state_133 : decode cX_state 133 = .ok (.iload_n 2, 1) := by decide +kernel
theorem dX_state_134 : decode cX_state 134 = .ok (.ireturn, 1) := by decide +kernel
theorem dX_state_135 : decode cX_state 135 = .ok (.iconst 0, 1) := by decide +kernel
theorem dX_state_136 : decode cX_state 136 = .ok (.istore_n 3, 1) := by decide +kernel
theorem dX_state_137 : decode cX_state 137 = .ok (.iload_n 3, 1) := by decide +kernel
theorem dX_state_138 : decode cX_state 138 = .ok (.bipush 10, 2) := by decide +kernel
theorem dX_state_140 : decode cX_state 140 = .ok (.if_icmp .ge 24, 3) := by decide +kernel
theorem dX_state_143 : decode cX_state 143 = .ok (.aload_n 0, 1) := by decide +kernel
theorem dX_state_144 : decode cX_state 144 = .ok (.getfield 13, 3) := by decide +kernel
theorem dX_state_147 : decode cX_state 147 = .ok (.iload_n 3, 1) := by decide +kernel
theorem dX_state_148 : decode cX_state 148 = .ok (.baload, 1) := by decide +kernel
theorem dX_state_149 : decode cX_state 149 = .ok (.ifCond .eq 9, 3) := by decide +kernel
theorem dX_state_152 : decode cX_state 152 = .ok (.iload_n 2, 1) := by decide +kernel
theorem dX_state_153 : decode cX_state 153 = .ok (.iconst 1, 1) := by decide +kernel
theorem dX_state_154 : decode cX_state 154 = .ok (.iload_n 3, 1) := by decide +kernel
theorem dX_state_155 : decode cX_state 155 = .ok (.ishl, 1) := by decide +kernel
theorem dX_state_156 : decode cX_state 156 = .ok (.ior, 1) := by decide +kernel
theorem dX_state_157 : decode cX_state 157 = .ok (.istore_n 2, 1) := by decide +kernel
theorem dX_state_158 : decode cX_state 158 = .ok (.iinc 3 1, 3) := by decide +kernel
theorem dX_state_161 : decode cX_state 161 = .ok (.goto (-24), 3) := by decide +kernel
theorem dX_state_164 : decode cX_state 164 = .ok (.iload_n 2, 1) := by decide +kernel
theorem dX_state_165 : decode cX_state 165 = .ok (.ireturn, 1) := by decide +kernel
theorem dX_state_166 : decode cX_state 166 = .ok (.iconst 0, 1) := by decide +kernel
theorem dX_state_167 : decode cX_state 167 = .ok (.istore_n 3, 1) := by decide +kernel
theorem dX_state_168 : decode cX_state 168 = .ok (.iload_n 3, 1) := by decide +kernel
theorem dX_state_169 : decode cX_state 169 = .ok (.iconst 4, 1) := by decide +kernel
theorem dX_state_170 : decode cX_state 170 = .ok (.if_icmp .ge 24, 3) := by decide +kernel
theorem dX_state_173 : decode cX_state 173 = .ok (.aload_n 0, 1) := by decide +kernel
theorem dX_state_174 : decode cX_state 174 = .ok (.getfield 19, 3) := by decide +kernel
theorem dX_state_177 : decode cX_state 177 = .ok (.iload_n 3, 1) := by decide +kernel
theorem dX_state_178 : decode cX_state 178 = .ok (.baload, 1) := by decide +kernel
theorem dX_state_179 : decode cX_state 179 = .ok (.ifCond .eq 9, 3) := by decide +kernel
theorem dX_state_182 : decode cX_state 182 = .ok (.iload_n 2, 1) := by decide +kernel
theorem dX_state_183 : decode cX_state 183 = .ok (.iconst 1, 1) := by decide +kernel
theorem dX_state_184 : decode cX_state 184 = .ok (.iload_n 3, 1) := by decide +kernel
theorem dX_state_185 : decode cX_state 185 = .ok (.ishl, 1) := by decide +kernel
theorem dX_state_186 : decode cX_state 186 = .ok (.ior, 1) := by decide +kernel
theorem dX_state_187 : decode cX_state 187 = .ok (.istore_n 2, 1) := by decide +kernel
theorem dX_state_188 : decode cX_state 188 = .ok (.iinc 3 1, 3) := by decide +kernel
theorem dX_state_191 : decode cX_state 191 = .ok (.goto (-23), 3) := by decide +kernel
theorem dX_state_194 : decode cX_state 194 = .ok (.iload_n 2, 1) := by decide +kernel
theorem dX_state_195 : decode cX_state 195 = .ok (.ireturn, 1) := by decide +kernel
theorem dX_state_196 : decode cX_state 196 = .ok (.aload_n 0, 1) := by decide +kernel
theorem dX_state_197 : decode cX_state 197 = .ok (.getfield 102, 3) := by decide +kernel
theorem dX_state_200 : decode cX_state 200 = .ok (.ifCond .eq 7, 3) := by decide +kernel
theorem dX_state_203 : decode cX_state 203 = .ok (.iconst 1, 1) := by decide +kernel
theorem dX_state_204 : decode cX_state 204 = .ok (.goto 4, 3) := by decide +kernel
theorem dX_state_207 : decode cX_state 207 = .ok (.iconst 0, 1) := by decide +kernel
theorem dX_state_208 : decode cX_state 208 = .ok (.ireturn, 1) := by decide +kernel
theorem dX_state_209 : decode cX_state 209 = .ok (.aload_n 0, 1) := by decide +kernel
theorem dX_state_210 : decode cX_state 210 = .ok (.getfield 81, 3) := by decide +kernel
theorem dX_state_213 : decode cX_state 213 = .ok (.ireturn, 1) := by decide +kernel
theorem dX_state_214 : decode cX_state 214 = .ok (.aload_n 0, 1) := by decide +kernel
theorem dX_state_215 : decode cX_state 215 = .ok (.getfield 84, 3) := by decide +kernel
theorem dX_state_218 : decode cX_state 218 = .ok (.ireturn, 1) := by decide +kernel
theorem dI_init_0 : decode cI_init 0 = .ok (.aload_n 0, 1) := by decide +kernel
theorem dI_init_1 : decode cI_init 1 = .ok (.invokespecial 3, 3) := by decide +kernel
theorem dI_init_4 : decode cI_init 4 = .ok (.return_, 1) := by decide +kernel
theorem dI_hasAllReadings_0 : decode cI_hasAllReadings 0 = .ok (.aload_n 0, 1) := by decide +kernel
theorem dI_hasAllReadings_1 : decode cI_hasAllReadings 1 = .ok (.getfield 9, 3) := by decide +kernel
theorem dI_hasAllReadings_4 : decode cI_hasAllReadings 4 = .ok (.ifCond .eq 23, 3) := by decide +kernel
theorem dI_hasAllReadings_7 : decode cI_hasAllReadings 7 = .ok (.aload_n 0, 1) := by decide +kernel
theorem dI_hasAllReadings_8 : decode cI_hasAllReadings 8 = .ok (.getfield 15, 3) := by decide +kernel
theorem dI_hasAllReadings_11 : decode cI_hasAllReadings 11 = .ok (.ifCond .eq 16, 3) := by decide +kernel
theorem dI_hasAllReadings_14 : decode cI_hasAllReadings 14 = .ok (.aload_n 0, 1) := by decide +kernel
theorem dI_hasAllReadings_15 : decode cI_hasAllReadings 15 = .ok (.getfield 18, 3) := by decide +kernel
theorem dI_hasAllReadings_18 : decode cI_hasAllReadings 18 = .ok (.bipush 15, 2) := by decide +kernel
theorem dI_hasAllReadings_20 : decode cI_hasAllReadings 20 = .ok (.if_icmp .ne 7, 3) := by decide +kernel
theorem dI_hasAllReadings_23 : decode cI_hasAllReadings 23 = .ok (.iconst 1, 1) := by decide +kernel
theorem dI_hasAllReadings_24 : decode cI_hasAllReadings 24 = .ok (.goto 4, 3) := by decide +kernel
theorem dI_hasAllReadings_27 : decode cI_hasAllReadings 27 = .ok (.iconst 0, 1) := by decide +kernel
theorem dI_hasAllReadings_28 : decode cI_hasAllReadings 28 = .ok (.ireturn, 1) := by decide +kernel
theorem dI_clear_0 : decode cI_clear 0 = .ok (.aload_n 0, 1) := by decide +kernel
theorem dI_clear_1 : decode cI_clear 1 = .ok (.iconst 0, 1) := by decide +kernel
theorem dI_clear_2 : decode cI_clear 2 = .ok (.putfield 9, 3) := by decide +kernel
theorem dI_clear_5 : decode cI_clear 5 = .ok (.aload_n 0, 1) := by decide +kernel
theorem dI_clear_6 : decode cI_clear 6 = .ok (.iconst 0, 1) := by decide +kernel
theorem dI_clear_7 : decode cI_clear 7 = .ok (.putfield 22, 3) := by decide +kernel
theorem dI_clear_10 : decode cI_clear 10 = .ok (.aload_n 0, 1) := by decide +kernel
theorem dI_clear_11 : decode cI_clear 11 = .ok (.iconst 0, 1) := by decide +kernel
theorem dI_clear_12 : decode cI_clear 12 = .ok (.putfield 15, 3) := by decide +kernel
theorem dI_clear_15 : decode cI_clear 15 = .ok (.aload_n 0, 1) := by decide +kernel
theorem dI_clear_16 : decode cI_clear 16 = .ok (.iconst 0, 1) := by decide +kernel
theorem dI_clear_17 : decode cI_clear 17 = .ok (.putfield 25, 3) := by decide +kernel
theorem dI_clear_20 : decode cI_clear 20 = .ok (.aload_n 0, 1) := by decide +kernel
theorem dI_clear_21 : decode cI_clear 21 = .ok (.iconst 0, 1) := by decide +kernel
theorem dI_clear_22 : decode cI_clear 22 = .ok (.putfield 18, 3) := by decide +kernel
theorem dI_clear_25 : decode cI_clear 25 = .ok (.aload_n 0, 1) := by decide +kernel
theorem dI_clear_26 : decode cI_clear 26 = .ok (.iconst 0, 1) := by decide +kernel
theorem dI_clear_27 : decode cI_clear 27 = .ok (.putfield 28, 3) := by decide +kernel
theorem dI_clear_30 : decode cI_clear 30 = .ok (.aload_n 0, 1) := by decide +kernel
theorem dI_clear_31 : decode cI_clear 31 = .ok (.iconst 0, 1) := by decide +kernel
theorem dI_clear_32 : decode cI_clear 32 = .ok (.putfield 31, 3) := by decide +kernel
theorem dI_clear_35 : decode cI_clear 35 = .ok (.aload_n 0, 1) := by decide +kernel
theorem dI_clear_36 : decode cI_clear 36 = .ok (.iconst 0, 1) := by decide +kernel
theorem dI_clear_37 : decode cI_clear 37 = .ok (.putfield 34, 3) := by decide +kernel
theorem dI_clear_40 : decode cI_clear 40 = .ok (.aload_n 0, 1) := by decide +kernel
theorem dI_clear_41 : decode cI_clear 41 = .ok (.iconst 0, 1) := by decide +kernel
theorem dI_clear_42 : decode cI_clear 42 = .ok (.putfield 37, 3) := by decide +kernel
theorem dI_clear_45 : decode cI_clear 45 = .ok (.aload_n 0, 1) := by decide +kernel
theorem dI_clear_46 : decode cI_clear 46 = .ok (.iconst 0, 1) := by decide +kernel
theorem dI_clear_47 : decode cI_clear 47 = .ok (.putfield 40, 3) := by decide +kernel
theorem dI_clear_50 : decode cI_clear 50 = .ok (.aload_n 0, 1) := by decide +kernel
theorem dI_clear_51 : decode cI_clear 51 = .ok (.iconst 0, 1) := by decide +kernel
theorem dI_clear_52 : decode cI_clear 52 = .ok (.putfield 43, 3) := by decide +kernel
theorem dI_clear_55 : decode cI_clear 55 = .ok (.aload_n 0, 1) := by decide +kernel
theorem dI_clear_56 : decode cI_clear 56 = .ok (.iconst 0, 1) := by decide +kernel
theorem dI_clear_57 : decode cI_clear 57 = .ok (.putfield 46, 3) := by decide +kernel
theorem dI_clear_60 : decode cI_clear 60 = .ok (.return_, 1) := by decide +kernel
theorem dM_init_0 : decode cM_init 0 = .ok (.aload_n 0, 1) := by decide +kernel
theorem dM_init_1 : decode cM_init 1 = .ok (.invokespecial 3, 3) := by decide +kernel
theorem dM_init_4 : decode cM_init 4 = .ok (.return_, 1) := by decide +kernel
theorem dM_remember_0 : decode cM_remember 0 = .ok (.aload_n 0, 1) := by decide +kernel
theorem dM_remember_1 : decode cM_remember 1 = .ok (.aload_n 0, 1) := by decide +kernel
theorem dM_remember_2 : decode cM_remember 2 = .ok (.getfield 9, 3) := by decide +kernel
theorem dM_remember_5 : decode cM_remember 5 = .ok (.putfield 15, 3) := by decide +kernel
theorem dM_remember_8 : decode cM_remember 8 = .ok (.aload_n 0, 1) := by decide +kernel
theorem dM_remember_9 : decode cM_remember 9 = .ok (.iload_n 1, 1) := by decide +kernel
theorem dM_remember_10 : decode cM_remember 10 = .ok (.putfield 18, 3) := by decide +kernel
theorem dM_remember_13 : decode cM_remember 13 = .ok (.return_, 1) := by decide +kernel
theorem dM_pumpsSurelyGiving_0 : decode cM_pumpsSurelyGiving 0 = .ok (.iload_n 1, 1) := by decide +kernel
theorem dM_pumpsSurelyGiving_1 : decode cM_pumpsSurelyGiving 1 = .ok (.invokestatic 21, 3) := by decide +kernel
theorem dM_pumpsSurelyGiving_4 : decode cM_pumpsSurelyGiving 4 = .ok (.aload_n 0, 1) := by decide +kernel
theorem dM_pumpsSurelyGiving_5 : decode cM_pumpsSurelyGiving 5 = .ok (.getfield 9, 3) := by decide +kernel
theorem dM_pumpsSurelyGiving_8 : decode cM_pumpsSurelyGiving 8 = .ok (.iand, 1) := by decide +kernel
theorem dM_pumpsSurelyGiving_9 : decode cM_pumpsSurelyGiving 9 = .ok (.aload_n 0, 1) := by decide +kernel
theorem dM_pumpsSurelyGiving_10 : decode cM_pumpsSurelyGiving 10 = .ok (.getfield 15, 3) := by decide +kernel
theorem dM_pumpsSurelyGiving_13 : decode cM_pumpsSurelyGiving 13 = .ok (.iand, 1) := by decide +kernel
theorem dM_pumpsSurelyGiving_14 : decode cM_pumpsSurelyGiving 14 = .ok (.aload_n 0, 1) := by decide +kernel
theorem dM_pumpsSurelyGiving_15 : decode cM_pumpsSurelyGiving 15 = .ok (.getfield 18, 3) := by decide +kernel
theorem dM_pumpsSurelyGiving_18 : decode cM_pumpsSurelyGiving 18 = .ok (.iand, 1) := by decide +kernel
theorem dM_pumpsSurelyGiving_19 : decode cM_pumpsSurelyGiving 19 = .ok (.ireturn, 1) := by decide +kernel
theorem dM_pumpsSurelyIdle_0 : decode cM_pumpsSurelyIdle 0 = .ok (.iload_n 1, 1) := by decide +kernel
theorem dM_pumpsSurelyIdle_1 : decode cM_pumpsSurelyIdle 1 = .ok (.invokestatic 21, 3) := by decide +kernel
theorem dM_pumpsSurelyIdle_4 : decode cM_pumpsSurelyIdle 4 = .ok (.aload_n 0, 1) := by decide +kernel
theorem dM_pumpsSurelyIdle_5 : decode cM_pumpsSurelyIdle 5 = .ok (.getfield 9, 3) := by decide +kernel
theorem dM_pumpsSurelyIdle_8 : decode cM_pumpsSurelyIdle 8 = .ok (.iconst (-1), 1) := by decide +kernel
theorem dM_pumpsSurelyIdle_9 : decode cM_pumpsSurelyIdle 9 = .ok (.ixor, 1) := by decide +kernel
theorem dM_pumpsSurelyIdle_10 : decode cM_pumpsSurelyIdle 10 = .ok (.iand, 1) := by decide +kernel
theorem dM_pumpsSurelyIdle_11 : decode cM_pumpsSurelyIdle 11 = .ok (.ireturn, 1) := by decide +kernel
theorem dM_trusted_0 : decode cM_trusted 0 = .ok (.bipush 15, 2) := by decide +kernel
theorem dM_trusted_2 : decode cM_trusted 2 = .ok (.iload_n 0, 1) := by decide +kernel
theorem dM_trusted_3 : decode cM_trusted 3 = .ok (.iconst 2, 1) := by decide +kernel
theorem dM_trusted_4 : decode cM_trusted 4 = .ok (.ishr, 1) := by decide +kernel
theorem dM_trusted_5 : decode cM_trusted 5 = .ok (.iconst (-1), 1) := by decide +kernel
theorem dM_trusted_6 : decode cM_trusted 6 = .ok (.ixor, 1) := by decide +kernel
theorem dM_trusted_7 : decode cM_trusted 7 = .ok (.iand, 1) := by decide +kernel
theorem dM_trusted_8 : decode cM_trusted 8 = .ok (.iload_n 0, 1) := by decide +kernel
theorem dM_trusted_9 : decode cM_trusted 9 = .ok (.bipush 6, 2) := by decide +kernel
theorem dM_trusted_11 : decode cM_trusted 11 = .ok (.ishr, 1) := by decide +kernel
theorem dM_trusted_12 : decode cM_trusted 12 = .ok (.iconst (-1), 1) := by decide +kernel
theorem dM_trusted_13 : decode cM_trusted 13 = .ok (.ixor, 1) := by decide +kernel
theorem dM_trusted_14 : decode cM_trusted 14 = .ok (.iand, 1) := by decide +kernel
theorem dM_trusted_15 : decode cM_trusted 15 = .ok (.ireturn, 1) := by decide +kernel
theorem dM_clear_0 : decode cM_clear 0 = .ok (.aload_n 0, 1) := by decide +kernel
theorem dM_clear_1 : decode cM_clear 1 = .ok (.iconst 0, 1) := by decide +kernel
theorem dM_clear_2 : decode cM_clear 2 = .ok (.putfield 9, 3) := by decide +kernel
theorem dM_clear_5 : decode cM_clear 5 = .ok (.aload_n 0, 1) := by decide +kernel
theorem dM_clear_6 : decode cM_clear 6 = .ok (.iconst 0, 1) := by decide +kernel
theorem dM_clear_7 : decode cM_clear 7 = .ok (.putfield 15, 3) := by decide +kernel
theorem dM_clear_10 : decode cM_clear 10 = .ok (.aload_n 0, 1) := by decide +kernel
theorem dM_clear_11 : decode cM_clear 11 = .ok (.iconst 0, 1) := by decide +kernel
theorem dM_clear_12 : decode cM_clear 12 = .ok (.putfield 18, 3) := by decide +kernel
theorem dM_clear_15 : decode cM_clear 15 = .ok (.aload_n 0, 1) := by decide +kernel
theorem dM_clear_16 : decode cM_clear 16 = .ok (.iconst 0, 1) := by decide +kernel
theorem dM_clear_17 : decode cM_clear 17 = .ok (.putfield 25, 3) := by decide +kernel
theorem dM_clear_20 : decode cM_clear 20 = .ok (.return_, 1) := by decide +kernel
theorem dP_init_0 : decode cP_init 0 = .ok (.aload_n 0, 1) := by decide +kernel
theorem dP_init_1 : decode cP_init 1 = .ok (.invokespecial 1, 3) := by decide +kernel
theorem dP_init_4 : decode cP_init 4 = .ok (.return_, 1) := by decide +kernel
theorem dP_setLimits_0 : decode cP_setLimits 0 = .ok (.aload_n 0, 1) := by decide +kernel
theorem dP_setLimits_1 : decode cP_setLimits 1 = .ok (.iload_n 1, 1) := by decide +kernel
theorem dP_setLimits_2 : decode cP_setLimits 2 = .ok (.putfield 7, 3) := by decide +kernel
theorem dP_setLimits_5 : decode cP_setLimits 5 = .ok (.aload_n 0, 1) := by decide +kernel
theorem dP_setLimits_6 : decode cP_setLimits 6 = .ok (.iload_n 2, 1) := by decide +kernel
theorem dP_setLimits_7 : decode cP_setLimits 7 = .ok (.putfield 13, 3) := by decide +kernel
theorem dP_setLimits_10 : decode cP_setLimits 10 = .ok (.aload_n 0, 1) := by decide +kernel
theorem dP_setLimits_11 : decode cP_setLimits 11 = .ok (.iload_n 3, 1) := by decide +kernel
theorem dP_setLimits_12 : decode cP_setLimits 12 = .ok (.putfield 16, 3) := by decide +kernel
theorem dP_setLimits_15 : decode cP_setLimits 15 = .ok (.aload_n 0, 1) := by decide +kernel
theorem dP_setLimits_16 : decode cP_setLimits 16 = .ok (.iload 4, 2) := by decide +kernel
theorem dP_setLimits_18 : decode cP_setLimits 18 = .ok (.putfield 19, 3) := by decide +kernel
theorem dP_setLimits_21 : decode cP_setLimits 21 = .ok (.aload_n 0, 1) := by decide +kernel
theorem dP_setLimits_22 : decode cP_setLimits 22 = .ok (.iload 5, 2) := by decide +kernel
theorem dP_setLimits_24 : decode cP_setLimits 24 = .ok (.putfield 22, 3) := by decide +kernel
theorem dP_setLimits_27 : decode cP_setLimits 27 = .ok (.return_, 1) := by decide +kernel
theorem dP_setRates_0 : decode cP_setRates 0 = .ok (.aload_n 0, 1) := by decide +kernel
theorem dP_setRates_1 : decode cP_setRates 1 = .ok (.iload_n 1, 1) := by decide +kernel
theorem dP_setRates_2 : decode cP_setRates 2 = .ok (.putfield 25, 3) := by decide +kernel
theorem dP_setRates_5 : decode cP_setRates 5 = .ok (.aload_n 0, 1) := by decide +kernel
theorem dP_setRates_6 : decode cP_setRates 6 = .ok (.iload_n 2, 1) := by decide +kernel
theorem dP_setRates_7 : decode cP_setRates 7 = .ok (.putfield 28, 3) := by decide +kernel
theorem dP_setRates_10 : decode cP_setRates 10 = .ok (.aload_n 0, 1) := by decide +kernel
theorem dP_setRates_11 : decode cP_setRates 11 = .ok (.iload_n 3, 1) := by decide +kernel
theorem dP_setRates_12 : decode cP_setRates 12 = .ok (.putfield 31, 3) := by decide +kernel
theorem dP_setRates_15 : decode cP_setRates 15 = .ok (.aload_n 0, 1) := by decide +kernel
theorem dP_setRates_16 : decode cP_setRates 16 = .ok (.iload 4, 2) := by decide +kernel
theorem dP_setRates_18 : decode cP_setRates 18 = .ok (.putfield 34, 3) := by decide +kernel
theorem dP_setRates_21 : decode cP_setRates 21 = .ok (.return_, 1) := by decide +kernel
theorem dP_isNormalLevel_0 : decode cP_isNormalLevel 0 = .ok (.iload_n 1, 1) := by decide +kernel
theorem dP_isNormalLevel_1 : decode cP_isNormalLevel 1 = .ok (.aload_n 0, 1) := by decide +kernel
theorem dP_isNormalLevel_2 : decode cP_isNormalLevel 2 = .ok (.getfield 16, 3) := by decide +kernel
theorem dP_isNormalLevel_5 : decode cP_isNormalLevel 5 = .ok (.aload_n 0, 1) := by decide +kernel
theorem dP_isNormalLevel_6 : decode cP_isNormalLevel 6 = .ok (.getfield 19, 3) := by decide +kernel
theorem dP_isNormalLevel_9 : decode cP_isNormalLevel 9 = .ok (.invokestatic 37, 3) := by decide +kernel
theorem dP_isNormalLevel_12 : decode cP_isNormalLevel 12 = .ok (.ireturn, 1) := by decide +kernel
theorem dP_withinCapacity_0 : decode cP_withinCapacity 0 = .ok (.iconst 0, 1) := by decide +kernel
theorem dP_withinCapacity_1 : decode cP_withinCapacity 1 = .ok (.iload_n 1, 1) := by decide +kernel
theorem dP_withinCapacity_2 : decode cP_withinCapacity 2 = .ok (.aload_n 0, 1) := by decide +kernel
theorem dP_withinCapacity_3 : decode cP_withinCapacity 3 = .ok (.getfield 7, 3) := by decide +kernel
theorem dP_withinCapacity_6 : decode cP_withinCapacity 6 = .ok (.invokestatic 43, 3) := by decide +kernel
theorem dP_withinCapacity_9 : decode cP_withinCapacity 9 = .ok (.invokestatic 49, 3) := by decide +kernel
theorem dP_withinCapacity_12 : decode cP_withinCapacity 12 = .ok (.ireturn, 1) := by decide +kernel
theorem dP_given_0 : decode cP_given 0 = .ok (.iload_n 1, 1) := by decide +kernel
theorem dP_given_1 : decode cP_given 1 = .ok (.invokestatic 52, 3) := by decide +kernel
theorem dP_given_4 : decode cP_given 4 = .ok (.aload_n 0, 1) := by decide +kernel
theorem dP_given_5 : decode cP_given 5 = .ok (.getfield 34, 3) := by decide +kernel
theorem dP_given_8 : decode cP_given 8 = .ok (.imul, 1) := by decide +kernel
theorem dP_given_9 : decode cP_given 9 = .ok (.ireturn, 1) := by decide +kernel
theorem dR_init_0 : decode cR_init 0 = .ok (.aload_n 0, 1) := by decide +kernel
theorem dR_init_1 : decode cR_init 1 = .ok (.invokespecial 1, 3) := by decide +kernel
theorem dR_init_4 : decode cR_init 4 = .ok (.return_, 1) := by decide +kernel
theorem dR_clear_0 : decode cR_clear 0 = .ok (.aload_n 0, 1) := by decide +kernel
theorem dR_clear_1 : decode cR_clear 1 = .ok (.iconst 0, 1) := by decide +kernel
theorem dR_clear_2 : decode cR_clear 2 = .ok (.putfield 7, 3) := by decide +kernel
theorem dR_clear_5 : decode cR_clear 5 = .ok (.aload_n 0, 1) := by decide +kernel
theorem dR_clear_6 : decode cR_clear 6 = .ok (.iconst 0, 1) := by decide +kernel
theorem dR_clear_7 : decode cR_clear 7 = .ok (.putfield 13, 3) := by decide +kernel
theorem dR_clear_10 : decode cR_clear 10 = .ok (.aload_n 0, 1) := by decide +kernel
theorem dR_clear_11 : decode cR_clear 11 = .ok (.iconst 0, 1) := by decide +kernel
theorem dR_clear_12 : decode cR_clear 12 = .ok (.putfield 16, 3) := by decide +kernel
theorem dR_clear_15 : decode cR_clear 15 = .ok (.aload_n 0, 1) := by decide +kernel
theorem dR_clear_16 : decode cR_clear 16 = .ok (.iconst 0, 1) := by decide +kernel
theorem dR_clear_17 : decode cR_clear 17 = .ok (.putfield 20, 3) := by decide +kernel
theorem dR_clear_20 : decode cR_clear 20 = .ok (.aload_n 0, 1) := by decide +kernel
theorem dR_clear_21 : decode cR_clear 21 = .ok (.iconst 0, 1) := by decide +kernel
theorem dR_clear_22 : decode cR_clear 22 = .ok (.putfield 23, 3) := by decide +kernel
theorem dR_clear_25 : decode cR_clear 25 = .ok (.aload_n 0, 1) := by decide +kernel
theorem dR_clear_26 : decode cR_clear 26 = .ok (.iconst 0, 1) := by decide +kernel
theorem dR_clear_27 : decode cR_clear 27 = .ok (.putfield 26, 3) := by decide +kernel
theorem dR_clear_30 : decode cR_clear 30 = .ok (.aload_n 0, 1) := by decide +kernel
theorem dR_clear_31 : decode cR_clear 31 = .ok (.iconst 0, 1) := by decide +kernel
theorem dR_clear_32 : decode cR_clear 32 = .ok (.putfield 29, 3) := by decide +kernel
theorem dR_clear_35 : decode cR_clear 35 = .ok (.return_, 1) := by decide +kernel
theorem dS_init_0 : decode cS_init 0 = .ok (.aload_n 0, 1) := by decide +kernel
theorem dS_init_1 : decode cS_init 1 = .ok (.invokespecial 1, 3) := by decide +kernel
theorem dS_init_4 : decode cS_init 4 = .ok (.return_, 1) := by decide +kernel
theorem dS_put_0 : decode cS_put 0 = .ok (.aload_n 0, 1) := by decide +kernel
theorem dS_put_1 : decode cS_put 1 = .ok (.iload_n 1, 1) := by decide +kernel
theorem dS_put_2 : decode cS_put 2 = .ok (.putfield 7, 3) := by decide +kernel
theorem dS_put_5 : decode cS_put 5 = .ok (.aload_n 0, 1) := by decide +kernel
theorem dS_put_6 : decode cS_put 6 = .ok (.iload_n 2, 1) := by decide +kernel
theorem dS_put_7 : decode cS_put 7 = .ok (.putfield 13, 3) := by decide +kernel
theorem dS_put_10 : decode cS_put 10 = .ok (.return_, 1) := by decide +kernel
theorem dS_holds_0 : decode cS_holds 0 = .ok (.iload_n 1, 1) := by decide +kernel
theorem dS_holds_1 : decode cS_holds 1 = .ok (.aload_n 0, 1) := by decide +kernel
theorem dS_holds_2 : decode cS_holds 2 = .ok (.getfield 7, 3) := by decide +kernel
theorem dS_holds_5 : decode cS_holds 5 = .ok (.aload_n 0, 1) := by decide +kernel
theorem dS_holds_6 : decode cS_holds 6 = .ok (.getfield 13, 3) := by decide +kernel
theorem dS_holds_9 : decode cS_holds 9 = .ok (.invokestatic 16, 3) := by decide +kernel
theorem dS_holds_12 : decode cS_holds 12 = .ok (.ireturn, 1) := by decide +kernel
theorem dU_init_0 : decode cU_init 0 = .ok (.aload_n 0, 1) := by decide +kernel
theorem dU_init_1 : decode cU_init 1 = .ok (.invokespecial 1, 3) := by decide +kernel
theorem dU_init_4 : decode cU_init 4 = .ok (.return_, 1) := by decide +kernel
theorem dU_hasFailed_0 : decode cU_hasFailed 0 = .ok (.aload_n 0, 1) := by decide +kernel
theorem dU_hasFailed_1 : decode cU_hasFailed 1 = .ok (.getfield 7, 3) := by decide +kernel
theorem dU_hasFailed_4 : decode cU_hasFailed 4 = .ok (.iload_n 1, 1) := by decide +kernel
theorem dU_hasFailed_5 : decode cU_hasFailed 5 = .ok (.invokestatic 13, 3) := by decide +kernel
theorem dU_hasFailed_8 : decode cU_hasFailed 8 = .ok (.ireturn, 1) := by decide +kernel
theorem dU_awaitsAcknowledgement_0 : decode cU_awaitsAcknowledgement 0 = .ok (.aload_n 0, 1) := by decide +kernel
theorem dU_awaitsAcknowledgement_1 : decode cU_awaitsAcknowledgement 1 = .ok (.getfield 7, 3) := by decide +kernel
theorem dU_awaitsAcknowledgement_4 : decode cU_awaitsAcknowledgement 4 = .ok (.aload_n 0, 1) := by decide +kernel
theorem dU_awaitsAcknowledgement_5 : decode cU_awaitsAcknowledgement 5 = .ok (.getfield 19, 3) := by decide +kernel
theorem dU_awaitsAcknowledgement_8 : decode cU_awaitsAcknowledgement 8 = .ok (.iconst (-1), 1) := by decide +kernel
theorem dU_awaitsAcknowledgement_9 : decode cU_awaitsAcknowledgement 9 = .ok (.ixor, 1) := by decide +kernel
theorem dU_awaitsAcknowledgement_10 : decode cU_awaitsAcknowledgement 10 = .ok (.iand, 1) := by decide +kernel
theorem dU_awaitsAcknowledgement_11 : decode cU_awaitsAcknowledgement 11 = .ok (.iload_n 1, 1) := by decide +kernel
theorem dU_awaitsAcknowledgement_12 : decode cU_awaitsAcknowledgement 12 = .ok (.invokestatic 13, 3) := by decide +kernel
theorem dU_awaitsAcknowledgement_15 : decode cU_awaitsAcknowledgement 15 = .ok (.ireturn, 1) := by decide +kernel
theorem dU_fail_0 : decode cU_fail 0 = .ok (.aload_n 0, 1) := by decide +kernel
theorem dU_fail_1 : decode cU_fail 1 = .ok (.aload_n 0, 1) := by decide +kernel
theorem dU_fail_2 : decode cU_fail 2 = .ok (.getfield 7, 3) := by decide +kernel
theorem dU_fail_5 : decode cU_fail 5 = .ok (.iload_n 1, 1) := by decide +kernel
theorem dU_fail_6 : decode cU_fail 6 = .ok (.iconst 1, 1) := by decide +kernel
theorem dU_fail_7 : decode cU_fail 7 = .ok (.invokestatic 22, 3) := by decide +kernel
theorem dU_fail_10 : decode cU_fail 10 = .ok (.putfield 7, 3) := by decide +kernel
theorem dU_fail_13 : decode cU_fail 13 = .ok (.return_, 1) := by decide +kernel
theorem dU_acknowledge_0 : decode cU_acknowledge 0 = .ok (.aload_n 0, 1) := by decide +kernel
theorem dU_acknowledge_1 : decode cU_acknowledge 1 = .ok (.aload_n 0, 1) := by decide +kernel
theorem dU_acknowledge_2 : decode cU_acknowledge 2 = .ok (.getfield 19, 3) := by decide +kernel
theorem dU_acknowledge_5 : decode cU_acknowledge 5 = .ok (.iload_n 1, 1) := by decide +kernel
theorem dU_acknowledge_6 : decode cU_acknowledge 6 = .ok (.iconst 1, 1) := by decide +kernel
theorem dU_acknowledge_7 : decode cU_acknowledge 7 = .ok (.invokestatic 22, 3) := by decide +kernel
theorem dU_acknowledge_10 : decode cU_acknowledge 10 = .ok (.putfield 19, 3) := by decide +kernel
theorem dU_acknowledge_13 : decode cU_acknowledge 13 = .ok (.return_, 1) := by decide +kernel
theorem dU_repair_0 : decode cU_repair 0 = .ok (.aload_n 0, 1) := by decide +kernel
theorem dU_repair_1 : decode cU_repair 1 = .ok (.aload_n 0, 1) := by decide +kernel
theorem dU_repair_2 : decode cU_repair 2 = .ok (.getfield 7, 3) := by decide +kernel
theorem dU_repair_5 : decode cU_repair 5 = .ok (.iload_n 1, 1) := by decide +kernel
theorem dU_repair_6 : decode cU_repair 6 = .ok (.iconst 0, 1) := by decide +kernel
theorem dU_repair_7 : decode cU_repair 7 = .ok (.invokestatic 22, 3) := by decide +kernel
theorem dU_repair_10 : decode cU_repair 10 = .ok (.putfield 7, 3) := by decide +kernel
theorem dU_repair_13 : decode cU_repair 13 = .ok (.aload_n 0, 1) := by decide +kernel
theorem dU_repair_14 : decode cU_repair 14 = .ok (.aload_n 0, 1) := by decide +kernel
theorem dU_repair_15 : decode cU_repair 15 = .ok (.getfield 19, 3) := by decide +kernel
theorem dU_repair_18 : decode cU_repair 18 = .ok (.iload_n 1, 1) := by decide +kernel
theorem dU_repair_19 : decode cU_repair 19 = .ok (.iconst 0, 1) := by decide +kernel
theorem dU_repair_20 : decode cU_repair 20 = .ok (.invokestatic 22, 3) := by decide +kernel
theorem dU_repair_23 : decode cU_repair 23 = .ok (.putfield 19, 3) := by decide +kernel
theorem dU_repair_26 : decode cU_repair 26 = .ok (.return_, 1) := by decide +kernel
theorem dU_clear_0 : decode cU_clear 0 = .ok (.aload_n 0, 1) := by decide +kernel
theorem dU_clear_1 : decode cU_clear 1 = .ok (.iconst 0, 1) := by decide +kernel
theorem dU_clear_2 : decode cU_clear 2 = .ok (.putfield 7, 3) := by decide +kernel
theorem dU_clear_5 : decode cU_clear 5 = .ok (.aload_n 0, 1) := by decide +kernel
theorem dU_clear_6 : decode cU_clear 6 = .ok (.iconst 0, 1) := by decide +kernel
theorem dU_clear_7 : decode cU_clear 7 = .ok (.putfield 19, 3) := by decide +kernel
theorem dU_clear_10 : decode cU_clear 10 = .ok (.return_, 1) := by decide +kernel
theorem dL_begin_0 : decode cL_begin 0 = .ok (.aload_n 0, 1) := by decide +kernel
theorem dL_begin_1 : decode cL_begin 1 = .ok (.iload_n 1, 1) := by decide +kernel
theorem dL_begin_2 : decode cL_begin 2 = .ok (.iload_n 2, 1) := by decide +kernel
theorem dL_begin_3 : decode cL_begin 3 = .ok (.iload_n 3, 1) := by decide +kernel
theorem dL_begin_4 : decode cL_begin 4 = .ok (.iload 4, 2) := by decide +kernel
theorem dL_begin_6 : decode cL_begin 6 = .ok (.iload 5, 2) := by decide +kernel
theorem dL_begin_8 : decode cL_begin 8 = .ok (.iload 6, 2) := by decide +kernel
theorem dL_begin_10 : decode cL_begin 10 = .ok (.iload 7, 2) := by decide +kernel
theorem dL_begin_12 : decode cL_begin 12 = .ok (.iload 8, 2) := by decide +kernel
theorem dL_begin_14 : decode cL_begin 14 = .ok (.iload 9, 2) := by decide +kernel
theorem dL_begin_16 : decode cL_begin 16 = .ok (.invokevirtual 7, 3) := by decide +kernel
theorem dL_begin_19 : decode cL_begin 19 = .ok (.goto 7, 3) := by decide +kernel
theorem dL_begin_22 : decode cL_begin 22 = .ok (.astore 10, 2) := by decide +kernel
theorem dL_begin_24 : decode cL_begin 24 = .ok (.iconst 1, 1) := by decide +kernel
theorem dL_begin_25 : decode cL_begin 25 = .ok (.ireturn, 1) := by decide +kernel
theorem dL_begin_26 : decode cL_begin 26 = .ok (.iconst 0, 1) := by decide +kernel
theorem dL_begin_27 : decode cL_begin 27 = .ok (.ireturn, 1) := by decide +kernel
theorem dL_pump_0 : decode cL_pump 0 = .ok (.aload_n 0, 1) := by decide +kernel
theorem dL_pump_1 : decode cL_pump 1 = .ok (.iload_n 1, 1) := by decide +kernel
theorem dL_pump_2 : decode cL_pump 2 = .ok (.iload_n 2, 1) := by decide +kernel
theorem dL_pump_3 : decode cL_pump 3 = .ok (.iload_n 3, 1) := by decide +kernel
theorem dL_pump_4 : decode cL_pump 4 = .ok (.invokevirtual 15, 3) := by decide +kernel
theorem dL_pump_7 : decode cL_pump 7 = .ok (.goto 7, 3) := by decide +kernel
theorem dL_pump_10 : decode cL_pump 10 = .ok (.astore 4, 2) := by decide +kernel
theorem dL_pump_12 : decode cL_pump 12 = .ok (.iconst 1, 1) := by decide +kernel
theorem dL_pump_13 : decode cL_pump 13 = .ok (.ireturn, 1) := by decide +kernel
theorem dL_pump_14 : decode cL_pump 14 = .ok (.iconst 0, 1) := by decide +kernel
theorem dL_pump_15 : decode cL_pump 15 = .ok (.ireturn, 1) := by decide +kernel
theorem dL_say_0 : decode cL_say 0 = .ok (.aload_n 0, 1) := by decide +kernel
theorem dL_say_1 : decode cL_say 1 = .ok (.iload_n 1, 1) := by decide +kernel
theorem dL_say_2 : decode cL_say 2 = .ok (.invokevirtual 19, 3) := by decide +kernel
theorem dL_say_5 : decode cL_say 5 = .ok (.goto 6, 3) := by decide +kernel
theorem dL_say_8 : decode cL_say 8 = .ok (.astore_n 2, 1) := by decide +kernel
theorem dL_say_9 : decode cL_say 9 = .ok (.iconst 1, 1) := by decide +kernel
theorem dL_say_10 : decode cL_say 10 = .ok (.ireturn, 1) := by decide +kernel
theorem dL_say_11 : decode cL_say 11 = .ok (.iconst 0, 1) := by decide +kernel
theorem dL_say_12 : decode cL_say 12 = .ok (.ireturn, 1) := by decide +kernel
theorem dL_unit_0 : decode cL_unit 0 = .ok (.aload_n 0, 1) := by decide +kernel
theorem dL_unit_1 : decode cL_unit 1 = .ok (.iload_n 1, 1) := by decide +kernel
theorem dL_unit_2 : decode cL_unit 2 = .ok (.iload_n 2, 1) := by decide +kernel
theorem dL_unit_3 : decode cL_unit 3 = .ok (.invokevirtual 23, 3) := by decide +kernel
theorem dL_unit_6 : decode cL_unit 6 = .ok (.goto 6, 3) := by decide +kernel
theorem dL_unit_9 : decode cL_unit 9 = .ok (.astore_n 3, 1) := by decide +kernel
theorem dL_unit_10 : decode cL_unit 10 = .ok (.iconst 1, 1) := by decide +kernel
theorem dL_unit_11 : decode cL_unit 11 = .ok (.ireturn, 1) := by decide +kernel
theorem dL_unit_12 : decode cL_unit 12 = .ok (.iconst 0, 1) := by decide +kernel
theorem dL_unit_13 : decode cL_unit 13 = .ok (.ireturn, 1) := by decide +kernel
theorem dL_cycle_0 : decode cL_cycle 0 = .ok (.aload_n 1, 1) := by decide +kernel
theorem dL_cycle_1 : decode cL_cycle 1 = .ok (.iconst 0, 1) := by decide +kernel
theorem dL_cycle_2 : decode cL_cycle 2 = .ok (.aload_n 0, 1) := by decide +kernel
theorem dL_cycle_3 : decode cL_cycle 3 = .ok (.invokevirtual 27, 3) := by decide +kernel
theorem dL_cycle_6 : decode cL_cycle 6 = .ok (.i2l, 1) := by decide +kernel
theorem dL_cycle_7 : decode cL_cycle 7 = .ok (.lastore, 1) := by decide +kernel
theorem dL_cycle_8 : decode cL_cycle 8 = .ok (.goto 6, 3) := by decide +kernel
theorem dL_cycle_11 : decode cL_cycle 11 = .ok (.astore_n 2, 1) := by decide +kernel
theorem dL_cycle_12 : decode cL_cycle 12 = .ok (.iconst 1, 1) := by decide +kernel
theorem dL_cycle_13 : decode cL_cycle 13 = .ok (.ireturn, 1) := by decide +kernel
theorem dL_cycle_14 : decode cL_cycle 14 = .ok (.iconst 0, 1) := by decide +kernel
theorem dL_cycle_15 : decode cL_cycle 15 = .ok (.ireturn, 1) := by decide +kernel
theorem dL_told_0 : decode cL_told 0 = .ok (.aload_n 2, 1) := by decide +kernel
theorem dL_told_1 : decode cL_told 1 = .ok (.iconst 0, 1) := by decide +kernel
theorem dL_told_2 : decode cL_told 2 = .ok (.aload_n 0, 1) := by decide +kernel
theorem dL_told_3 : decode cL_told 3 = .ok (.iload_n 1, 1) := by decide +kernel
theorem dL_told_4 : decode cL_told 4 = .ok (.invokevirtual 33, 3) := by decide +kernel
theorem dL_told_7 : decode cL_told 7 = .ok (.i2l, 1) := by decide +kernel
theorem dL_told_8 : decode cL_told 8 = .ok (.lastore, 1) := by decide +kernel
theorem dL_told_9 : decode cL_told 9 = .ok (.goto 6, 3) := by decide +kernel
theorem dL_told_12 : decode cL_told 12 = .ok (.astore_n 3, 1) := by decide +kernel
theorem dL_told_13 : decode cL_told 13 = .ok (.iconst 1, 1) := by decide +kernel
theorem dL_told_14 : decode cL_told 14 = .ok (.ireturn, 1) := by decide +kernel
theorem dL_told_15 : decode cL_told 15 = .ok (.iconst 0, 1) := by decide +kernel
theorem dL_told_16 : decode cL_told 16 = .ok (.ireturn, 1) := by decide +kernel
theorem dL_state_0 : decode cL_state 0 = .ok (.aload_n 2, 1) := by decide +kernel
theorem dL_state_1 : decode cL_state 1 = .ok (.iconst 0, 1) := by decide +kernel
theorem dL_state_2 : decode cL_state 2 = .ok (.aload_n 0, 1) := by decide +kernel
theorem dL_state_3 : decode cL_state 3 = .ok (.iload_n 1, 1) := by decide +kernel
theorem dL_state_4 : decode cL_state 4 = .ok (.invokevirtual 37, 3) := by decide +kernel
theorem dL_state_7 : decode cL_state 7 = .ok (.i2l, 1) := by decide +kernel
theorem dL_state_8 : decode cL_state 8 = .ok (.lastore, 1) := by decide +kernel
theorem dL_state_9 : decode cL_state 9 = .ok (.goto 6, 3) := by decide +kernel
theorem dL_state_12 : decode cL_state 12 = .ok (.astore_n 3, 1) := by decide +kernel
end
section
theorem dL_state_13 : decode cL_state 13 = .ok (.iconst 1, 1) := by decide +kernel
theorem dL_state_14 : decode cL_state 14 = .ok (.ireturn, 1) := by decide +kernel
theorem dL_state_15 : decode cL_state 15 = .ok (.iconst 0, 1) := by decide +kernel
theorem dL_state_16 : decode cL_state 16 = .ok (.ireturn, 1) := by decide +kernel
theorem dL_law_0 : decode cL_law 0 = .ok (.new 8, 3) := by decide +kernel
theorem dL_law_3 : decode cL_law 3 = .ok (.dup, 1) := by decide +kernel
theorem dL_law_4 : decode cL_law 4 = .ok (.invokespecial 40, 3) := by decide +kernel
theorem dL_law_7 : decode cL_law 7 = .ok (.astore_n 1, 1) := by decide +kernel
theorem dL_law_8 : decode cL_law 8 = .ok (.new 41, 3) := by decide +kernel
theorem dL_law_11 : decode cL_law 11 = .ok (.dup, 1) := by decide +kernel
theorem dL_law_12 : decode cL_law 12 = .ok (.invokespecial 43, 3) := by decide +kernel
theorem dL_law_15 : decode cL_law 15 = .ok (.astore_n 2, 1) := by decide +kernel
theorem dL_law_16 : decode cL_law 16 = .ok (.iconst 1, 1) := by decide +kernel
theorem dL_law_17 : decode cL_law 17 = .ok (.newarray .long, 2) := by decide +kernel
theorem dL_law_19 : decode cL_law 19 = .ok (.astore_n 3, 1) := by decide +kernel
theorem dL_law_20 : decode cL_law 20 = .ok (.iconst 0, 1) := by decide +kernel
theorem dL_law_21 : decode cL_law 21 = .ok (.istore 4, 2) := by decide +kernel
theorem dL_law_23 : decode cL_law 23 = .ok (.iload 4, 2) := by decide +kernel
theorem dL_law_25 : decode cL_law 25 = .ok (.aload_n 0, 1) := by decide +kernel
theorem dL_law_26 : decode cL_law 26 = .ok (.arraylength, 1) := by decide +kernel
theorem dL_law_27 : decode cL_law 27 = .ok (.bipush 10, 2) := by decide +kernel
theorem dL_law_29 : decode cL_law 29 = .ok (.isub, 1) := by decide +kernel
theorem dL_law_30 : decode cL_law 30 = .ok (.if_icmp .gt 602, 3) := by decide +kernel
theorem dL_law_33 : decode cL_law 33 = .ok (.aload_n 0, 1) := by decide +kernel
theorem dL_law_34 : decode cL_law 34 = .ok (.iload 4, 2) := by decide +kernel
theorem dL_law_36 : decode cL_law 36 = .ok (.iaload, 1) := by decide +kernel
theorem dL_law_37 : decode cL_law 37 = .ok (.bipush 15, 2) := by decide +kernel
theorem dL_law_39 : decode cL_law 39 = .ok (.iand, 1) := by decide +kernel
theorem dL_law_40 : decode cL_law 40 = .ok (.tableswitch 586 0 8 #[52, 192, 215, 238, 330, 366, 430, 474, 530], 52) := by decide +kernel
theorem dL_law_92 : decode cL_law 92 = .ok (.aload_n 1, 1) := by decide +kernel
theorem dL_law_93 : decode cL_law 93 = .ok (.aload_n 0, 1) := by decide +kernel
theorem dL_law_94 : decode cL_law 94 = .ok (.iload 4, 2) := by decide +kernel
theorem dL_law_96 : decode cL_law 96 = .ok (.iconst 1, 1) := by decide +kernel
theorem dL_law_97 : decode cL_law 97 = .ok (.iadd, 1) := by decide +kernel
theorem dL_law_98 : decode cL_law 98 = .ok (.iaload, 1) := by decide +kernel
theorem dL_law_99 : decode cL_law 99 = .ok (.aload_n 0, 1) := by decide +kernel
theorem dL_law_100 : decode cL_law 100 = .ok (.iload 4, 2) := by decide +kernel
theorem dL_law_102 : decode cL_law 102 = .ok (.iconst 2, 1) := by decide +kernel
theorem dL_law_103 : decode cL_law 103 = .ok (.iadd, 1) := by decide +kernel
theorem dL_law_104 : decode cL_law 104 = .ok (.iaload, 1) := by decide +kernel
theorem dL_law_105 : decode cL_law 105 = .ok (.aload_n 0, 1) := by decide +kernel
theorem dL_law_106 : decode cL_law 106 = .ok (.iload 4, 2) := by decide +kernel
theorem dL_law_108 : decode cL_law 108 = .ok (.iconst 3, 1) := by decide +kernel
theorem dL_law_109 : decode cL_law 109 = .ok (.iadd, 1) := by decide +kernel
theorem dL_law_110 : decode cL_law 110 = .ok (.iaload, 1) := by decide +kernel
theorem dL_law_111 : decode cL_law 111 = .ok (.aload_n 0, 1) := by decide +kernel
theorem dL_law_112 : decode cL_law 112 = .ok (.iload 4, 2) := by decide +kernel
theorem dL_law_114 : decode cL_law 114 = .ok (.iconst 4, 1) := by decide +kernel
theorem dL_law_115 : decode cL_law 115 = .ok (.iadd, 1) := by decide +kernel
theorem dL_law_116 : decode cL_law 116 = .ok (.iaload, 1) := by decide +kernel
theorem dL_law_117 : decode cL_law 117 = .ok (.aload_n 0, 1) := by decide +kernel
theorem dL_law_118 : decode cL_law 118 = .ok (.iload 4, 2) := by decide +kernel
theorem dL_law_120 : decode cL_law 120 = .ok (.iconst 5, 1) := by decide +kernel
theorem dL_law_121 : decode cL_law 121 = .ok (.iadd, 1) := by decide +kernel
theorem dL_law_122 : decode cL_law 122 = .ok (.iaload, 1) := by decide +kernel
theorem dL_law_123 : decode cL_law 123 = .ok (.aload_n 0, 1) := by decide +kernel
theorem dL_law_124 : decode cL_law 124 = .ok (.iload 4, 2) := by decide +kernel
theorem dL_law_126 : decode cL_law 126 = .ok (.bipush 6, 2) := by decide +kernel
theorem dL_law_128 : decode cL_law 128 = .ok (.iadd, 1) := by decide +kernel
theorem dL_law_129 : decode cL_law 129 = .ok (.iaload, 1) := by decide +kernel
theorem dL_law_130 : decode cL_law 130 = .ok (.aload_n 0, 1) := by decide +kernel
theorem dL_law_131 : decode cL_law 131 = .ok (.iload 4, 2) := by decide +kernel
theorem dL_law_133 : decode cL_law 133 = .ok (.bipush 7, 2) := by decide +kernel
theorem dL_law_135 : decode cL_law 135 = .ok (.iadd, 1) := by decide +kernel
theorem dL_law_136 : decode cL_law 136 = .ok (.iaload, 1) := by decide +kernel
theorem dL_law_137 : decode cL_law 137 = .ok (.aload_n 0, 1) := by decide +kernel
theorem dL_law_138 : decode cL_law 138 = .ok (.iload 4, 2) := by decide +kernel
theorem dL_law_140 : decode cL_law 140 = .ok (.bipush 8, 2) := by decide +kernel
theorem dL_law_142 : decode cL_law 142 = .ok (.iadd, 1) := by decide +kernel
theorem dL_law_143 : decode cL_law 143 = .ok (.iaload, 1) := by decide +kernel
theorem dL_law_144 : decode cL_law 144 = .ok (.aload_n 0, 1) := by decide +kernel
theorem dL_law_145 : decode cL_law 145 = .ok (.iload 4, 2) := by decide +kernel
theorem dL_law_147 : decode cL_law 147 = .ok (.bipush 9, 2) := by decide +kernel
theorem dL_law_149 : decode cL_law 149 = .ok (.iadd, 1) := by decide +kernel
theorem dL_law_150 : decode cL_law 150 = .ok (.iaload, 1) := by decide +kernel
theorem dL_law_151 : decode cL_law 151 = .ok (.invokestatic 44, 3) := by decide +kernel
theorem dL_law_154 : decode cL_law 154 = .ok (.istore 5, 2) := by decide +kernel
theorem dL_law_156 : decode cL_law 156 = .ok (.aload_n 2, 1) := by decide +kernel
theorem dL_law_157 : decode cL_law 157 = .ok (.aload_n 0, 1) := by decide +kernel
theorem dL_law_158 : decode cL_law 158 = .ok (.iload 4, 2) := by decide +kernel
theorem dL_law_160 : decode cL_law 160 = .ok (.iconst 1, 1) := by decide +kernel
theorem dL_law_161 : decode cL_law 161 = .ok (.iadd, 1) := by decide +kernel
theorem dL_law_162 : decode cL_law 162 = .ok (.iaload, 1) := by decide +kernel
theorem dL_law_163 : decode cL_law 163 = .ok (.aload_n 0, 1) := by decide +kernel
theorem dL_law_164 : decode cL_law 164 = .ok (.iload 4, 2) := by decide +kernel
theorem dL_law_166 : decode cL_law 166 = .ok (.iconst 2, 1) := by decide +kernel
theorem dL_law_167 : decode cL_law 167 = .ok (.iadd, 1) := by decide +kernel
theorem dL_law_168 : decode cL_law 168 = .ok (.iaload, 1) := by decide +kernel
theorem dL_law_169 : decode cL_law 169 = .ok (.aload_n 0, 1) := by decide +kernel
theorem dL_law_170 : decode cL_law 170 = .ok (.iload 4, 2) := by decide +kernel
theorem dL_law_172 : decode cL_law 172 = .ok (.iconst 3, 1) := by decide +kernel
theorem dL_law_173 : decode cL_law 173 = .ok (.iadd, 1) := by decide +kernel
theorem dL_law_174 : decode cL_law 174 = .ok (.iaload, 1) := by decide +kernel
theorem dL_law_175 : decode cL_law 175 = .ok (.aload_n 0, 1) := by decide +kernel
theorem dL_law_176 : decode cL_law 176 = .ok (.iload 4, 2) := by decide +kernel
theorem dL_law_178 : decode cL_law 178 = .ok (.iconst 4, 1) := by decide +kernel
theorem dL_law_179 : decode cL_law 179 = .ok (.iadd, 1) := by decide +kernel
theorem dL_law_180 : decode cL_law 180 = .ok (.iaload, 1) := by decide +kernel
theorem dL_law_181 : decode cL_law 181 = .ok (.aload_n 0, 1) := by decide +kernel
theorem dL_law_182 : decode cL_law 182 = .ok (.iload 4, 2) := by decide +kernel
theorem dL_law_184 : decode cL_law 184 = .ok (.iconst 5, 1) := by decide +kernel
theorem dL_law_185 : decode cL_law 185 = .ok (.iadd, 1) := by decide +kernel
theorem dL_law_186 : decode cL_law 186 = .ok (.iaload, 1) := by decide +kernel
theorem dL_law_187 : decode cL_law 187 = .ok (.aload_n 0, 1) := by decide +kernel
theorem dL_law_188 : decode cL_law 188 = .ok (.iload 4, 2) := by decide +kernel
theorem dL_law_190 : decode cL_law 190 = .ok (.bipush 6, 2) := by decide +kernel
theorem dL_law_192 : decode cL_law 192 = .ok (.iadd, 1) := by decide +kernel
theorem dL_law_193 : decode cL_law 193 = .ok (.iaload, 1) := by decide +kernel
theorem dL_law_194 : decode cL_law 194 = .ok (.aload_n 0, 1) := by decide +kernel
theorem dL_law_195 : decode cL_law 195 = .ok (.iload 4, 2) := by decide +kernel
theorem dL_law_197 : decode cL_law 197 = .ok (.bipush 7, 2) := by decide +kernel
theorem dL_law_199 : decode cL_law 199 = .ok (.iadd, 1) := by decide +kernel
theorem dL_law_200 : decode cL_law 200 = .ok (.iaload, 1) := by decide +kernel
theorem dL_law_201 : decode cL_law 201 = .ok (.aload_n 0, 1) := by decide +kernel
theorem dL_law_202 : decode cL_law 202 = .ok (.iload 4, 2) := by decide +kernel
theorem dL_law_204 : decode cL_law 204 = .ok (.bipush 8, 2) := by decide +kernel
theorem dL_law_206 : decode cL_law 206 = .ok (.iadd, 1) := by decide +kernel
theorem dL_law_207 : decode cL_law 207 = .ok (.iaload, 1) := by decide +kernel
theorem dL_law_208 : decode cL_law 208 = .ok (.aload_n 0, 1) := by decide +kernel
theorem dL_law_209 : decode cL_law 209 = .ok (.iload 4, 2) := by decide +kernel
theorem dL_law_211 : decode cL_law 211 = .ok (.bipush 9, 2) := by decide +kernel
theorem dL_law_213 : decode cL_law 213 = .ok (.iadd, 1) := by decide +kernel
theorem dL_law_214 : decode cL_law 214 = .ok (.iaload, 1) := by decide +kernel
theorem dL_law_215 : decode cL_law 215 = .ok (.invokevirtual 49, 3) := by decide +kernel
theorem dL_law_218 : decode cL_law 218 = .ok (.aload_n 2, 1) := by decide +kernel
theorem dL_law_219 : decode cL_law 219 = .ok (.invokevirtual 50, 3) := by decide +kernel
theorem dL_law_222 : decode cL_law 222 = .ok (.iload 5, 2) := by decide +kernel
theorem dL_law_224 : decode cL_law 224 = .ok (.if_icmp .eq 5, 3) := by decide +kernel
theorem dL_law_227 : decode cL_law 227 = .ok (.iconst 0, 1) := by decide +kernel
theorem dL_law_228 : decode cL_law 228 = .ok (.ireturn, 1) := by decide +kernel
theorem dL_law_229 : decode cL_law 229 = .ok (.goto 397, 3) := by decide +kernel
theorem dL_law_232 : decode cL_law 232 = .ok (.aload_n 1, 1) := by decide +kernel
theorem dL_law_233 : decode cL_law 233 = .ok (.aload_n 0, 1) := by decide +kernel
theorem dL_law_234 : decode cL_law 234 = .ok (.iload 4, 2) := by decide +kernel
theorem dL_law_236 : decode cL_law 236 = .ok (.iconst 1, 1) := by decide +kernel
theorem dL_law_237 : decode cL_law 237 = .ok (.iadd, 1) := by decide +kernel
theorem dL_law_238 : decode cL_law 238 = .ok (.iaload, 1) := by decide +kernel
theorem dL_law_239 : decode cL_law 239 = .ok (.invokevirtual 53, 3) := by decide +kernel
theorem dL_law_242 : decode cL_law 242 = .ok (.aload_n 2, 1) := by decide +kernel
theorem dL_law_243 : decode cL_law 243 = .ok (.aload_n 0, 1) := by decide +kernel
theorem dL_law_244 : decode cL_law 244 = .ok (.iload 4, 2) := by decide +kernel
theorem dL_law_246 : decode cL_law 246 = .ok (.iconst 1, 1) := by decide +kernel
theorem dL_law_247 : decode cL_law 247 = .ok (.iadd, 1) := by decide +kernel
theorem dL_law_248 : decode cL_law 248 = .ok (.iaload, 1) := by decide +kernel
theorem dL_law_249 : decode cL_law 249 = .ok (.invokevirtual 56, 3) := by decide +kernel
theorem dL_law_252 : decode cL_law 252 = .ok (.goto 374, 3) := by decide +kernel
theorem dL_law_255 : decode cL_law 255 = .ok (.aload_n 1, 1) := by decide +kernel
theorem dL_law_256 : decode cL_law 256 = .ok (.aload_n 0, 1) := by decide +kernel
theorem dL_law_257 : decode cL_law 257 = .ok (.iload 4, 2) := by decide +kernel
theorem dL_law_259 : decode cL_law 259 = .ok (.iconst 1, 1) := by decide +kernel
theorem dL_law_260 : decode cL_law 260 = .ok (.iadd, 1) := by decide +kernel
theorem dL_law_261 : decode cL_law 261 = .ok (.iaload, 1) := by decide +kernel
theorem dL_law_262 : decode cL_law 262 = .ok (.invokevirtual 57, 3) := by decide +kernel
theorem dL_law_265 : decode cL_law 265 = .ok (.aload_n 2, 1) := by decide +kernel
theorem dL_law_266 : decode cL_law 266 = .ok (.aload_n 0, 1) := by decide +kernel
theorem dL_law_267 : decode cL_law 267 = .ok (.iload 4, 2) := by decide +kernel
theorem dL_law_269 : decode cL_law 269 = .ok (.iconst 1, 1) := by decide +kernel
theorem dL_law_270 : decode cL_law 270 = .ok (.iadd, 1) := by decide +kernel
theorem dL_law_271 : decode cL_law 271 = .ok (.iaload, 1) := by decide +kernel
theorem dL_law_272 : decode cL_law 272 = .ok (.invokevirtual 60, 3) := by decide +kernel
theorem dL_law_275 : decode cL_law 275 = .ok (.goto 351, 3) := by decide +kernel
theorem dL_law_278 : decode cL_law 278 = .ok (.aload_n 1, 1) := by decide +kernel
theorem dL_law_279 : decode cL_law 279 = .ok (.aload_n 0, 1) := by decide +kernel
theorem dL_law_280 : decode cL_law 280 = .ok (.iload 4, 2) := by decide +kernel
theorem dL_law_282 : decode cL_law 282 = .ok (.iconst 1, 1) := by decide +kernel
theorem dL_law_283 : decode cL_law 283 = .ok (.iadd, 1) := by decide +kernel
theorem dL_law_284 : decode cL_law 284 = .ok (.iaload, 1) := by decide +kernel
theorem dL_law_285 : decode cL_law 285 = .ok (.aload_n 0, 1) := by decide +kernel
theorem dL_law_286 : decode cL_law 286 = .ok (.iload 4, 2) := by decide +kernel
theorem dL_law_288 : decode cL_law 288 = .ok (.iconst 2, 1) := by decide +kernel
theorem dL_law_289 : decode cL_law 289 = .ok (.iadd, 1) := by decide +kernel
theorem dL_law_290 : decode cL_law 290 = .ok (.iaload, 1) := by decide +kernel
theorem dL_law_291 : decode cL_law 291 = .ok (.ifCond .eq 7, 3) := by decide +kernel
theorem dL_law_294 : decode cL_law 294 = .ok (.iconst 1, 1) := by decide +kernel
theorem dL_law_295 : decode cL_law 295 = .ok (.goto 4, 3) := by decide +kernel
theorem dL_law_298 : decode cL_law 298 = .ok (.iconst 0, 1) := by decide +kernel
theorem dL_law_299 : decode cL_law 299 = .ok (.aload_n 0, 1) := by decide +kernel
theorem dL_law_300 : decode cL_law 300 = .ok (.iload 4, 2) := by decide +kernel
theorem dL_law_302 : decode cL_law 302 = .ok (.iconst 3, 1) := by decide +kernel
theorem dL_law_303 : decode cL_law 303 = .ok (.iadd, 1) := by decide +kernel
theorem dL_law_304 : decode cL_law 304 = .ok (.iaload, 1) := by decide +kernel
theorem dL_law_305 : decode cL_law 305 = .ok (.ifCond .eq 7, 3) := by decide +kernel
theorem dL_law_308 : decode cL_law 308 = .ok (.iconst 1, 1) := by decide +kernel
theorem dL_law_309 : decode cL_law 309 = .ok (.goto 4, 3) := by decide +kernel
theorem dL_law_312 : decode cL_law 312 = .ok (.iconst 0, 1) := by decide +kernel
theorem dL_law_313 : decode cL_law 313 = .ok (.invokestatic 61, 3) := by decide +kernel
theorem dL_law_316 : decode cL_law 316 = .ok (.istore 5, 2) := by decide +kernel
theorem dL_law_318 : decode cL_law 318 = .ok (.aload_n 2, 1) := by decide +kernel
theorem dL_law_319 : decode cL_law 319 = .ok (.aload_n 0, 1) := by decide +kernel
theorem dL_law_320 : decode cL_law 320 = .ok (.iload 4, 2) := by decide +kernel
theorem dL_law_322 : decode cL_law 322 = .ok (.iconst 1, 1) := by decide +kernel
theorem dL_law_323 : decode cL_law 323 = .ok (.iadd, 1) := by decide +kernel
theorem dL_law_324 : decode cL_law 324 = .ok (.iaload, 1) := by decide +kernel
theorem dL_law_325 : decode cL_law 325 = .ok (.aload_n 0, 1) := by decide +kernel
theorem dL_law_326 : decode cL_law 326 = .ok (.iload 4, 2) := by decide +kernel
theorem dL_law_328 : decode cL_law 328 = .ok (.iconst 2, 1) := by decide +kernel
theorem dL_law_329 : decode cL_law 329 = .ok (.iadd, 1) := by decide +kernel
theorem dL_law_330 : decode cL_law 330 = .ok (.iaload, 1) := by decide +kernel
theorem dL_law_331 : decode cL_law 331 = .ok (.ifCond .eq 7, 3) := by decide +kernel
theorem dL_law_334 : decode cL_law 334 = .ok (.iconst 1, 1) := by decide +kernel
theorem dL_law_335 : decode cL_law 335 = .ok (.goto 4, 3) := by decide +kernel
theorem dL_law_338 : decode cL_law 338 = .ok (.iconst 0, 1) := by decide +kernel
theorem dL_law_339 : decode cL_law 339 = .ok (.aload_n 0, 1) := by decide +kernel
theorem dL_law_340 : decode cL_law 340 = .ok (.iload 4, 2) := by decide +kernel
theorem dL_law_342 : decode cL_law 342 = .ok (.iconst 3, 1) := by decide +kernel
theorem dL_law_343 : decode cL_law 343 = .ok (.iadd, 1) := by decide +kernel
theorem dL_law_344 : decode cL_law 344 = .ok (.iaload, 1) := by decide +kernel
theorem dL_law_345 : decode cL_law 345 = .ok (.ifCond .eq 7, 3) := by decide +kernel
theorem dL_law_348 : decode cL_law 348 = .ok (.iconst 1, 1) := by decide +kernel
theorem dL_law_349 : decode cL_law 349 = .ok (.goto 4, 3) := by decide +kernel
theorem dL_law_352 : decode cL_law 352 = .ok (.iconst 0, 1) := by decide +kernel
theorem dL_law_353 : decode cL_law 353 = .ok (.invokevirtual 64, 3) := by decide +kernel
theorem dL_law_356 : decode cL_law 356 = .ok (.aload_n 2, 1) := by decide +kernel
theorem dL_law_357 : decode cL_law 357 = .ok (.invokevirtual 50, 3) := by decide +kernel
theorem dL_law_360 : decode cL_law 360 = .ok (.iload 5, 2) := by decide +kernel
theorem dL_law_362 : decode cL_law 362 = .ok (.if_icmp .eq 5, 3) := by decide +kernel
theorem dL_law_365 : decode cL_law 365 = .ok (.iconst 0, 1) := by decide +kernel
theorem dL_law_366 : decode cL_law 366 = .ok (.ireturn, 1) := by decide +kernel
theorem dL_law_367 : decode cL_law 367 = .ok (.goto 259, 3) := by decide +kernel
theorem dL_law_370 : decode cL_law 370 = .ok (.aload_n 1, 1) := by decide +kernel
theorem dL_law_371 : decode cL_law 371 = .ok (.aload_n 0, 1) := by decide +kernel
theorem dL_law_372 : decode cL_law 372 = .ok (.iload 4, 2) := by decide +kernel
theorem dL_law_374 : decode cL_law 374 = .ok (.iconst 1, 1) := by decide +kernel
theorem dL_law_375 : decode cL_law 375 = .ok (.iadd, 1) := by decide +kernel
theorem dL_law_376 : decode cL_law 376 = .ok (.iaload, 1) := by decide +kernel
theorem dL_law_377 : decode cL_law 377 = .ok (.invokestatic 65, 3) := by decide +kernel
theorem dL_law_380 : decode cL_law 380 = .ok (.istore 5, 2) := by decide +kernel
theorem dL_law_382 : decode cL_law 382 = .ok (.aload_n 2, 1) := by decide +kernel
theorem dL_law_383 : decode cL_law 383 = .ok (.aload_n 0, 1) := by decide +kernel
theorem dL_law_384 : decode cL_law 384 = .ok (.iload 4, 2) := by decide +kernel
theorem dL_law_386 : decode cL_law 386 = .ok (.iconst 1, 1) := by decide +kernel
theorem dL_law_387 : decode cL_law 387 = .ok (.iadd, 1) := by decide +kernel
theorem dL_law_388 : decode cL_law 388 = .ok (.iaload, 1) := by decide +kernel
theorem dL_law_389 : decode cL_law 389 = .ok (.invokevirtual 68, 3) := by decide +kernel
theorem dL_law_392 : decode cL_law 392 = .ok (.aload_n 2, 1) := by decide +kernel
theorem dL_law_393 : decode cL_law 393 = .ok (.invokevirtual 50, 3) := by decide +kernel
theorem dL_law_396 : decode cL_law 396 = .ok (.iload 5, 2) := by decide +kernel
theorem dL_law_398 : decode cL_law 398 = .ok (.if_icmp .eq 5, 3) := by decide +kernel
theorem dL_law_401 : decode cL_law 401 = .ok (.iconst 0, 1) := by decide +kernel
theorem dL_law_402 : decode cL_law 402 = .ok (.ireturn, 1) := by decide +kernel
theorem dL_law_403 : decode cL_law 403 = .ok (.goto 223, 3) := by decide +kernel
theorem dL_law_406 : decode cL_law 406 = .ok (.aload_n 1, 1) := by decide +kernel
theorem dL_law_407 : decode cL_law 407 = .ok (.aload_n 0, 1) := by decide +kernel
theorem dL_law_408 : decode cL_law 408 = .ok (.iload 4, 2) := by decide +kernel
theorem dL_law_410 : decode cL_law 410 = .ok (.iconst 1, 1) := by decide +kernel
theorem dL_law_411 : decode cL_law 411 = .ok (.iadd, 1) := by decide +kernel
theorem dL_law_412 : decode cL_law 412 = .ok (.iaload, 1) := by decide +kernel
theorem dL_law_413 : decode cL_law 413 = .ok (.aload_n 0, 1) := by decide +kernel
theorem dL_law_414 : decode cL_law 414 = .ok (.iload 4, 2) := by decide +kernel
theorem dL_law_416 : decode cL_law 416 = .ok (.iconst 2, 1) := by decide +kernel
theorem dL_law_417 : decode cL_law 417 = .ok (.iadd, 1) := by decide +kernel
theorem dL_law_418 : decode cL_law 418 = .ok (.iaload, 1) := by decide +kernel
theorem dL_law_419 : decode cL_law 419 = .ok (.ifCond .eq 7, 3) := by decide +kernel
theorem dL_law_422 : decode cL_law 422 = .ok (.iconst 1, 1) := by decide +kernel
theorem dL_law_423 : decode cL_law 423 = .ok (.goto 4, 3) := by decide +kernel
theorem dL_law_426 : decode cL_law 426 = .ok (.iconst 0, 1) := by decide +kernel
theorem dL_law_427 : decode cL_law 427 = .ok (.invokestatic 69, 3) := by decide +kernel
theorem dL_law_430 : decode cL_law 430 = .ok (.istore 5, 2) := by decide +kernel
theorem dL_law_432 : decode cL_law 432 = .ok (.aload_n 2, 1) := by decide +kernel
theorem dL_law_433 : decode cL_law 433 = .ok (.aload_n 0, 1) := by decide +kernel
theorem dL_law_434 : decode cL_law 434 = .ok (.iload 4, 2) := by decide +kernel
theorem dL_law_436 : decode cL_law 436 = .ok (.iconst 1, 1) := by decide +kernel
theorem dL_law_437 : decode cL_law 437 = .ok (.iadd, 1) := by decide +kernel
theorem dL_law_438 : decode cL_law 438 = .ok (.iaload, 1) := by decide +kernel
theorem dL_law_439 : decode cL_law 439 = .ok (.aload_n 0, 1) := by decide +kernel
theorem dL_law_440 : decode cL_law 440 = .ok (.iload 4, 2) := by decide +kernel
theorem dL_law_442 : decode cL_law 442 = .ok (.iconst 2, 1) := by decide +kernel
theorem dL_law_443 : decode cL_law 443 = .ok (.iadd, 1) := by decide +kernel
theorem dL_law_444 : decode cL_law 444 = .ok (.iaload, 1) := by decide +kernel
theorem dL_law_445 : decode cL_law 445 = .ok (.ifCond .eq 7, 3) := by decide +kernel
theorem dL_law_448 : decode cL_law 448 = .ok (.iconst 1, 1) := by decide +kernel
theorem dL_law_449 : decode cL_law 449 = .ok (.goto 4, 3) := by decide +kernel
theorem dL_law_452 : decode cL_law 452 = .ok (.iconst 0, 1) := by decide +kernel
theorem dL_law_453 : decode cL_law 453 = .ok (.invokevirtual 72, 3) := by decide +kernel
theorem dL_law_456 : decode cL_law 456 = .ok (.aload_n 2, 1) := by decide +kernel
theorem dL_law_457 : decode cL_law 457 = .ok (.invokevirtual 50, 3) := by decide +kernel
theorem dL_law_460 : decode cL_law 460 = .ok (.iload 5, 2) := by decide +kernel
theorem dL_law_462 : decode cL_law 462 = .ok (.if_icmp .eq 5, 3) := by decide +kernel
theorem dL_law_465 : decode cL_law 465 = .ok (.iconst 0, 1) := by decide +kernel
theorem dL_law_466 : decode cL_law 466 = .ok (.ireturn, 1) := by decide +kernel
theorem dL_law_467 : decode cL_law 467 = .ok (.goto 159, 3) := by decide +kernel
theorem dL_law_470 : decode cL_law 470 = .ok (.aload_n 1, 1) := by decide +kernel
theorem dL_law_471 : decode cL_law 471 = .ok (.aload_n 3, 1) := by decide +kernel
theorem dL_law_472 : decode cL_law 472 = .ok (.invokestatic 73, 3) := by decide +kernel
theorem dL_law_475 : decode cL_law 475 = .ok (.istore 5, 2) := by decide +kernel
theorem dL_law_477 : decode cL_law 477 = .ok (.aload_n 2, 1) := by decide +kernel
theorem dL_law_478 : decode cL_law 478 = .ok (.invokevirtual 76, 3) := by decide +kernel
theorem dL_law_481 : decode cL_law 481 = .ok (.istore 6, 2) := by decide +kernel
theorem dL_law_483 : decode cL_law 483 = .ok (.aload_n 2, 1) := by decide +kernel
theorem dL_law_484 : decode cL_law 484 = .ok (.invokevirtual 50, 3) := by decide +kernel
theorem dL_law_487 : decode cL_law 487 = .ok (.iload 5, 2) := by decide +kernel
theorem dL_law_489 : decode cL_law 489 = .ok (.if_icmp .eq 5, 3) := by decide +kernel
theorem dL_law_492 : decode cL_law 492 = .ok (.iconst 0, 1) := by decide +kernel
theorem dL_law_493 : decode cL_law 493 = .ok (.ireturn, 1) := by decide +kernel
theorem dL_law_494 : decode cL_law 494 = .ok (.iload 5, 2) := by decide +kernel
theorem dL_law_496 : decode cL_law 496 = .ok (.ifCond .ne 15, 3) := by decide +kernel
theorem dL_law_499 : decode cL_law 499 = .ok (.aload_n 3, 1) := by decide +kernel
theorem dL_law_500 : decode cL_law 500 = .ok (.iconst 0, 1) := by decide +kernel
theorem dL_law_501 : decode cL_law 501 = .ok (.laload, 1) := by decide +kernel
theorem dL_law_502 : decode cL_law 502 = .ok (.iload 6, 2) := by decide +kernel
theorem dL_law_504 : decode cL_law 504 = .ok (.i2l, 1) := by decide +kernel
theorem dL_law_505 : decode cL_law 505 = .ok (.lcmp, 1) := by decide +kernel
theorem dL_law_506 : decode cL_law 506 = .ok (.ifCond .eq 5, 3) := by decide +kernel
theorem dL_law_509 : decode cL_law 509 = .ok (.iconst 0, 1) := by decide +kernel
theorem dL_law_510 : decode cL_law 510 = .ok (.ireturn, 1) := by decide +kernel
theorem dL_law_511 : decode cL_law 511 = .ok (.goto 115, 3) := by decide +kernel
theorem dL_law_514 : decode cL_law 514 = .ok (.aload_n 1, 1) := by decide +kernel
theorem dL_law_515 : decode cL_law 515 = .ok (.aload_n 0, 1) := by decide +kernel
theorem dL_law_516 : decode cL_law 516 = .ok (.iload 4, 2) := by decide +kernel
theorem dL_law_518 : decode cL_law 518 = .ok (.iconst 1, 1) := by decide +kernel
theorem dL_law_519 : decode cL_law 519 = .ok (.iadd, 1) := by decide +kernel
theorem dL_law_520 : decode cL_law 520 = .ok (.iaload, 1) := by decide +kernel
theorem dL_law_521 : decode cL_law 521 = .ok (.aload_n 3, 1) := by decide +kernel
theorem dL_law_522 : decode cL_law 522 = .ok (.invokestatic 77, 3) := by decide +kernel
theorem dL_law_525 : decode cL_law 525 = .ok (.istore 5, 2) := by decide +kernel
theorem dL_law_527 : decode cL_law 527 = .ok (.aload_n 2, 1) := by decide +kernel
theorem dL_law_528 : decode cL_law 528 = .ok (.aload_n 0, 1) := by decide +kernel
theorem dL_law_529 : decode cL_law 529 = .ok (.iload 4, 2) := by decide +kernel
theorem dL_law_531 : decode cL_law 531 = .ok (.iconst 1, 1) := by decide +kernel
theorem dL_law_532 : decode cL_law 532 = .ok (.iadd, 1) := by decide +kernel
theorem dL_law_533 : decode cL_law 533 = .ok (.iaload, 1) := by decide +kernel
theorem dL_law_534 : decode cL_law 534 = .ok (.invokevirtual 80, 3) := by decide +kernel
theorem dL_law_537 : decode cL_law 537 = .ok (.istore 6, 2) := by decide +kernel
theorem dL_law_539 : decode cL_law 539 = .ok (.aload_n 2, 1) := by decide +kernel
theorem dL_law_540 : decode cL_law 540 = .ok (.invokevirtual 50, 3) := by decide +kernel
theorem dL_law_543 : decode cL_law 543 = .ok (.iload 5, 2) := by decide +kernel
theorem dL_law_545 : decode cL_law 545 = .ok (.if_icmp .eq 5, 3) := by decide +kernel
theorem dL_law_548 : decode cL_law 548 = .ok (.iconst 0, 1) := by decide +kernel
theorem dL_law_549 : decode cL_law 549 = .ok (.ireturn, 1) := by decide +kernel
theorem dL_law_550 : decode cL_law 550 = .ok (.iload 5, 2) := by decide +kernel
theorem dL_law_552 : decode cL_law 552 = .ok (.ifCond .ne 15, 3) := by decide +kernel
theorem dL_law_555 : decode cL_law 555 = .ok (.aload_n 3, 1) := by decide +kernel
theorem dL_law_556 : decode cL_law 556 = .ok (.iconst 0, 1) := by decide +kernel
theorem dL_law_557 : decode cL_law 557 = .ok (.laload, 1) := by decide +kernel
theorem dL_law_558 : decode cL_law 558 = .ok (.iload 6, 2) := by decide +kernel
theorem dL_law_560 : decode cL_law 560 = .ok (.i2l, 1) := by decide +kernel
theorem dL_law_561 : decode cL_law 561 = .ok (.lcmp, 1) := by decide +kernel
theorem dL_law_562 : decode cL_law 562 = .ok (.ifCond .eq 5, 3) := by decide +kernel
theorem dL_law_565 : decode cL_law 565 = .ok (.iconst 0, 1) := by decide +kernel
theorem dL_law_566 : decode cL_law 566 = .ok (.ireturn, 1) := by decide +kernel
theorem dL_law_567 : decode cL_law 567 = .ok (.goto 59, 3) := by decide +kernel
theorem dL_law_570 : decode cL_law 570 = .ok (.aload_n 1, 1) := by decide +kernel
theorem dL_law_571 : decode cL_law 571 = .ok (.aload_n 0, 1) := by decide +kernel
theorem dL_law_572 : decode cL_law 572 = .ok (.iload 4, 2) := by decide +kernel
theorem dL_law_574 : decode cL_law 574 = .ok (.iconst 1, 1) := by decide +kernel
theorem dL_law_575 : decode cL_law 575 = .ok (.iadd, 1) := by decide +kernel
theorem dL_law_576 : decode cL_law 576 = .ok (.iaload, 1) := by decide +kernel
theorem dL_law_577 : decode cL_law 577 = .ok (.aload_n 3, 1) := by decide +kernel
theorem dL_law_578 : decode cL_law 578 = .ok (.invokestatic 81, 3) := by decide +kernel
theorem dL_law_581 : decode cL_law 581 = .ok (.istore 5, 2) := by decide +kernel
theorem dL_law_583 : decode cL_law 583 = .ok (.aload_n 2, 1) := by decide +kernel
theorem dL_law_584 : decode cL_law 584 = .ok (.aload_n 0, 1) := by decide +kernel
theorem dL_law_585 : decode cL_law 585 = .ok (.iload 4, 2) := by decide +kernel
theorem dL_law_587 : decode cL_law 587 = .ok (.iconst 1, 1) := by decide +kernel
theorem dL_law_588 : decode cL_law 588 = .ok (.iadd, 1) := by decide +kernel
theorem dL_law_589 : decode cL_law 589 = .ok (.iaload, 1) := by decide +kernel
theorem dL_law_590 : decode cL_law 590 = .ok (.invokevirtual 83, 3) := by decide +kernel
theorem dL_law_593 : decode cL_law 593 = .ok (.istore 6, 2) := by decide +kernel
theorem dL_law_595 : decode cL_law 595 = .ok (.aload_n 2, 1) := by decide +kernel
theorem dL_law_596 : decode cL_law 596 = .ok (.invokevirtual 50, 3) := by decide +kernel
theorem dL_law_599 : decode cL_law 599 = .ok (.iload 5, 2) := by decide +kernel
theorem dL_law_601 : decode cL_law 601 = .ok (.if_icmp .eq 5, 3) := by decide +kernel
theorem dL_law_604 : decode cL_law 604 = .ok (.iconst 0, 1) := by decide +kernel
theorem dL_law_605 : decode cL_law 605 = .ok (.ireturn, 1) := by decide +kernel
theorem dL_law_606 : decode cL_law 606 = .ok (.iload 5, 2) := by decide +kernel
theorem dL_law_608 : decode cL_law 608 = .ok (.ifCond .ne 15, 3) := by decide +kernel
theorem dL_law_611 : decode cL_law 611 = .ok (.aload_n 3, 1) := by decide +kernel
theorem dL_law_612 : decode cL_law 612 = .ok (.iconst 0, 1) := by decide +kernel
theorem dL_law_613 : decode cL_law 613 = .ok (.laload, 1) := by decide +kernel
theorem dL_law_614 : decode cL_law 614 = .ok (.iload 6, 2) := by decide +kernel
theorem dL_law_616 : decode cL_law 616 = .ok (.i2l, 1) := by decide +kernel
theorem dL_law_617 : decode cL_law 617 = .ok (.lcmp, 1) := by decide +kernel
theorem dL_law_618 : decode cL_law 618 = .ok (.ifCond .eq 5, 3) := by decide +kernel
theorem dL_law_621 : decode cL_law 621 = .ok (.iconst 0, 1) := by decide +kernel
theorem dL_law_622 : decode cL_law 622 = .ok (.ireturn, 1) := by decide +kernel
theorem dL_law_623 : decode cL_law 623 = .ok (.goto 3, 3) := by decide +kernel
theorem dL_law_626 : decode cL_law 626 = .ok (.iinc 4 10, 3) := by decide +kernel
theorem dL_law_629 : decode cL_law 629 = .ok (.goto (-606), 3) := by decide +kernel
theorem dL_law_632 : decode cL_law 632 = .ok (.iconst 1, 1) := by decide +kernel
theorem dL_law_633 : decode cL_law 633 = .ok (.ireturn, 1) := by decide +kernel
theorem dJ_bitCount_0 : decode cJ_bitCount 0 = .ok (.iload_n 0, 1) := by decide +kernel
theorem dJ_bitCount_1 : decode cJ_bitCount 1 = .ok (.iload_n 0, 1) := by decide +kernel
theorem dJ_bitCount_2 : decode cJ_bitCount 2 = .ok (.iconst 1, 1) := by decide +kernel
theorem dJ_bitCount_3 : decode cJ_bitCount 3 = .ok (.iushr, 1) := by decide +kernel
theorem dJ_bitCount_4 : decode cJ_bitCount 4 = .ok (.ldc_w 265, 3) := by decide +kernel
theorem dJ_bitCount_7 : decode cJ_bitCount 7 = .ok (.iand, 1) := by decide +kernel
theorem dJ_bitCount_8 : decode cJ_bitCount 8 = .ok (.isub, 1) := by decide +kernel
theorem dJ_bitCount_9 : decode cJ_bitCount 9 = .ok (.istore_n 0, 1) := by decide +kernel
theorem dJ_bitCount_10 : decode cJ_bitCount 10 = .ok (.iload_n 0, 1) := by decide +kernel
theorem dJ_bitCount_11 : decode cJ_bitCount 11 = .ok (.ldc_w 266, 3) := by decide +kernel
theorem dJ_bitCount_14 : decode cJ_bitCount 14 = .ok (.iand, 1) := by decide +kernel
theorem dJ_bitCount_15 : decode cJ_bitCount 15 = .ok (.iload_n 0, 1) := by decide +kernel
theorem dJ_bitCount_16 : decode cJ_bitCount 16 = .ok (.iconst 2, 1) := by decide +kernel
theorem dJ_bitCount_17 : decode cJ_bitCount 17 = .ok (.iushr, 1) := by decide +kernel
theorem dJ_bitCount_18 : decode cJ_bitCount 18 = .ok (.ldc_w 266, 3) := by decide +kernel
theorem dJ_bitCount_21 : decode cJ_bitCount 21 = .ok (.iand, 1) := by decide +kernel
theorem dJ_bitCount_22 : decode cJ_bitCount 22 = .ok (.iadd, 1) := by decide +kernel
theorem dJ_bitCount_23 : decode cJ_bitCount 23 = .ok (.istore_n 0, 1) := by decide +kernel
theorem dJ_bitCount_24 : decode cJ_bitCount 24 = .ok (.iload_n 0, 1) := by decide +kernel
theorem dJ_bitCount_25 : decode cJ_bitCount 25 = .ok (.iload_n 0, 1) := by decide +kernel
theorem dJ_bitCount_26 : decode cJ_bitCount 26 = .ok (.iconst 4, 1) := by decide +kernel
theorem dJ_bitCount_27 : decode cJ_bitCount 27 = .ok (.iushr, 1) := by decide +kernel
theorem dJ_bitCount_28 : decode cJ_bitCount 28 = .ok (.iadd, 1) := by decide +kernel
theorem dJ_bitCount_29 : decode cJ_bitCount 29 = .ok (.ldc_w 267, 3) := by decide +kernel
theorem dJ_bitCount_32 : decode cJ_bitCount 32 = .ok (.iand, 1) := by decide +kernel
theorem dJ_bitCount_33 : decode cJ_bitCount 33 = .ok (.istore_n 0, 1) := by decide +kernel
theorem dJ_bitCount_34 : decode cJ_bitCount 34 = .ok (.iload_n 0, 1) := by decide +kernel
theorem dJ_bitCount_35 : decode cJ_bitCount 35 = .ok (.iload_n 0, 1) := by decide +kernel
theorem dJ_bitCount_36 : decode cJ_bitCount 36 = .ok (.bipush 8, 2) := by decide +kernel
theorem dJ_bitCount_38 : decode cJ_bitCount 38 = .ok (.iushr, 1) := by decide +kernel
theorem dJ_bitCount_39 : decode cJ_bitCount 39 = .ok (.iadd, 1) := by decide +kernel
theorem dJ_bitCount_40 : decode cJ_bitCount 40 = .ok (.istore_n 0, 1) := by decide +kernel
theorem dJ_bitCount_41 : decode cJ_bitCount 41 = .ok (.iload_n 0, 1) := by decide +kernel
theorem dJ_bitCount_42 : decode cJ_bitCount 42 = .ok (.iload_n 0, 1) := by decide +kernel
theorem dJ_bitCount_43 : decode cJ_bitCount 43 = .ok (.bipush 16, 2) := by decide +kernel
theorem dJ_bitCount_45 : decode cJ_bitCount 45 = .ok (.iushr, 1) := by decide +kernel
theorem dJ_bitCount_46 : decode cJ_bitCount 46 = .ok (.iadd, 1) := by decide +kernel
theorem dJ_bitCount_47 : decode cJ_bitCount 47 = .ok (.istore_n 0, 1) := by decide +kernel
theorem dJ_bitCount_48 : decode cJ_bitCount 48 = .ok (.iload_n 0, 1) := by decide +kernel
theorem dJ_bitCount_49 : decode cJ_bitCount 49 = .ok (.bipush 63, 2) := by decide +kernel
end
section
theorem dJ_bitCount_51 : decode cJ_bitCount 51 = .ok (.iand, 1) := by decide +kernel
theorem dJ_bitCount_52 : decode cJ_bitCount 52 = .ok (.ireturn, 1) := by decide +kernel
end
section
/-! BASE ROWS: worlds in families, contracts over them, calls, answers -/
def up (f : Nat → Int32) (k : Nat) (x : Int32) : Nat → Int32 := fun j => bif Nat.beq j k then x else f j
def ub (b : Nat → Nat → Int32) (k : Nat) (f : Nat → Int32) : Nat → Nat → Int32 := fun j => bif Nat.beq j k then f else b j
theorem zb_n {x : Int32} (h : x = 0 ∨ x = 1) : narrow .boolean (.int x) = .int x := by rcases h with rfl | rfl <;> rfl
theorem zb_f {x : Int32} (h : x = 0 ∨ x = 1) : fits .boolean (.int x) = true := by rcases h with rfl | rfl <;> rfl
/-- the words of the tables, that every method needs -/
def kb_N (U : State) : Prop := ∀ w ∈ lw_st, w.before #[] U = true
theorem st_at {w : Cond} {a a' : Array Value} {s U : State} (hW : s.WarmedH U.vm) (h : stw w = true) (hb : w.before a s = true) : w.before a' U = true := by
  cases w with
  | methodLinkNest o i y q => exact va_Nw.use rfl (va_Nw.warmM hW (va_Nw.of rfl hb))
  | _ => exact word_at hW (good_of_word h) hb
theorem kb_N.warm {s U : State} (hW : s.WarmedH U.vm) (h : kb_N s) : kb_N U := fun w hw => st_at hW (List.mem_filter.mp hw).2 (h w hw)
theorem kb_N.same {u U : State} (hv : u.vm = U.vm) (h : kb_N u) : kb_N U := h.warm (by rw [← hv]; exact State.WarmedH.refl u)
theorem kb_N.ts {s : State} (h : kb_N s) (a : Array Value) : ∀ w ∈ lw_st, w.before a s = true := fun w hw => st_at (State.WarmedH.refl s) (List.mem_filter.mp hw).2 (h w hw)
theorem kb_N.of {s : State} {a : Array Value} (h : ∀ w ∈ lw_tbl, w.before a s = true) : kb_N s := fun w hw => st_at (State.WarmedH.refl s) (List.mem_filter.mp hw).2 (h w (List.mem_filter.mp hw).1)
theorem gd_1 {y : MethodName} {b : ByteArray} {n : Nat} {r : Option FieldType} (h : Cond.code y b n r ∈ lw_st) : GoodIn lw_st [Cond.code y b n r] := fun w hw => by
  obtain rfl := List.mem_singleton.mp hw
  exact ⟨h, Or.inl rfl⟩
theorem gd_V {own C : String} {i : Nat} {y : MethodName} {b : ByteArray} {n : Nat} {r : Option FieldType} (h1 : Cond.methodLink own i y ∈ lw_st) (h2 : Cond.instanceMethod y ∈ lw_st) (h3 : Cond.selects C y y ∈ lw_st) (h4 : Cond.initialized C ∈ lw_st) (h : Cond.code y b n r ∈ lw_st) : GoodIn lw_st (wsV own i C y [Cond.code y b n r]) := fun w hw => by
  rcases List.mem_append.mp hw with hw | hw
  · simp only [List.mem_cons, List.not_mem_nil, or_false] at hw
    rcases hw with rfl | rfl | rfl | rfl
    · exact ⟨h1, Or.inl rfl⟩
    · exact ⟨h2, Or.inl rfl⟩
    · exact ⟨h3, Or.inl rfl⟩
    · exact ⟨h4, Or.inl rfl⟩
  · exact gd_1 h w hw
theorem gd_S {own : String} {i : Nat} {y : MethodName} {b : ByteArray} {n : Nat} {r : Option FieldType} (h1 : Cond.methodLink own i y ∈ lw_st) (h2 : Cond.static y ∈ lw_st) (h4 : Cond.initialized y.cls ∈ lw_st) (h : Cond.code y b n r ∈ lw_st) : GoodIn lw_st (va_wsS own i y [Cond.code y b n r]) := fun w hw => by
  rcases List.mem_append.mp hw with hw | hw
  · simp only [List.mem_cons, List.not_mem_nil, or_false] at hw
    rcases hw with rfl | rfl | rfl
    · exact ⟨h1, Or.inl rfl⟩
    · exact ⟨h2, Or.inl rfl⟩
    · exact ⟨h4, Or.inl rfl⟩
  · exact gd_1 h w hw
def kb_B {S : Type} (D : va_G) (tys : List (ClassId × FieldType)) (wf : S → va_W) (w : S) (sz : Nat) (U : State) : Prop := U.heap.size = sz ∧ kb_N U ∧ va_P D vwCl (wf w) U.heap ∧ va_K D vwCl tys U ∧ va_D (fun _ => True) (wf w)
def kb_E {S : Type} (D : va_G) (tys : List (ClassId × FieldType)) (wf : S → va_W) (A : Nat → Prop) (u : S) (t : State) : Prop := va_P D vwCl (wf u) t.heap ∧ va_K D vwCl tys t ∧ va_D A (wf u)
theorem kb_blind {S : Type} {D : va_G} {tys : List (ClassId × FieldType)} {wf : S → va_W} {w : S} {sz : Nat} {av : List Value} : FrameBlind (va_Pc av (kb_B D tys wf w sz)) := fun a U g mk q => by
  obtain ⟨q0, q1, qN, qP, qK, qD⟩ := q
  exact ⟨q0, q1, kb_N.same (u := U) (U := U.calling g mk a) rfl qN, qP, va_K.moved (u := U) (U := U.calling g mk a) (Vm.Alike.refl U.vm) qK, qD⟩
section KB
variable {p : Program} {l : Launch} {e : Env} {R : Room} {s : State} {m : MethodId} {args : Array Value} {below : List Frame} {meth : Method} {c : Code} {H : Heap} {locs : List Loc} {cells slots : Nat} {Q : State → Prop}
variable {S : Type} {D : va_G} {tys : List (ClassId × FieldType)} {wf : S → va_W} {w u : S} {A : Nat → Prop} {av : List Value} {cc : ByteArray} {pc : Nat} {ls : Array Slot} {rest st0 : List Value} {a : Array Value} {mc ms : Nat} {r : Int32}
theorem kb_preS (hN : kb_N s) (hK : va_K D vwCl tys s) (hP : va_P D vwCl (wf w) H) (hD : va_D A (wf w)) : PreS s H (va_Pc av (kb_B D tys wf w H.size)) av :=
  ⟨kb_blind, fun U hU hW => ⟨rfl, by rw [hU], hN.warm hW, by rw [hU]; exact hP, va_K.moved hW.alike hK, hD.weaken (fun _ _ _ _ => trivial)⟩⟩
theorem kb_preV {b : Addr} {C : String} (hN : kb_N s) (hK : va_K D vwCl tys s) (hP : va_P D vwCl (wf w) H) (hD : va_D A (wf w)) (hc : ∃ cell : Cell, H[b]? = some cell ∧ cell.vm.isStatics = false ∧ s.vm.findClass C = some cell.cls) : PreV s H C b (va_Pc (.ref b :: av) (kb_B D tys wf w H.size)) av :=
  ⟨kb_blind, hc, fun U hU hW => ⟨rfl, by rw [hU], hN.warm hW, by rw [hU]; exact hP, va_K.moved hW.alike hK, hD.weaken (fun _ _ _ _ => trivial)⟩⟩
def kb_nil : Unit → va_W := fun _ => []
theorem kb_pre0 (hN : kb_N s) (hK : va_K D vwCl tys s) : PreS s H (va_Pc av (kb_B D [] kb_nil () H.size)) av :=
  ⟨kb_blind, fun U hU hW => ⟨rfl, by rw [hU], hN.warm hW, fun k q h => by simp [kb_nil] at h, va_K.moved hW.alike (hK.sub [] rfl), ⟨fun i j p q h => by simp [kb_nil] at h, fun k q h => by simp [kb_nil] at h⟩⟩⟩
theorem kb_of {y : MethodName} {rm : Room} {maxL sz : Nat} {ret : Option FieldType} {QcA : (Nat → Prop) → Array Value → State → Outcome → State → Prop} (hy : plainName y.cls = true) (hlen : (lg_sl av).length ≤ maxL)
    (body : ∀ (p : Program) (e : Env) (s : State) (m : MethodId) (below : List Frame) (meth : Method) (c : Code) (A : Nat → Prop), p.tables.exec = Jvm.exec → c.code = cc → meth.sig.returnType = ret → meth.locks = false → c.maxLocals = maxL → s.vm.findClass y.cls = some m.cls → (∀ w ∈ lw_st, w.before av.toArray s = true) → (∀ q : Nat, s.heap.size ≤ q → A q) → kb_N s → va_K D vwCl tys s → va_P D vwCl (wf w) s.heap → va_D A (wf w) → ∀ ls : Array Slot, lv_has ls maxL (lv_args 0 av) → W p l e rm s m av.toArray below meth c s.heap [] 0 0 (MQ below (QcA A) av.toArray s mc ms A) (F0 m 0 ls [])) :
    Met l y [Cond.code y cc maxL ret] rm (va_Pc av (kb_B D tys wf w sz)) (QcA (va_A (wf w) sz)) mc ms (va_A (wf w) sz) := by
  refine Met.ofW (cc := cc) (maxL := maxL) (ret := ret) hy rfl ?_
  intro p e s m args below meth c s₁ B hml hv
  obtain ⟨rfl, hsz, hN, hP, hK, hD0⟩ := hv
  have hown : s.vm.findClass y.cls = some m.cls := findClass_of_methodNamed B.named
  subst hsz
  have hD := hD0.self (sz := s.heap.size)
  have hl := lv_entry av (n := maxL) hlen
  rw [lg_entry_eq]
  exact body p e s m below meth c _ B.exec B.bytes B.returns B.notSynchronized hml hown (hN.ts _) (fun q h => Or.inr h) hN hK hP hD _ hl
theorem kb_iret {post : Int32 → S → Prop} (hx : p.tables.exec = Jvm.exec) (hb : c.code = cc) (hr : meth.sig.returnType = some .int) (hlocks : meth.locks = false) (hK : va_K D vwCl tys s) (hP : va_P D vwCl (wf u) H) (hD : va_D A (wf u)) (hS : va_S A s.heap H locs) (hp : post r u) (hdg : decode cc pc = .ok (.ireturn, 1)) :
    W p l e R s m args below meth c H locs cells slots (MQ below (va_Qi post (kb_E D tys wf A) A) args s cells slots A) (F0 m pc ls [.int r]) :=
  W.iret (v := r) hx hb hr (fun t ht hW => ⟨⟨r, u, rfl, hp, by rw [ht]; exact hP, va_K.moved hW.alike hK, hD⟩, hS.F ht⟩) hS.2.2 hdg hlocks
theorem kb_zret {post : Int32 → S → Prop} (hx : p.tables.exec = Jvm.exec) (hb : c.code = cc) (hr : meth.sig.returnType = some .boolean) (hlocks : meth.locks = false) (hn : narrow .boolean (.int r) = .int r) (hK : va_K D vwCl tys s) (hP : va_P D vwCl (wf u) H) (hD : va_D A (wf u)) (hS : va_S A s.heap H locs) (hp : post r u) (hdg : decode cc pc = .ok (.ireturn, 1)) :
    W p l e R s m args below meth c H locs cells slots (MQ below (va_Qi post (kb_E D tys wf A) A) args s cells slots A) (F0 m pc ls [.int r]) :=
  W.zret (v := r) hx hb hr hn (fun t ht hW => ⟨⟨r, u, rfl, hp, by rw [ht]; exact hP, va_K.moved hW.alike hK, hD⟩, hS.F ht⟩) hS.2.2 hdg hlocks
theorem kb_vret {post : S → Prop} (hx : p.tables.exec = Jvm.exec) (hb : c.code = cc) (hr : meth.sig.returnType = none) (hlocks : meth.locks = false) (hK : va_K D vwCl tys s) (hP : va_P D vwCl (wf u) H) (hD : va_D A (wf u)) (hS : va_S A s.heap H locs) (hp : post u) (hdg : decode cc pc = .ok (.return_, 1)) :
    W p l e R s m args below meth c H locs cells slots (MQ below (va_Qv post (kb_E D tys wf A) A) args s cells slots A) (F0 m pc ls []) :=
  W.vret hx hb hr (fun t ht hW => ⟨⟨u, rfl, hp, by rw [ht]; exact hP, va_K.moved hW.alike hK, hD⟩, hS.F ht⟩) hS.2.2 hdg hlocks
theorem kb_in (hD : va_D A (wf w)) (hS : va_S A s.heap H locs) (hA : ∀ q : Nat, s.heap.size ≤ q → A q) : ∀ q, va_A (wf w) H.size q → A q := fun q h => h.elim (fun ⟨k, e9, h⟩ => hD.2 k (q, e9) h) (fun h => hA q (Nat.le_trans hS.1 h))
theorem kb_calli (hr : va_Run p l e R s m args below meth c H locs cells slots mc ms (F0 m pc ls st0) rest (va_Qi (fun r' u' => r' = r ∧ u' = u) (kb_E D tys wf (va_A (wf w) H.size)) (va_A (wf w) H.size) a) (va_A (wf w) H.size)) (hP : va_P D vwCl (wf w) H) (hD : va_D A (wf w)) (hS : va_S A s.heap H locs) (hA : ∀ q : Nat, s.heap.size ≤ q → A q)
    (kk : ∀ (H1 : Heap) (locs1 : List Loc), va_P D vwCl (wf u) H1 → va_D A (wf u) → va_S A s.heap H1 locs1 → W p l e R s m args below meth c H1 locs1 (cells + mc) (slots + ms) Q (F0 m (pc + 3) ls (.int r :: rest))) : W p l e R s m args below meth c H locs cells slots Q (F0 m pc ls st0) := by
  refine va_calli hr hS (fun q _ h => kb_in hD hS hA q h) (kb_in hD hS hA) (fun r' u' t H1 locs1 ht hvm hw hB hz hk hS1 => ?_)
  obtain ⟨rfl, rfl⟩ := hw
  obtain ⟨hP1, -, hD1⟩ := hB
  exact kk H1 locs1 (by rw [← ht]; exact hP1) (hD1.weaken (fun k q _ h => kb_in hD hS hA q.1 h)) hS1
theorem kb_callv (hr : va_Run p l e R s m args below meth c H locs cells slots mc ms (F0 m pc ls st0) rest (va_Qv (fun u' => u' = u) (kb_E D tys wf (va_A (wf w) H.size)) (va_A (wf w) H.size) a) (va_A (wf w) H.size)) (hP : va_P D vwCl (wf w) H) (hD : va_D A (wf w)) (hS : va_S A s.heap H locs) (hA : ∀ q : Nat, s.heap.size ≤ q → A q)
    (kk : ∀ (H1 : Heap) (locs1 : List Loc), va_P D vwCl (wf u) H1 → va_D A (wf u) → va_S A s.heap H1 locs1 → W p l e R s m args below meth c H1 locs1 (cells + mc) (slots + ms) Q (F0 m (pc + 3) ls rest)) : W p l e R s m args below meth c H locs cells slots Q (F0 m pc ls st0) := by
  refine va_callv hr hS (fun q _ h => kb_in hD hS hA q h) (kb_in hD hS hA) (fun u' t H1 locs1 ht hvm hw hB hz hk hS1 => ?_)
  obtain rfl := hw
  obtain ⟨hP1, -, hD1⟩ := hB
  exact kk H1 locs1 (by rw [← ht]; exact hP1) (hD1.weaken (fun k q _ h => kb_in hD hS hA q.1 h)) hS1
/-- a callee that touches no cell -/
theorem kb_call0 {ws : va_W} (hr : va_Run p l e R s m args below meth c H locs cells slots mc ms (F0 m pc ls st0) rest (va_Qi (fun r' u' => r' = r ∧ u' = ()) (kb_E D [] kb_nil (va_A (kb_nil ()) H.size)) (va_A (kb_nil ()) H.size) a) (va_A (kb_nil ()) H.size)) (hP : va_P D vwCl ws H) (hS : va_S A s.heap H locs) (hA : ∀ q : Nat, s.heap.size ≤ q → A q)
    (kk : ∀ (H1 : Heap) (locs1 : List Loc), va_P D vwCl ws H1 → va_S A s.heap H1 locs1 → W p l e R s m args below meth c H1 locs1 (cells + mc) (slots + ms) Q (F0 m (pc + 3) ls (.int r :: rest))) : W p l e R s m args below meth c H locs cells slots Q (F0 m pc ls st0) := by
  have h0 : ∀ q, va_A (kb_nil ()) H.size q → A q := fun q h => h.elim (fun ⟨k, e9, h⟩ => by simp [kb_nil] at h) (fun h => hA q (Nat.le_trans hS.1 h))
  refine va_calli hr hS (fun q _ h => h0 q h) h0 (fun r' u' t H1 locs1 ht hvm hw hB hz hk hS1 => ?_)
  obtain ⟨rfl, -⟩ := hw
  refine kk H1 locs1 (hP.kept (fun k x hx => hk x.1 ((hP k x hx).lt) (fun h => h.elim (fun ⟨k, e9, h⟩ => by simp [kb_nil] at h) (fun h => absurd ((hP k x hx).lt) (Nat.not_lt.mpr h))))) hS1
end KB
section KP
variable {p : Program} {l : Launch} {e : Env} {R : Room} {s : State} {m : MethodId} {args : Array Value} {below : List Frame} {meth : Method} {c : Code} {H : Heap} {locs : List Loc} {cells slots : Nat} {Q : State → Prop}
variable {S : Type} {D : va_G} {tys : List (ClassId × FieldType)} {wf : S → va_W} {w w' : S} {A : Nat → Prop} {cc : ByteArray} {pc : Nat} {ls : Array Slot} {rest : List Value} {a : Nat} {H0 : Heap}
theorem kb_put (hexec : p.tables.exec = Jvm.exec) (hb : c.code = cc) {own ref C : String} {T : u_T} {N ci index : Nat} {Ts : List Cond} (hts : ∀ w ∈ Ts, w.before args s = true) (hin : ∀ w ∈ u_ws C T N, w ∈ Ts) (ty0 : Nat → FieldType) (hty : ∀ k, k < N → parseFieldDescriptor (T k).2.2.1 = some (ty0 k)) (hnm : ∀ a, a < N → ∀ b, b < N → a ≠ b → (T a).2.1 ≠ (T b).2.1) (hown : s.vm.findClass own = some m.cls) (hK : va_K D vwCl tys s) (hP : va_P D vwCl (wf w) H) (hD : va_D A (wf w)) (hS0 : va_S A H0 H locs) (q0 : Nat) {fs : List Value} (he : (wf w)[q0]? = some (a, .inr (ci, fs))) (hc : vwCl[ci]? = some (C, T, N)) (k : Nat) (hk : k < N) (hlink : (Cond.fieldLink own index ref (T k).2.1 (T k).2.2.1).before args s = true) (hsame : ∀ x, s.fieldFound? (T k).1 (T k).2.1 (T k).2.2.1 = some x → s.fieldFound? ref (T k).2.1 (T k).2.2.1 = some x) (hfin : (T k).2.2.2 = false) {ty : FieldType} {v : Value} (hd : parseFieldDescriptor (T k).2.2.1 = some ty) (hn : narrow ty v = v) (hfit : fits ty v = true) (hl : k < fs.length)
    (hdg : decode cc pc = .ok (.putfield index, 3)) (hset : (wf w).set q0 (a, .inr (ci, fs.set k v)) = wf w') (kk : ∀ (H1 : Heap) (locs1 : List Loc), va_P D vwCl (wf w') H1 → va_D A (wf w') → va_S A H0 H1 locs1 → W p l e R s m args below meth c H1 locs1 cells slots Q (F0 m (pc + 3) ls rest)) : W p l e R s m args below meth c H locs cells slots Q (F0 m pc ls (v :: .ref a :: rest)) :=
  va_put hexec hb hts hin ty0 hty hnm hown hK hP hD hS0 q0 he hc k hk hlink hsame hfin hd hn hfit hl hdg (fun H1 locs1 hP1 hD1 hS1 => kk H1 locs1 (hset ▸ hP1) (hset ▸ hD1) hS1)
theorem kb_zast (hexec : p.tables.exec = Jvm.exec) (hb : c.code = cc) (hK : va_K D vwCl tys s) (hP : va_P D vwCl (wf w) H) (hD : va_D A (wf w)) (hS : va_S A H0 H locs) (q0 t0 : Nat) {cA : ClassId} {n : Nat} {f : Nat → Int32} (ha : (wf w)[q0]? = some (a, .inl (cA, n, .inl f))) (ht : tys[t0]? = some (cA, .boolean)) {i : Int32} {x : Int32} (hin : vp_in i n) (hdg : decode cc pc = .ok (.bastore, 1))
    (hset : (wf w).set q0 (a, .inl (cA, n, .inl (upd f i.toNatClampNeg (vp_nar .boolean x)))) = wf w') (kk : ∀ (H1 : Heap) (locs1 : List Loc), va_P D vwCl (wf w') H1 → va_D A (wf w') → va_S A H0 H1 locs1 → W p l e R s m args below meth c H1 locs1 cells slots Q (F0 m (pc + 1) ls rest)) : W p l e R s m args below meth c H locs cells slots Q (F0 m pc ls (.int x :: .int i :: .ref a :: rest)) :=
  va_zast hexec hb hK hP hD hS q0 t0 ha ht hin hdg (fun H1 locs1 hP1 hD1 hS1 => kk H1 locs1 (hset ▸ hP1) (hset ▸ hD1) hS1)
end KP
/-- the class' cells: the desk and what it holds; their numbers by place:
0: BoilerDesk.mode (I)
1: BoilerDesk.cycles (I)
2: BoilerDesk.stopsInARow (I)
3: BoilerDesk.hasWaited (Z)
4: BoilerDesk$Plant.capacity (I)
5: BoilerDesk$Plant.lowLimit (I)
6: BoilerDesk$Plant.normalFrom (I)
7: BoilerDesk$Plant.normalTo (I)
8: BoilerDesk$Plant.highLimit (I)
9: BoilerDesk$Plant.mostSteam (I)
10: BoilerDesk$Plant.steamRise (I)
11: BoilerDesk$Plant.steamFall (I)
12: BoilerDesk$Plant.pumpRate (I)
13: BoilerDesk$Inbox.hasLevel (Z)
14: BoilerDesk$Inbox.level (I)
15: BoilerDesk$Inbox.hasSteam (Z)
16: BoilerDesk$Inbox.steam (I)
17: BoilerDesk$Inbox.pumpsHeard (I)
18: BoilerDesk$Inbox.pumpsSaidOn (I)
19: BoilerDesk$Inbox.pumpsSaidGiving (I)
20: BoilerDesk$Inbox.waiting (Z)
21: BoilerDesk$Inbox.ready (Z)
22: BoilerDesk$Inbox.stop (Z)
23: BoilerDesk$Inbox.repairs (I)
24: BoilerDesk$Inbox.acknowledgements (I)
25: BoilerDesk$Units.failed (I)
26: BoilerDesk$Units.acknowledged (I)
27: BoilerDesk$Machines.pumpsOn (I)
28: BoilerDesk$Machines.pumpsOnBefore (I)
29: BoilerDesk$Machines.pumpsSaidGivingBefore (I)
30: BoilerDesk$Machines.valveOpen (Z)
31: BoilerDesk$Report.pumpsTurnedOn (I)
32: BoilerDesk$Report.pumpsShut (I)
33: BoilerDesk$Report.valveOpened (Z)
34: BoilerDesk$Report.valveShut (Z)
35: BoilerDesk$Report.detected (I)
36: BoilerDesk$Report.repaired (I)
37: BoilerDesk$Report.programReady (Z)
38: BoilerDesk$Span.from (I)
39: BoilerDesk$Span.to (I)
40: BoilerDesk$Span.from (I)
41: BoilerDesk$Span.to (I)
42: BoilerDesk$Span.from (I)
43: BoilerDesk$Span.to (I)
44: BoilerDesk$Span.from (I)
45: BoilerDesk$Span.to (I) -/
def cw (h : Nat → Nat) (w : Nat → Int32) : va_W :=
  [(h 0, .inr (0, [.ref (h 1), .ref (h 2), .ref (h 3), .ref (h 4), .ref (h 5), .ref (h 6), .ref (h 7), .ref (h 8), .ref (h 9), .int (w 0), .int (w 1), .int (w 2), .int (w 3)])),
   (h 1, .inr (3, [.int (w 4), .int (w 5), .int (w 6), .int (w 7), .int (w 8), .int (w 9), .int (w 10), .int (w 11), .int (w 12)])),
   (h 2, .inr (1, [.int (w 13), .int (w 14), .int (w 15), .int (w 16), .int (w 17), .int (w 18), .int (w 19), .int (w 20), .int (w 21), .int (w 22), .int (w 23), .int (w 24)])),
   (h 3, .inr (6, [.int (w 25), .int (w 26)])),
   (h 4, .inr (2, [.int (w 27), .int (w 28), .int (w 29), .int (w 30)])),
   (h 5, .inr (4, [.int (w 31), .int (w 32), .int (w 33), .int (w 34), .int (w 35), .int (w 36), .int (w 37)])),
   (h 6, .inr (5, [.int (w 38), .int (w 39)])),
   (h 7, .inr (5, [.int (w 40), .int (w 41)])),
   (h 8, .inr (5, [.int (w 42), .int (w 43)])),
   (h 9, .inr (5, [.int (w 44), .int (w 45)]))]
/-- the reference's cells; its numbers by place:
0: err (I)
1: c (I)
2: m1 (I)
3: n1 (I)
4: n2 (I)
5: m2 (I)
6: most (I)
7: up (I)
8: down (I)
9: gives (I)
10: mode (I)
11: cycles (I)
12: low (I)
13: high (I)
14: least (I)
15: greatest (I)
16: stops (I)
17: detected (I)
18: repaired (I)
19: pumpsTold (I)
20: valveTold (I)
21: readyTold (I)
22: valve (Z)
23: waited (Z)
24: level (I)
25: steam (I)
26: isLevel (Z)
27: isSteam (Z)
28: waiting (Z)
29: ready (Z)
30: stop (Z)
its rows: 0: failed (10), 1: known (10), 2: wasFailed (10), 3: on (4), 4: before (4), 5: gave (4), 6: isPump (4), 7: saysOn (4), 8: saysGives (4), 9: repair (10), 10: knows (10), 11: now (4) -/
def mw (h : Nat → Nat) (cZ : ClassId) (q : (Nat → Int32) × (Nat → Nat → Int32)) : va_W :=
  [(h 0, .inr (7, [.int (q.1 0), .int (q.1 1), .int (q.1 2), .int (q.1 3), .int (q.1 4), .int (q.1 5), .int (q.1 6), .int (q.1 7), .int (q.1 8), .int (q.1 9), .int (q.1 10), .int (q.1 11), .int (q.1 12), .int (q.1 13), .int (q.1 14), .int (q.1 15), .int (q.1 16), .int (q.1 17), .int (q.1 18), .int (q.1 19), .int (q.1 20), .int (q.1 21), .int (q.1 22), .int (q.1 23), .ref (h 1), .ref (h 2), .ref (h 3), .ref (h 4), .ref (h 5), .ref (h 6), .int (q.1 24), .int (q.1 25), .int (q.1 26), .int (q.1 27), .int (q.1 28), .int (q.1 29), .int (q.1 30), .ref (h 7), .ref (h 8), .ref (h 9), .ref (h 10), .ref (h 11), .ref (h 12)])),
   (h 1, .inl (cZ, 10, .inl (q.2 0))),
   (h 2, .inl (cZ, 10, .inl (q.2 1))),
   (h 3, .inl (cZ, 10, .inl (q.2 2))),
   (h 4, .inl (cZ, 4, .inl (q.2 3))),
   (h 5, .inl (cZ, 4, .inl (q.2 4))),
   (h 6, .inl (cZ, 4, .inl (q.2 5))),
   (h 7, .inl (cZ, 4, .inl (q.2 6))),
   (h 8, .inl (cZ, 4, .inl (q.2 7))),
   (h 9, .inl (cZ, 4, .inl (q.2 8))),
   (h 10, .inl (cZ, 10, .inl (q.2 9))),
   (h 11, .inl (cZ, 10, .inl (q.2 10))),
   (h 12, .inl (cZ, 4, .inl (q.2 11)))]
end
section
/-- BoilerDesk.isWithin(III)Z -/
def F_D_isWithin  (a0 : Int32) (a1 : Int32) (a2 : Int32) : Int32 := (if a0 < a1 then (0 : Int32) else (if a2 < a0 then (0 : Int32) else (1 : Int32)))
set_option maxHeartbeats 4000000 in
set_option maxRecDepth 100000 in
theorem c_D_isWithin (l : Launch) (D : va_G) (sz : Nat)  (a0 : Int32) (a1 : Int32) (a2 : Int32)  : Met l yD_isWithin [.code yD_isWithin cD_isWithin 3 (some .boolean)] ({ frames := 0, cells := 0, slots := 0, locals := 0 }) (va_Pc [.int a0, .int a1, .int a2] (kb_B D [] kb_nil () sz)) (va_Qi (fun r' u' => r' = F_D_isWithin a0 a1 a2 ∧ u' = ()) (kb_E D [] kb_nil (va_A (kb_nil ()) sz)) (va_A (kb_nil ()) sz)) 0 0 (va_A (kb_nil ()) sz) := by
  refine kb_of (cc := cD_isWithin) (maxL := 3) (ret := (some .boolean)) (QcA := fun A => (va_Qi (fun r' u' => r' = F_D_isWithin a0 a1 a2 ∧ u' = ()) (kb_E D [] kb_nil A) A)) (by decide) (Nat.le_of_ble_eq_true rfl) ?_
  intro p e s m below meth c A hx hb hr hlocks hml hown hts hA hN hK hP hD ls hl
  have hS : va_S A s.heap s.heap [] := va_S.rf
  have hl : lv_has ls 3 [(0, .int a0), (1, .int a1), (2, .int a2)] := hl
  have e : F_D_isWithin a0 a1 a2 = F_D_isWithin a0 a1 a2 := rfl
  refine lv_iload_n hx hb dD_isWithin_0 rfl (lv_at hl 1 rfl) ?_
  refine lv_iload_n hx hb dD_isWithin_1 rfl (lv_at hl 0 rfl) ?_
  refine lv_icmp_gt (tgt := 14) hx hb dD_isWithin_2 (by decide) (fun c_1 => ?_) (fun c_1 => ?_)
  · have e := e.trans (if_pos c_1)
    refine lv_iconst (v := 0) hx hb dD_isWithin_14 (by decide) ?_
    exact kb_zret (wf := kb_nil) hx hb hr hlocks rfl hK hP hD hS ⟨e.symm, rfl⟩ dD_isWithin_15
  · have e := e.trans (if_neg c_1)
    refine lv_iload_n hx hb dD_isWithin_5 rfl (lv_at hl 0 rfl) ?_
    refine lv_iload_n hx hb dD_isWithin_6 rfl (lv_at hl 2 rfl) ?_
    refine lv_icmp_gt (tgt := 14) hx hb dD_isWithin_7 (by decide) (fun c_2 => ?_) (fun c_2 => ?_)
    · have e := e.trans (if_pos c_2)
      refine lv_iconst (v := 0) hx hb dD_isWithin_14 (by decide) ?_
      exact kb_zret (wf := kb_nil) hx hb hr hlocks rfl hK hP hD hS ⟨e.symm, rfl⟩ dD_isWithin_15
    · have e := e.trans (if_neg c_2)
      refine lv_iconst (v := 1) hx hb dD_isWithin_10 (by decide) ?_
      refine lv_goto (tgt := 15) hx hb dD_isWithin_11 (by decide) ?_
      exact kb_zret (wf := kb_nil) hx hb hr hlocks rfl hK hP hD hS ⟨e.symm, rfl⟩ dD_isWithin_15
theorem z_D_isWithin  (a0 : Int32) (a1 : Int32) (a2 : Int32) : F_D_isWithin a0 a1 a2 = 0 ∨ F_D_isWithin a0 a1 a2 = 1 := by
  unfold F_D_isWithin
  repeat' split
  all_goals first | exact Or.inl rfl | exact Or.inr rfl
/-- BoilerDesk.hasBit(II)Z -/
def F_D_hasBit  (a0 : Int32) (a1 : Int32) : Int32 := (if ((a0 >>> (a1 &&& 31)) &&& (1 : Int32)) = (0 : Int32) then (0 : Int32) else (1 : Int32))
set_option maxHeartbeats 4000000 in
set_option maxRecDepth 100000 in
theorem c_D_hasBit (l : Launch) (D : va_G) (sz : Nat)  (a0 : Int32) (a1 : Int32)  : Met l yD_hasBit [.code yD_hasBit cD_hasBit 2 (some .boolean)] ({ frames := 0, cells := 0, slots := 0, locals := 0 }) (va_Pc [.int a0, .int a1] (kb_B D [] kb_nil () sz)) (va_Qi (fun r' u' => r' = F_D_hasBit a0 a1 ∧ u' = ()) (kb_E D [] kb_nil (va_A (kb_nil ()) sz)) (va_A (kb_nil ()) sz)) 0 0 (va_A (kb_nil ()) sz) := by
  refine kb_of (cc := cD_hasBit) (maxL := 2) (ret := (some .boolean)) (QcA := fun A => (va_Qi (fun r' u' => r' = F_D_hasBit a0 a1 ∧ u' = ()) (kb_E D [] kb_nil A) A)) (by decide) (Nat.le_of_ble_eq_true rfl) ?_
  intro p e s m below meth c A hx hb hr hlocks hml hown hts hA hN hK hP hD ls hl
  have hS : va_S A s.heap s.heap [] := va_S.rf
  have hl : lv_has ls 2 [(0, .int a0), (1, .int a1)] := hl
  have e : F_D_hasBit a0 a1 = F_D_hasBit a0 a1 := rfl
  refine lv_iload_n hx hb dD_hasBit_0 rfl (lv_at hl 0 rfl) ?_
  refine lv_iload_n hx hb dD_hasBit_1 rfl (lv_at hl 1 rfl) ?_
  refine lv_ishr hx hb dD_hasBit_2 ?_
  refine lv_iconst (v := 1) hx hb dD_hasBit_3 (by decide) ?_
  refine lv_iand hx hb dD_hasBit_4 ?_
  refine lv_if_eq (tgt := 12) hx hb dD_hasBit_5 (by decide) (fun c_1 => ?_) (fun c_1 => ?_)
  · have e := e.trans (if_pos c_1)
    refine lv_iconst (v := 0) hx hb dD_hasBit_12 (by decide) ?_
    exact kb_zret (wf := kb_nil) hx hb hr hlocks rfl hK hP hD hS ⟨e.symm, rfl⟩ dD_hasBit_13
  · have e := e.trans (if_neg c_1)
    refine lv_iconst (v := 1) hx hb dD_hasBit_8 (by decide) ?_
    refine lv_goto (tgt := 13) hx hb dD_hasBit_9 (by decide) ?_
    exact kb_zret (wf := kb_nil) hx hb hr hlocks rfl hK hP hD hS ⟨e.symm, rfl⟩ dD_hasBit_13
theorem z_D_hasBit  (a0 : Int32) (a1 : Int32) : F_D_hasBit a0 a1 = 0 ∨ F_D_hasBit a0 a1 = 1 := by
  unfold F_D_hasBit
  repeat' split
  all_goals first | exact Or.inl rfl | exact Or.inr rfl
/-- BoilerDesk.withBit(IIZ)I -/
def F_D_withBit  (a0 : Int32) (a1 : Int32) (a2 : Int32) : Int32 := (if a2 = (0 : Int32) then (a0 &&& (((1 : Int32) <<< (a1 &&& 31)) ^^^ ((-1) : Int32))) else (a0 ||| ((1 : Int32) <<< (a1 &&& 31))))
set_option maxHeartbeats 4000000 in
set_option maxRecDepth 100000 in
theorem c_D_withBit (l : Launch) (D : va_G) (sz : Nat)  (a0 : Int32) (a1 : Int32) (a2 : Int32) (z2 : a2 = 0 ∨ a2 = 1) : Met l yD_withBit [.code yD_withBit cD_withBit 3 (some .int)] ({ frames := 0, cells := 0, slots := 0, locals := 0 }) (va_Pc [.int a0, .int a1, .int a2] (kb_B D [] kb_nil () sz)) (va_Qi (fun r' u' => r' = F_D_withBit a0 a1 a2 ∧ u' = ()) (kb_E D [] kb_nil (va_A (kb_nil ()) sz)) (va_A (kb_nil ()) sz)) 0 0 (va_A (kb_nil ()) sz) := by
  refine kb_of (cc := cD_withBit) (maxL := 3) (ret := (some .int)) (QcA := fun A => (va_Qi (fun r' u' => r' = F_D_withBit a0 a1 a2 ∧ u' = ()) (kb_E D [] kb_nil A) A)) (by decide) (Nat.le_of_ble_eq_true rfl) ?_
  intro p e s m below meth c A hx hb hr hlocks hml hown hts hA hN hK hP hD ls hl
  have hS : va_S A s.heap s.heap [] := va_S.rf
  have hl : lv_has ls 3 [(0, .int a0), (1, .int a1), (2, .int a2)] := hl
  have e : F_D_withBit a0 a1 a2 = F_D_withBit a0 a1 a2 := rfl
  refine lv_iload_n hx hb dD_withBit_0 rfl (lv_at hl 2 rfl) ?_
  refine lv_if_eq (tgt := 12) hx hb dD_withBit_1 (by decide) (fun c_1 => ?_) (fun c_1 => ?_)
  · have e := e.trans (if_pos c_1)
    refine lv_iload_n hx hb dD_withBit_12 rfl (lv_at hl 0 rfl) ?_
    refine lv_iconst (v := 1) hx hb dD_withBit_13 (by decide) ?_
    refine lv_iload_n hx hb dD_withBit_14 rfl (lv_at hl 1 rfl) ?_
    refine lv_ishl hx hb dD_withBit_15 ?_
    refine lv_iconst (v := (-1)) hx hb dD_withBit_16 (by decide) ?_
    refine lv_ixor hx hb dD_withBit_17 ?_
    refine lv_iand hx hb dD_withBit_18 ?_
    exact kb_iret (wf := kb_nil) hx hb hr hlocks hK hP hD hS ⟨e.symm, rfl⟩ dD_withBit_19
  · have e := e.trans (if_neg c_1)
    refine lv_iload_n hx hb dD_withBit_4 rfl (lv_at hl 0 rfl) ?_
    refine lv_iconst (v := 1) hx hb dD_withBit_5 (by decide) ?_
    refine lv_iload_n hx hb dD_withBit_6 rfl (lv_at hl 1 rfl) ?_
    refine lv_ishl hx hb dD_withBit_7 ?_
    refine lv_ior hx hb dD_withBit_8 ?_
    refine lv_goto (tgt := 19) hx hb dD_withBit_9 (by decide) ?_
    exact kb_iret (wf := kb_nil) hx hb hr hlocks hK hP hD hS ⟨e.symm, rfl⟩ dD_withBit_19
/-- BoilerDesk.limitsAreSound(IIIII)Z -/
def F_D_limitsAreSound  (a0 : Int32) (a1 : Int32) (a2 : Int32) (a3 : Int32) (a4 : Int32) : Int32 := (if a1 < (0 : Int32) then (0 : Int32) else (if a2 ≤ a1 then (0 : Int32) else (if a3 ≤ a2 then (0 : Int32) else (if a4 ≤ a3 then (0 : Int32) else (if a0 < a4 then (0 : Int32) else (if (1000000 : Int32) < a0 then (0 : Int32) else (1 : Int32)))))))
set_option maxHeartbeats 4000000 in
set_option maxRecDepth 100000 in
theorem c_D_limitsAreSound (l : Launch) (D : va_G) (sz : Nat)  (a0 : Int32) (a1 : Int32) (a2 : Int32) (a3 : Int32) (a4 : Int32)  : Met l yD_limitsAreSound [.code yD_limitsAreSound cD_limitsAreSound 5 (some .boolean)] ({ frames := 0, cells := 0, slots := 0, locals := 0 }) (va_Pc [.int a0, .int a1, .int a2, .int a3, .int a4] (kb_B D [] kb_nil () sz)) (va_Qi (fun r' u' => r' = F_D_limitsAreSound a0 a1 a2 a3 a4 ∧ u' = ()) (kb_E D [] kb_nil (va_A (kb_nil ()) sz)) (va_A (kb_nil ()) sz)) 0 0 (va_A (kb_nil ()) sz) := by
  refine kb_of (cc := cD_limitsAreSound) (maxL := 5) (ret := (some .boolean)) (QcA := fun A => (va_Qi (fun r' u' => r' = F_D_limitsAreSound a0 a1 a2 a3 a4 ∧ u' = ()) (kb_E D [] kb_nil A) A)) (by decide) (Nat.le_of_ble_eq_true rfl) ?_
  intro p e s m below meth c A hx hb hr hlocks hml hown hts hA hN hK hP hD ls hl
  have hS : va_S A s.heap s.heap [] := va_S.rf
  have hl : lv_has ls 5 [(0, .int a0), (1, .int a1), (2, .int a2), (3, .int a3), (4, .int a4)] := hl
  have e : F_D_limitsAreSound a0 a1 a2 a3 a4 = F_D_limitsAreSound a0 a1 a2 a3 a4 := rfl
  refine lv_iconst (v := 0) hx hb dD_limitsAreSound_0 (by decide) ?_
  refine lv_iload_n hx hb dD_limitsAreSound_1 rfl (lv_at hl 1 rfl) ?_
  refine lv_icmp_gt (tgt := 37) hx hb dD_limitsAreSound_2 (by decide) (fun c_1 => ?_) (fun c_1 => ?_)
  · have e := e.trans (if_pos c_1)
    refine lv_iconst (v := 0) hx hb dD_limitsAreSound_37 (by decide) ?_
    exact kb_zret (wf := kb_nil) hx hb hr hlocks rfl hK hP hD hS ⟨e.symm, rfl⟩ dD_limitsAreSound_38
  · have e := e.trans (if_neg c_1)
    refine lv_iload_n hx hb dD_limitsAreSound_5 rfl (lv_at hl 1 rfl) ?_
    refine lv_iload_n hx hb dD_limitsAreSound_6 rfl (lv_at hl 2 rfl) ?_
    refine lv_icmp_ge (tgt := 37) hx hb dD_limitsAreSound_7 (by decide) (fun c_2 => ?_) (fun c_2 => ?_)
    · have e := e.trans (if_pos c_2)
      refine lv_iconst (v := 0) hx hb dD_limitsAreSound_37 (by decide) ?_
      exact kb_zret (wf := kb_nil) hx hb hr hlocks rfl hK hP hD hS ⟨e.symm, rfl⟩ dD_limitsAreSound_38
    · have e := e.trans (if_neg c_2)
      refine lv_iload_n hx hb dD_limitsAreSound_10 rfl (lv_at hl 2 rfl) ?_
      refine lv_iload_n hx hb dD_limitsAreSound_11 rfl (lv_at hl 3 rfl) ?_
      refine lv_icmp_ge (tgt := 37) hx hb dD_limitsAreSound_12 (by decide) (fun c_3 => ?_) (fun c_3 => ?_)
      · have e := e.trans (if_pos c_3)
        refine lv_iconst (v := 0) hx hb dD_limitsAreSound_37 (by decide) ?_
        exact kb_zret (wf := kb_nil) hx hb hr hlocks rfl hK hP hD hS ⟨e.symm, rfl⟩ dD_limitsAreSound_38
      · have e := e.trans (if_neg c_3)
        refine lv_iload_n hx hb dD_limitsAreSound_15 rfl (lv_at hl 3 rfl) ?_
        refine lv_iload hx hb dD_limitsAreSound_16 (lv_at hl 4 rfl) ?_
        refine lv_icmp_ge (tgt := 37) hx hb dD_limitsAreSound_18 (by decide) (fun c_4 => ?_) (fun c_4 => ?_)
        · have e := e.trans (if_pos c_4)
          refine lv_iconst (v := 0) hx hb dD_limitsAreSound_37 (by decide) ?_
          exact kb_zret (wf := kb_nil) hx hb hr hlocks rfl hK hP hD hS ⟨e.symm, rfl⟩ dD_limitsAreSound_38
        · have e := e.trans (if_neg c_4)
          refine lv_iload hx hb dD_limitsAreSound_21 (lv_at hl 4 rfl) ?_
          refine lv_iload_n hx hb dD_limitsAreSound_23 rfl (lv_at hl 0 rfl) ?_
          refine lv_icmp_gt (tgt := 37) hx hb dD_limitsAreSound_24 (by decide) (fun c_5 => ?_) (fun c_5 => ?_)
          · have e := e.trans (if_pos c_5)
            refine lv_iconst (v := 0) hx hb dD_limitsAreSound_37 (by decide) ?_
            exact kb_zret (wf := kb_nil) hx hb hr hlocks rfl hK hP hD hS ⟨e.symm, rfl⟩ dD_limitsAreSound_38
          · have e := e.trans (if_neg c_5)
            refine lv_iload_n hx hb dD_limitsAreSound_27 rfl (lv_at hl 0 rfl) ?_
            refine lv_ldc (v := 1000000) hx hb hown (hts _ q_331) dD_limitsAreSound_28 ?_
            refine lv_icmp_gt (tgt := 37) hx hb dD_limitsAreSound_30 (by decide) (fun c_6 => ?_) (fun c_6 => ?_)
            · have e := e.trans (if_pos c_6)
              refine lv_iconst (v := 0) hx hb dD_limitsAreSound_37 (by decide) ?_
              exact kb_zret (wf := kb_nil) hx hb hr hlocks rfl hK hP hD hS ⟨e.symm, rfl⟩ dD_limitsAreSound_38
            · have e := e.trans (if_neg c_6)
              refine lv_iconst (v := 1) hx hb dD_limitsAreSound_33 (by decide) ?_
              refine lv_goto (tgt := 38) hx hb dD_limitsAreSound_34 (by decide) ?_
              exact kb_zret (wf := kb_nil) hx hb hr hlocks rfl hK hP hD hS ⟨e.symm, rfl⟩ dD_limitsAreSound_38
theorem z_D_limitsAreSound  (a0 : Int32) (a1 : Int32) (a2 : Int32) (a3 : Int32) (a4 : Int32) : F_D_limitsAreSound a0 a1 a2 a3 a4 = 0 ∨ F_D_limitsAreSound a0 a1 a2 a3 a4 = 1 := by
  unfold F_D_limitsAreSound
  repeat' split
  all_goals first | exact Or.inl rfl | exact Or.inr rfl
/-- BoilerDesk.ratesAreSound(IIII)Z -/
def F_D_ratesAreSound  (a0 : Int32) (a1 : Int32) (a2 : Int32) (a3 : Int32) : Int32 := (if (F_D_isWithin a0 (0 : Int32) (100000 : Int32)) = (0 : Int32) then (0 : Int32) else (if (F_D_isWithin a1 (0 : Int32) (100000 : Int32)) = (0 : Int32) then (0 : Int32) else (if (F_D_isWithin a2 (0 : Int32) (100000 : Int32)) = (0 : Int32) then (0 : Int32) else (if (F_D_isWithin a3 (1 : Int32) (100000 : Int32)) = (0 : Int32) then (0 : Int32) else (1 : Int32)))))
set_option maxHeartbeats 4000000 in
set_option maxRecDepth 100000 in
theorem c_D_ratesAreSound (l : Launch) (D : va_G) (sz : Nat)  (a0 : Int32) (a1 : Int32) (a2 : Int32) (a3 : Int32)  : Met l yD_ratesAreSound [.code yD_ratesAreSound cD_ratesAreSound 4 (some .boolean)] ({ frames := 1, cells := 0, slots := 0, locals := 22 }) (va_Pc [.int a0, .int a1, .int a2, .int a3] (kb_B D [] kb_nil () sz)) (va_Qi (fun r' u' => r' = F_D_ratesAreSound a0 a1 a2 a3 ∧ u' = ()) (kb_E D [] kb_nil (va_A (kb_nil ()) sz)) (va_A (kb_nil ()) sz)) 0 0 (va_A (kb_nil ()) sz) := by
  refine kb_of (cc := cD_ratesAreSound) (maxL := 4) (ret := (some .boolean)) (QcA := fun A => (va_Qi (fun r' u' => r' = F_D_ratesAreSound a0 a1 a2 a3 ∧ u' = ()) (kb_E D [] kb_nil A) A)) (by decide) (Nat.le_of_ble_eq_true rfl) ?_
  intro p e s m below meth c A hx hb hr hlocks hml hown hts hA hN hK hP hD ls hl
  have hS : va_S A s.heap s.heap [] := va_S.rf
  have hl : lv_has ls 4 [(0, .int a0), (1, .int a1), (2, .int a2), (3, .int a3)] := hl
  have e : F_D_ratesAreSound a0 a1 a2 a3 = F_D_ratesAreSound a0 a1 a2 a3 := rfl
  refine lv_iload_n hx hb dD_ratesAreSound_0 rfl (lv_at hl 0 rfl) ?_
  refine lv_iconst (v := 0) hx hb dD_ratesAreSound_1 (by decide) ?_
  refine lv_ldc (v := 100000) hx hb hown (hts _ q_335) dD_ratesAreSound_2 ?_
  refine kb_call0 (r := (F_D_isWithin a0 (0 : Int32) (100000 : Int32))) (va_runS (As := [.int a0, .int 0, .int 100000]) (rest := []) ⟨hx, hb, hml, hown, hts⟩ (c_D_isWithin l D _ a0 (0 : Int32) (100000 : Int32)) (va_cwS 3 hts (gd_S q_336 q_337 q_33 q_338) rfl rfl rfl (by decide +kernel) ⟨Nat.le_of_ble_eq_true rfl, Nat.le_of_ble_eq_true rfl⟩) (kb_pre0 hN hK) rfl rfl hl.1 rfl (lv_room (Nat.le_of_ble_eq_true rfl)) dD_ratesAreSound_4 ⟨Nat.zero_le _, Nat.zero_le _⟩) hP hS hA (fun H locs hP hS => ?_)
  refine lv_if_eq (tgt := 44) hx hb dD_ratesAreSound_7 (by decide) (fun c_1 => ?_) (fun c_1 => ?_)
  · have e := e.trans (if_pos c_1)
    refine lv_iconst (v := 0) hx hb dD_ratesAreSound_44 (by decide) ?_
    exact kb_zret (wf := kb_nil) hx hb hr hlocks rfl hK hP hD hS ⟨e.symm, rfl⟩ dD_ratesAreSound_45
  · have e := e.trans (if_neg c_1)
    refine lv_iload_n hx hb dD_ratesAreSound_10 rfl (lv_at hl 1 rfl) ?_
    refine lv_iconst (v := 0) hx hb dD_ratesAreSound_11 (by decide) ?_
    refine lv_ldc (v := 100000) hx hb hown (hts _ q_335) dD_ratesAreSound_12 ?_
    refine kb_call0 (r := (F_D_isWithin a1 (0 : Int32) (100000 : Int32))) (va_runS (As := [.int a1, .int 0, .int 100000]) (rest := []) ⟨hx, hb, hml, hown, hts⟩ (c_D_isWithin l D _ a1 (0 : Int32) (100000 : Int32)) (va_cwS 3 hts (gd_S q_336 q_337 q_33 q_338) rfl rfl rfl (by decide +kernel) ⟨Nat.le_of_ble_eq_true rfl, Nat.le_of_ble_eq_true rfl⟩) (kb_pre0 hN hK) rfl rfl hl.1 rfl (lv_room (Nat.le_of_ble_eq_true rfl)) dD_ratesAreSound_14 ⟨Nat.zero_le _, Nat.zero_le _⟩) hP hS hA (fun H locs hP hS => ?_)
    refine lv_if_eq (tgt := 44) hx hb dD_ratesAreSound_17 (by decide) (fun c_2 => ?_) (fun c_2 => ?_)
    · have e := e.trans (if_pos c_2)
      refine lv_iconst (v := 0) hx hb dD_ratesAreSound_44 (by decide) ?_
      exact kb_zret (wf := kb_nil) hx hb hr hlocks rfl hK hP hD hS ⟨e.symm, rfl⟩ dD_ratesAreSound_45
    · have e := e.trans (if_neg c_2)
      refine lv_iload_n hx hb dD_ratesAreSound_20 rfl (lv_at hl 2 rfl) ?_
      refine lv_iconst (v := 0) hx hb dD_ratesAreSound_21 (by decide) ?_
      refine lv_ldc (v := 100000) hx hb hown (hts _ q_335) dD_ratesAreSound_22 ?_
      refine kb_call0 (r := (F_D_isWithin a2 (0 : Int32) (100000 : Int32))) (va_runS (As := [.int a2, .int 0, .int 100000]) (rest := []) ⟨hx, hb, hml, hown, hts⟩ (c_D_isWithin l D _ a2 (0 : Int32) (100000 : Int32)) (va_cwS 3 hts (gd_S q_336 q_337 q_33 q_338) rfl rfl rfl (by decide +kernel) ⟨Nat.le_of_ble_eq_true rfl, Nat.le_of_ble_eq_true rfl⟩) (kb_pre0 hN hK) rfl rfl hl.1 rfl (lv_room (Nat.le_of_ble_eq_true rfl)) dD_ratesAreSound_24 ⟨Nat.zero_le _, Nat.zero_le _⟩) hP hS hA (fun H locs hP hS => ?_)
      refine lv_if_eq (tgt := 44) hx hb dD_ratesAreSound_27 (by decide) (fun c_3 => ?_) (fun c_3 => ?_)
      · have e := e.trans (if_pos c_3)
        refine lv_iconst (v := 0) hx hb dD_ratesAreSound_44 (by decide) ?_
        exact kb_zret (wf := kb_nil) hx hb hr hlocks rfl hK hP hD hS ⟨e.symm, rfl⟩ dD_ratesAreSound_45
      · have e := e.trans (if_neg c_3)
        refine lv_iload_n hx hb dD_ratesAreSound_30 rfl (lv_at hl 3 rfl) ?_
        refine lv_iconst (v := 1) hx hb dD_ratesAreSound_31 (by decide) ?_
        refine lv_ldc (v := 100000) hx hb hown (hts _ q_335) dD_ratesAreSound_32 ?_
        refine kb_call0 (r := (F_D_isWithin a3 (1 : Int32) (100000 : Int32))) (va_runS (As := [.int a3, .int 1, .int 100000]) (rest := []) ⟨hx, hb, hml, hown, hts⟩ (c_D_isWithin l D _ a3 (1 : Int32) (100000 : Int32)) (va_cwS 3 hts (gd_S q_336 q_337 q_33 q_338) rfl rfl rfl (by decide +kernel) ⟨Nat.le_of_ble_eq_true rfl, Nat.le_of_ble_eq_true rfl⟩) (kb_pre0 hN hK) rfl rfl hl.1 rfl (lv_room (Nat.le_of_ble_eq_true rfl)) dD_ratesAreSound_34 ⟨Nat.zero_le _, Nat.zero_le _⟩) hP hS hA (fun H locs hP hS => ?_)
        refine lv_if_eq (tgt := 44) hx hb dD_ratesAreSound_37 (by decide) (fun c_4 => ?_) (fun c_4 => ?_)
        · have e := e.trans (if_pos c_4)
          refine lv_iconst (v := 0) hx hb dD_ratesAreSound_44 (by decide) ?_
          exact kb_zret (wf := kb_nil) hx hb hr hlocks rfl hK hP hD hS ⟨e.symm, rfl⟩ dD_ratesAreSound_45
        · have e := e.trans (if_neg c_4)
          refine lv_iconst (v := 1) hx hb dD_ratesAreSound_40 (by decide) ?_
          refine lv_goto (tgt := 45) hx hb dD_ratesAreSound_41 (by decide) ?_
          exact kb_zret (wf := kb_nil) hx hb hr hlocks rfl hK hP hD hS ⟨e.symm, rfl⟩ dD_ratesAreSound_45
theorem z_D_ratesAreSound  (a0 : Int32) (a1 : Int32) (a2 : Int32) (a3 : Int32) : F_D_ratesAreSound a0 a1 a2 a3 = 0 ∨ F_D_ratesAreSound a0 a1 a2 a3 = 1 := by
  unfold F_D_ratesAreSound
  repeat' split
  all_goals first | exact Or.inl rfl | exact Or.inr rfl | exact z_D_isWithin _ _ _ | exact z_D_isWithin _ _
/-- BoilerDesk$Machines.trusted(I)I -/
def F_M_trusted  (a0 : Int32) : Int32 := (((15 : Int32) &&& ((a0 >>> ((2 : Int32) &&& 31)) ^^^ ((-1) : Int32))) &&& ((a0 >>> ((6 : Int32) &&& 31)) ^^^ ((-1) : Int32)))
set_option maxHeartbeats 4000000 in
set_option maxRecDepth 100000 in
theorem c_M_trusted (l : Launch) (D : va_G) (sz : Nat)  (a0 : Int32)  : Met l yM_trusted [.code yM_trusted cM_trusted 1 (some .int)] ({ frames := 0, cells := 0, slots := 0, locals := 0 }) (va_Pc [.int a0] (kb_B D [] kb_nil () sz)) (va_Qi (fun r' u' => r' = F_M_trusted a0 ∧ u' = ()) (kb_E D [] kb_nil (va_A (kb_nil ()) sz)) (va_A (kb_nil ()) sz)) 0 0 (va_A (kb_nil ()) sz) := by
  refine kb_of (cc := cM_trusted) (maxL := 1) (ret := (some .int)) (QcA := fun A => (va_Qi (fun r' u' => r' = F_M_trusted a0 ∧ u' = ()) (kb_E D [] kb_nil A) A)) (by decide) (Nat.le_of_ble_eq_true rfl) ?_
  intro p e s m below meth c A hx hb hr hlocks hml hown hts hA hN hK hP hD ls hl
  have hS : va_S A s.heap s.heap [] := va_S.rf
  have hl : lv_has ls 1 [(0, .int a0)] := hl
  have e : F_M_trusted a0 = F_M_trusted a0 := rfl
  refine lv_bipush (v := 15) hx hb dM_trusted_0 (by decide) ?_
  refine lv_iload_n hx hb dM_trusted_2 rfl (lv_at hl 0 rfl) ?_
  refine lv_iconst (v := 2) hx hb dM_trusted_3 (by decide) ?_
  refine lv_ishr hx hb dM_trusted_4 ?_
  refine lv_iconst (v := (-1)) hx hb dM_trusted_5 (by decide) ?_
  refine lv_ixor hx hb dM_trusted_6 ?_
  refine lv_iand hx hb dM_trusted_7 ?_
  refine lv_iload_n hx hb dM_trusted_8 rfl (lv_at hl 0 rfl) ?_
  refine lv_bipush (v := 6) hx hb dM_trusted_9 (by decide) ?_
  refine lv_ishr hx hb dM_trusted_11 ?_
  refine lv_iconst (v := (-1)) hx hb dM_trusted_12 (by decide) ?_
  refine lv_ixor hx hb dM_trusted_13 ?_
  refine lv_iand hx hb dM_trusted_14 ?_
  exact kb_iret (wf := kb_nil) hx hb hr hlocks hK hP hD hS ⟨e.symm, rfl⟩ dM_trusted_15
/-- java/lang/Integer.bitCount(I)I -/
def F_J_bitCount  (a0 : Int32) : Int32 := ((((((((a0 - (((a0.toUInt32 >>> ((1 : Int32).toUInt32 &&& Int32.toUInt32 31)).toInt32) &&& (1431655765 : Int32))) &&& (858993459 : Int32)) + ((((a0 - (((a0.toUInt32 >>> ((1 : Int32).toUInt32 &&& Int32.toUInt32 31)).toInt32) &&& (1431655765 : Int32))).toUInt32 >>> ((2 : Int32).toUInt32 &&& Int32.toUInt32 31)).toInt32) &&& (858993459 : Int32))) + (((((a0 - (((a0.toUInt32 >>> ((1 : Int32).toUInt32 &&& Int32.toUInt32 31)).toInt32) &&& (1431655765 : Int32))) &&& (858993459 : Int32)) + ((((a0 - (((a0.toUInt32 >>> ((1 : Int32).toUInt32 &&& Int32.toUInt32 31)).toInt32) &&& (1431655765 : Int32))).toUInt32 >>> ((2 : Int32).toUInt32 &&& Int32.toUInt32 31)).toInt32) &&& (858993459 : Int32))).toUInt32 >>> ((4 : Int32).toUInt32 &&& Int32.toUInt32 31)).toInt32)) &&& (252645135 : Int32)) + (((((((a0 - (((a0.toUInt32 >>> ((1 : Int32).toUInt32 &&& Int32.toUInt32 31)).toInt32) &&& (1431655765 : Int32))) &&& (858993459 : Int32)) + ((((a0 - (((a0.toUInt32 >>> ((1 : Int32).toUInt32 &&& Int32.toUInt32 31)).toInt32) &&& (1431655765 : Int32))).toUInt32 >>> ((2 : Int32).toUInt32 &&& Int32.toUInt32 31)).toInt32) &&& (858993459 : Int32))) + (((((a0 - (((a0.toUInt32 >>> ((1 : Int32).toUInt32 &&& Int32.toUInt32 31)).toInt32) &&& (1431655765 : Int32))) &&& (858993459 : Int32)) + ((((a0 - (((a0.toUInt32 >>> ((1 : Int32).toUInt32 &&& Int32.toUInt32 31)).toInt32) &&& (1431655765 : Int32))).toUInt32 >>> ((2 : Int32).toUInt32 &&& Int32.toUInt32 31)).toInt32) &&& (858993459 : Int32))).toUInt32 >>> ((4 : Int32).toUInt32 &&& Int32.toUInt32 31)).toInt32)) &&& (252645135 : Int32)).toUInt32 >>> ((8 : Int32).toUInt32 &&& Int32.toUInt32 31)).toInt32)) + ((((((((a0 - (((a0.toUInt32 >>> ((1 : Int32).toUInt32 &&& Int32.toUInt32 31)).toInt32) &&& (1431655765 : Int32))) &&& (858993459 : Int32)) + ((((a0 - (((a0.toUInt32 >>> ((1 : Int32).toUInt32 &&& Int32.toUInt32 31)).toInt32) &&& (1431655765 : Int32))).toUInt32 >>> ((2 : Int32).toUInt32 &&& Int32.toUInt32 31)).toInt32) &&& (858993459 : Int32))) + (((((a0 - (((a0.toUInt32 >>> ((1 : Int32).toUInt32 &&& Int32.toUInt32 31)).toInt32) &&& (1431655765 : Int32))) &&& (858993459 : Int32)) + ((((a0 - (((a0.toUInt32 >>> ((1 : Int32).toUInt32 &&& Int32.toUInt32 31)).toInt32) &&& (1431655765 : Int32))).toUInt32 >>> ((2 : Int32).toUInt32 &&& Int32.toUInt32 31)).toInt32) &&& (858993459 : Int32))).toUInt32 >>> ((4 : Int32).toUInt32 &&& Int32.toUInt32 31)).toInt32)) &&& (252645135 : Int32)) + (((((((a0 - (((a0.toUInt32 >>> ((1 : Int32).toUInt32 &&& Int32.toUInt32 31)).toInt32) &&& (1431655765 : Int32))) &&& (858993459 : Int32)) + ((((a0 - (((a0.toUInt32 >>> ((1 : Int32).toUInt32 &&& Int32.toUInt32 31)).toInt32) &&& (1431655765 : Int32))).toUInt32 >>> ((2 : Int32).toUInt32 &&& Int32.toUInt32 31)).toInt32) &&& (858993459 : Int32))) + (((((a0 - (((a0.toUInt32 >>> ((1 : Int32).toUInt32 &&& Int32.toUInt32 31)).toInt32) &&& (1431655765 : Int32))) &&& (858993459 : Int32)) + ((((a0 - (((a0.toUInt32 >>> ((1 : Int32).toUInt32 &&& Int32.toUInt32 31)).toInt32) &&& (1431655765 : Int32))).toUInt32 >>> ((2 : Int32).toUInt32 &&& Int32.toUInt32 31)).toInt32) &&& (858993459 : Int32))).toUInt32 >>> ((4 : Int32).toUInt32 &&& Int32.toUInt32 31)).toInt32)) &&& (252645135 : Int32)).toUInt32 >>> ((8 : Int32).toUInt32 &&& Int32.toUInt32 31)).toInt32)).toUInt32 >>> ((16 : Int32).toUInt32 &&& Int32.toUInt32 31)).toInt32)) &&& (63 : Int32))
set_option maxHeartbeats 4000000 in
set_option maxRecDepth 100000 in
theorem c_J_bitCount (l : Launch) (D : va_G) (sz : Nat)  (a0 : Int32)  : Met l yJ_bitCount [.code yJ_bitCount cJ_bitCount 1 (some .int)] ({ frames := 0, cells := 0, slots := 0, locals := 0 }) (va_Pc [.int a0] (kb_B D [] kb_nil () sz)) (va_Qi (fun r' u' => r' = F_J_bitCount a0 ∧ u' = ()) (kb_E D [] kb_nil (va_A (kb_nil ()) sz)) (va_A (kb_nil ()) sz)) 0 0 (va_A (kb_nil ()) sz) := by
  refine kb_of (cc := cJ_bitCount) (maxL := 1) (ret := (some .int)) (QcA := fun A => (va_Qi (fun r' u' => r' = F_J_bitCount a0 ∧ u' = ()) (kb_E D [] kb_nil A) A)) (by decide) (Nat.le_of_ble_eq_true rfl) ?_
  intro p e s m below meth c A hx hb hr hlocks hml hown hts hA hN hK hP hD ls hl
  have hS : va_S A s.heap s.heap [] := va_S.rf
  have hl : lv_has ls 1 [(0, .int a0)] := hl
  have e : F_J_bitCount a0 = F_J_bitCount a0 := rfl
  refine lv_iload_n hx hb dJ_bitCount_0 rfl (lv_at hl 0 rfl) ?_
  refine lv_iload_n hx hb dJ_bitCount_1 rfl (lv_at hl 0 rfl) ?_
  refine lv_iconst (v := 1) hx hb dJ_bitCount_2 (by decide) ?_
  refine lv_iushr hx hb dJ_bitCount_3 rfl ?_
  refine lv_ldcw (v := 1431655765) hx hb hown (hts _ q_530) dJ_bitCount_4 ?_
  refine lv_iand hx hb dJ_bitCount_7 ?_
  refine lv_isub hx hb dJ_bitCount_8 ?_
  refine lv_istore_n (lv' := [(0, .int (a0 - (((a0.toUInt32 >>> ((1 : Int32).toUInt32 &&& Int32.toUInt32 31)).toInt32) &&& (1431655765 : Int32))))]) hx hb dJ_bitCount_9 rfl hl (by decide) rfl (fun ls hl => ?_)
  refine lv_iload_n hx hb dJ_bitCount_10 rfl (lv_at hl 0 rfl) ?_
  refine lv_ldcw (v := 858993459) hx hb hown (hts _ q_531) dJ_bitCount_11 ?_
  refine lv_iand hx hb dJ_bitCount_14 ?_
  refine lv_iload_n hx hb dJ_bitCount_15 rfl (lv_at hl 0 rfl) ?_
  refine lv_iconst (v := 2) hx hb dJ_bitCount_16 (by decide) ?_
  refine lv_iushr hx hb dJ_bitCount_17 rfl ?_
  refine lv_ldcw (v := 858993459) hx hb hown (hts _ q_531) dJ_bitCount_18 ?_
  refine lv_iand hx hb dJ_bitCount_21 ?_
  refine lv_iadd hx hb dJ_bitCount_22 ?_
  refine lv_istore_n (lv' := [(0, .int (((a0 - (((a0.toUInt32 >>> ((1 : Int32).toUInt32 &&& Int32.toUInt32 31)).toInt32) &&& (1431655765 : Int32))) &&& (858993459 : Int32)) + ((((a0 - (((a0.toUInt32 >>> ((1 : Int32).toUInt32 &&& Int32.toUInt32 31)).toInt32) &&& (1431655765 : Int32))).toUInt32 >>> ((2 : Int32).toUInt32 &&& Int32.toUInt32 31)).toInt32) &&& (858993459 : Int32))))]) hx hb dJ_bitCount_23 rfl hl (by decide) rfl (fun ls hl => ?_)
  refine lv_iload_n hx hb dJ_bitCount_24 rfl (lv_at hl 0 rfl) ?_
  refine lv_iload_n hx hb dJ_bitCount_25 rfl (lv_at hl 0 rfl) ?_
  refine lv_iconst (v := 4) hx hb dJ_bitCount_26 (by decide) ?_
  refine lv_iushr hx hb dJ_bitCount_27 rfl ?_
  refine lv_iadd hx hb dJ_bitCount_28 ?_
  refine lv_ldcw (v := 252645135) hx hb hown (hts _ q_532) dJ_bitCount_29 ?_
  refine lv_iand hx hb dJ_bitCount_32 ?_
  refine lv_istore_n (lv' := [(0, .int (((((a0 - (((a0.toUInt32 >>> ((1 : Int32).toUInt32 &&& Int32.toUInt32 31)).toInt32) &&& (1431655765 : Int32))) &&& (858993459 : Int32)) + ((((a0 - (((a0.toUInt32 >>> ((1 : Int32).toUInt32 &&& Int32.toUInt32 31)).toInt32) &&& (1431655765 : Int32))).toUInt32 >>> ((2 : Int32).toUInt32 &&& Int32.toUInt32 31)).toInt32) &&& (858993459 : Int32))) + (((((a0 - (((a0.toUInt32 >>> ((1 : Int32).toUInt32 &&& Int32.toUInt32 31)).toInt32) &&& (1431655765 : Int32))) &&& (858993459 : Int32)) + ((((a0 - (((a0.toUInt32 >>> ((1 : Int32).toUInt32 &&& Int32.toUInt32 31)).toInt32) &&& (1431655765 : Int32))).toUInt32 >>> ((2 : Int32).toUInt32 &&& Int32.toUInt32 31)).toInt32) &&& (858993459 : Int32))).toUInt32 >>> ((4 : Int32).toUInt32 &&& Int32.toUInt32 31)).toInt32)) &&& (252645135 : Int32)))]) hx hb dJ_bitCount_33 rfl hl (by decide) rfl (fun ls hl => ?_)
  refine lv_iload_n hx hb dJ_bitCount_34 rfl (lv_at hl 0 rfl) ?_
  refine lv_iload_n hx hb dJ_bitCount_35 rfl (lv_at hl 0 rfl) ?_
  refine lv_bipush (v := 8) hx hb dJ_bitCount_36 (by decide) ?_
  refine lv_iushr hx hb dJ_bitCount_38 rfl ?_
  refine lv_iadd hx hb dJ_bitCount_39 ?_
  refine lv_istore_n (lv' := [(0, .int ((((((a0 - (((a0.toUInt32 >>> ((1 : Int32).toUInt32 &&& Int32.toUInt32 31)).toInt32) &&& (1431655765 : Int32))) &&& (858993459 : Int32)) + ((((a0 - (((a0.toUInt32 >>> ((1 : Int32).toUInt32 &&& Int32.toUInt32 31)).toInt32) &&& (1431655765 : Int32))).toUInt32 >>> ((2 : Int32).toUInt32 &&& Int32.toUInt32 31)).toInt32) &&& (858993459 : Int32))) + (((((a0 - (((a0.toUInt32 >>> ((1 : Int32).toUInt32 &&& Int32.toUInt32 31)).toInt32) &&& (1431655765 : Int32))) &&& (858993459 : Int32)) + ((((a0 - (((a0.toUInt32 >>> ((1 : Int32).toUInt32 &&& Int32.toUInt32 31)).toInt32) &&& (1431655765 : Int32))).toUInt32 >>> ((2 : Int32).toUInt32 &&& Int32.toUInt32 31)).toInt32) &&& (858993459 : Int32))).toUInt32 >>> ((4 : Int32).toUInt32 &&& Int32.toUInt32 31)).toInt32)) &&& (252645135 : Int32)) + (((((((a0 - (((a0.toUInt32 >>> ((1 : Int32).toUInt32 &&& Int32.toUInt32 31)).toInt32) &&& (1431655765 : Int32))) &&& (858993459 : Int32)) + ((((a0 - (((a0.toUInt32 >>> ((1 : Int32).toUInt32 &&& Int32.toUInt32 31)).toInt32) &&& (1431655765 : Int32))).toUInt32 >>> ((2 : Int32).toUInt32 &&& Int32.toUInt32 31)).toInt32) &&& (858993459 : Int32))) + (((((a0 - (((a0.toUInt32 >>> ((1 : Int32).toUInt32 &&& Int32.toUInt32 31)).toInt32) &&& (1431655765 : Int32))) &&& (858993459 : Int32)) + ((((a0 - (((a0.toUInt32 >>> ((1 : Int32).toUInt32 &&& Int32.toUInt32 31)).toInt32) &&& (1431655765 : Int32))).toUInt32 >>> ((2 : Int32).toUInt32 &&& Int32.toUInt32 31)).toInt32) &&& (858993459 : Int32))).toUInt32 >>> ((4 : Int32).toUInt32 &&& Int32.toUInt32 31)).toInt32)) &&& (252645135 : Int32)).toUInt32 >>> ((8 : Int32).toUInt32 &&& Int32.toUInt32 31)).toInt32)))]) hx hb dJ_bitCount_40 rfl hl (by decide) rfl (fun ls hl => ?_)
  refine lv_iload_n hx hb dJ_bitCount_41 rfl (lv_at hl 0 rfl) ?_
  refine lv_iload_n hx hb dJ_bitCount_42 rfl (lv_at hl 0 rfl) ?_
  refine lv_bipush (v := 16) hx hb dJ_bitCount_43 (by decide) ?_
  refine lv_iushr hx hb dJ_bitCount_45 rfl ?_
  refine lv_iadd hx hb dJ_bitCount_46 ?_
  refine lv_istore_n (lv' := [(0, .int (((((((a0 - (((a0.toUInt32 >>> ((1 : Int32).toUInt32 &&& Int32.toUInt32 31)).toInt32) &&& (1431655765 : Int32))) &&& (858993459 : Int32)) + ((((a0 - (((a0.toUInt32 >>> ((1 : Int32).toUInt32 &&& Int32.toUInt32 31)).toInt32) &&& (1431655765 : Int32))).toUInt32 >>> ((2 : Int32).toUInt32 &&& Int32.toUInt32 31)).toInt32) &&& (858993459 : Int32))) + (((((a0 - (((a0.toUInt32 >>> ((1 : Int32).toUInt32 &&& Int32.toUInt32 31)).toInt32) &&& (1431655765 : Int32))) &&& (858993459 : Int32)) + ((((a0 - (((a0.toUInt32 >>> ((1 : Int32).toUInt32 &&& Int32.toUInt32 31)).toInt32) &&& (1431655765 : Int32))).toUInt32 >>> ((2 : Int32).toUInt32 &&& Int32.toUInt32 31)).toInt32) &&& (858993459 : Int32))).toUInt32 >>> ((4 : Int32).toUInt32 &&& Int32.toUInt32 31)).toInt32)) &&& (252645135 : Int32)) + (((((((a0 - (((a0.toUInt32 >>> ((1 : Int32).toUInt32 &&& Int32.toUInt32 31)).toInt32) &&& (1431655765 : Int32))) &&& (858993459 : Int32)) + ((((a0 - (((a0.toUInt32 >>> ((1 : Int32).toUInt32 &&& Int32.toUInt32 31)).toInt32) &&& (1431655765 : Int32))).toUInt32 >>> ((2 : Int32).toUInt32 &&& Int32.toUInt32 31)).toInt32) &&& (858993459 : Int32))) + (((((a0 - (((a0.toUInt32 >>> ((1 : Int32).toUInt32 &&& Int32.toUInt32 31)).toInt32) &&& (1431655765 : Int32))) &&& (858993459 : Int32)) + ((((a0 - (((a0.toUInt32 >>> ((1 : Int32).toUInt32 &&& Int32.toUInt32 31)).toInt32) &&& (1431655765 : Int32))).toUInt32 >>> ((2 : Int32).toUInt32 &&& Int32.toUInt32 31)).toInt32) &&& (858993459 : Int32))).toUInt32 >>> ((4 : Int32).toUInt32 &&& Int32.toUInt32 31)).toInt32)) &&& (252645135 : Int32)).toUInt32 >>> ((8 : Int32).toUInt32 &&& Int32.toUInt32 31)).toInt32)) + ((((((((a0 - (((a0.toUInt32 >>> ((1 : Int32).toUInt32 &&& Int32.toUInt32 31)).toInt32) &&& (1431655765 : Int32))) &&& (858993459 : Int32)) + ((((a0 - (((a0.toUInt32 >>> ((1 : Int32).toUInt32 &&& Int32.toUInt32 31)).toInt32) &&& (1431655765 : Int32))).toUInt32 >>> ((2 : Int32).toUInt32 &&& Int32.toUInt32 31)).toInt32) &&& (858993459 : Int32))) + (((((a0 - (((a0.toUInt32 >>> ((1 : Int32).toUInt32 &&& Int32.toUInt32 31)).toInt32) &&& (1431655765 : Int32))) &&& (858993459 : Int32)) + ((((a0 - (((a0.toUInt32 >>> ((1 : Int32).toUInt32 &&& Int32.toUInt32 31)).toInt32) &&& (1431655765 : Int32))).toUInt32 >>> ((2 : Int32).toUInt32 &&& Int32.toUInt32 31)).toInt32) &&& (858993459 : Int32))).toUInt32 >>> ((4 : Int32).toUInt32 &&& Int32.toUInt32 31)).toInt32)) &&& (252645135 : Int32)) + (((((((a0 - (((a0.toUInt32 >>> ((1 : Int32).toUInt32 &&& Int32.toUInt32 31)).toInt32) &&& (1431655765 : Int32))) &&& (858993459 : Int32)) + ((((a0 - (((a0.toUInt32 >>> ((1 : Int32).toUInt32 &&& Int32.toUInt32 31)).toInt32) &&& (1431655765 : Int32))).toUInt32 >>> ((2 : Int32).toUInt32 &&& Int32.toUInt32 31)).toInt32) &&& (858993459 : Int32))) + (((((a0 - (((a0.toUInt32 >>> ((1 : Int32).toUInt32 &&& Int32.toUInt32 31)).toInt32) &&& (1431655765 : Int32))) &&& (858993459 : Int32)) + ((((a0 - (((a0.toUInt32 >>> ((1 : Int32).toUInt32 &&& Int32.toUInt32 31)).toInt32) &&& (1431655765 : Int32))).toUInt32 >>> ((2 : Int32).toUInt32 &&& Int32.toUInt32 31)).toInt32) &&& (858993459 : Int32))).toUInt32 >>> ((4 : Int32).toUInt32 &&& Int32.toUInt32 31)).toInt32)) &&& (252645135 : Int32)).toUInt32 >>> ((8 : Int32).toUInt32 &&& Int32.toUInt32 31)).toInt32)).toUInt32 >>> ((16 : Int32).toUInt32 &&& Int32.toUInt32 31)).toInt32)))]) hx hb dJ_bitCount_47 rfl hl (by decide) rfl (fun ls hl => ?_)
  refine lv_iload_n hx hb dJ_bitCount_48 rfl (lv_at hl 0 rfl) ?_
  refine lv_bipush (v := 63) hx hb dJ_bitCount_49 (by decide) ?_
  refine lv_iand hx hb dJ_bitCount_51 ?_
  exact kb_iret (wf := kb_nil) hx hb hr hlocks hK hP hD hS ⟨e.symm, rfl⟩ dJ_bitCount_52
end
section
/-- BoilerDesk$Span.put(II)V -/
def F_S_put_6 (w0 : Nat → Int32) (a1 : Int32) (a2 : Int32) : Nat → Int32 := (up (up w0 38 a1) 39 a2)
set_option maxHeartbeats 4000000 in
set_option maxRecDepth 100000 in
theorem c_S_put_6 (l : Launch) (D : va_G) (h : Nat → Nat) (sz : Nat) (w0 : Nat → Int32) (a1 : Int32) (a2 : Int32)  : Met l yS_put [.code yS_put cS_put 3 none] ({ frames := 0, cells := 0, slots := 0, locals := 0 }) (va_Pc [.ref (h 6), .int a1, .int a2] (kb_B D [] (cw h) w0 sz)) (va_Qv (fun u' => u' = F_S_put_6 w0 a1 a2) (kb_E D [] (cw h) (va_A (cw h w0) sz)) (va_A (cw h w0) sz)) 0 0 (va_A (cw h w0) sz) := by
  refine kb_of (cc := cS_put) (maxL := 3) (ret := none) (QcA := fun A => (va_Qv (fun u' => u' = F_S_put_6 w0 a1 a2) (kb_E D [] (cw h) A) A)) (by decide) (Nat.le_of_ble_eq_true rfl) ?_
  intro p e s m below meth c A hx hb hr hlocks hml hown hts hA hN hK hP hD ls hl
  have hS : va_S A s.heap s.heap [] := va_S.rf
  have hl : lv_has ls 3 [(0, .ref (h 6)), (1, .int a1), (2, .int a2)] := hl
  have e : F_S_put_6 w0 a1 a2 = F_S_put_6 w0 a1 a2 := rfl
  refine lv_aload_n hx hb dS_put_0 rfl (lv_at hl 0 rfl) ?_
  refine lv_iload_n hx hb dS_put_1 rfl (lv_at hl 1 rfl) ?_
  refine kb_put (D := D) (wf := cw h) (w' := (up w0 38 a1)) (ci := 5) (v := .int a1) (ty := .int) (C := "BoilerDesk$Span") (T := TS) (N := 2) hx hb hts inS tyS tyS_ok nmS hown hK hP hD hS 6 rfl rfl 0 (by decide) (hts _ q_231) (fun _ h9 => h9) rfl (by decide +kernel) rfl rfl (Nat.le_of_ble_eq_true rfl) dS_put_2 rfl (fun H locs hP hD hS => ?_)
  refine lv_aload_n hx hb dS_put_5 rfl (lv_at hl 0 rfl) ?_
  refine lv_iload_n hx hb dS_put_6 rfl (lv_at hl 2 rfl) ?_
  refine kb_put (D := D) (wf := cw h) (w' := (up (up w0 38 a1) 39 a2)) (ci := 5) (v := .int a2) (ty := .int) (C := "BoilerDesk$Span") (T := TS) (N := 2) hx hb hts inS tyS tyS_ok nmS hown hK hP hD hS 6 rfl rfl 1 (by decide) (hts _ q_233) (fun _ h9 => h9) rfl (by decide +kernel) rfl rfl (Nat.le_of_ble_eq_true rfl) dS_put_7 rfl (fun H locs hP hD hS => ?_)
  exact kb_vret (wf := cw h) hx hb hr hlocks hK hP hD hS e.symm dS_put_10
/-- BoilerDesk$Span.put(II)V -/
def F_S_put_7 (w0 : Nat → Int32) (a1 : Int32) (a2 : Int32) : Nat → Int32 := (up (up w0 40 a1) 41 a2)
set_option maxHeartbeats 4000000 in
set_option maxRecDepth 100000 in
theorem c_S_put_7 (l : Launch) (D : va_G) (h : Nat → Nat) (sz : Nat) (w0 : Nat → Int32) (a1 : Int32) (a2 : Int32)  : Met l yS_put [.code yS_put cS_put 3 none] ({ frames := 0, cells := 0, slots := 0, locals := 0 }) (va_Pc [.ref (h 7), .int a1, .int a2] (kb_B D [] (cw h) w0 sz)) (va_Qv (fun u' => u' = F_S_put_7 w0 a1 a2) (kb_E D [] (cw h) (va_A (cw h w0) sz)) (va_A (cw h w0) sz)) 0 0 (va_A (cw h w0) sz) := by
  refine kb_of (cc := cS_put) (maxL := 3) (ret := none) (QcA := fun A => (va_Qv (fun u' => u' = F_S_put_7 w0 a1 a2) (kb_E D [] (cw h) A) A)) (by decide) (Nat.le_of_ble_eq_true rfl) ?_
  intro p e s m below meth c A hx hb hr hlocks hml hown hts hA hN hK hP hD ls hl
  have hS : va_S A s.heap s.heap [] := va_S.rf
  have hl : lv_has ls 3 [(0, .ref (h 7)), (1, .int a1), (2, .int a2)] := hl
  have e : F_S_put_7 w0 a1 a2 = F_S_put_7 w0 a1 a2 := rfl
  refine lv_aload_n hx hb dS_put_0 rfl (lv_at hl 0 rfl) ?_
  refine lv_iload_n hx hb dS_put_1 rfl (lv_at hl 1 rfl) ?_
  refine kb_put (D := D) (wf := cw h) (w' := (up w0 40 a1)) (ci := 5) (v := .int a1) (ty := .int) (C := "BoilerDesk$Span") (T := TS) (N := 2) hx hb hts inS tyS tyS_ok nmS hown hK hP hD hS 7 rfl rfl 0 (by decide) (hts _ q_231) (fun _ h9 => h9) rfl (by decide +kernel) rfl rfl (Nat.le_of_ble_eq_true rfl) dS_put_2 rfl (fun H locs hP hD hS => ?_)
  refine lv_aload_n hx hb dS_put_5 rfl (lv_at hl 0 rfl) ?_
  refine lv_iload_n hx hb dS_put_6 rfl (lv_at hl 2 rfl) ?_
  refine kb_put (D := D) (wf := cw h) (w' := (up (up w0 40 a1) 41 a2)) (ci := 5) (v := .int a2) (ty := .int) (C := "BoilerDesk$Span") (T := TS) (N := 2) hx hb hts inS tyS tyS_ok nmS hown hK hP hD hS 7 rfl rfl 1 (by decide) (hts _ q_233) (fun _ h9 => h9) rfl (by decide +kernel) rfl rfl (Nat.le_of_ble_eq_true rfl) dS_put_7 rfl (fun H locs hP hD hS => ?_)
  exact kb_vret (wf := cw h) hx hb hr hlocks hK hP hD hS e.symm dS_put_10
/-- BoilerDesk$Span.put(II)V -/
def F_S_put_8 (w0 : Nat → Int32) (a1 : Int32) (a2 : Int32) : Nat → Int32 := (up (up w0 42 a1) 43 a2)
set_option maxHeartbeats 4000000 in
set_option maxRecDepth 100000 in
theorem c_S_put_8 (l : Launch) (D : va_G) (h : Nat → Nat) (sz : Nat) (w0 : Nat → Int32) (a1 : Int32) (a2 : Int32)  : Met l yS_put [.code yS_put cS_put 3 none] ({ frames := 0, cells := 0, slots := 0, locals := 0 }) (va_Pc [.ref (h 8), .int a1, .int a2] (kb_B D [] (cw h) w0 sz)) (va_Qv (fun u' => u' = F_S_put_8 w0 a1 a2) (kb_E D [] (cw h) (va_A (cw h w0) sz)) (va_A (cw h w0) sz)) 0 0 (va_A (cw h w0) sz) := by
  refine kb_of (cc := cS_put) (maxL := 3) (ret := none) (QcA := fun A => (va_Qv (fun u' => u' = F_S_put_8 w0 a1 a2) (kb_E D [] (cw h) A) A)) (by decide) (Nat.le_of_ble_eq_true rfl) ?_
  intro p e s m below meth c A hx hb hr hlocks hml hown hts hA hN hK hP hD ls hl
  have hS : va_S A s.heap s.heap [] := va_S.rf
  have hl : lv_has ls 3 [(0, .ref (h 8)), (1, .int a1), (2, .int a2)] := hl
  have e : F_S_put_8 w0 a1 a2 = F_S_put_8 w0 a1 a2 := rfl
  refine lv_aload_n hx hb dS_put_0 rfl (lv_at hl 0 rfl) ?_
  refine lv_iload_n hx hb dS_put_1 rfl (lv_at hl 1 rfl) ?_
  refine kb_put (D := D) (wf := cw h) (w' := (up w0 42 a1)) (ci := 5) (v := .int a1) (ty := .int) (C := "BoilerDesk$Span") (T := TS) (N := 2) hx hb hts inS tyS tyS_ok nmS hown hK hP hD hS 8 rfl rfl 0 (by decide) (hts _ q_231) (fun _ h9 => h9) rfl (by decide +kernel) rfl rfl (Nat.le_of_ble_eq_true rfl) dS_put_2 rfl (fun H locs hP hD hS => ?_)
  refine lv_aload_n hx hb dS_put_5 rfl (lv_at hl 0 rfl) ?_
  refine lv_iload_n hx hb dS_put_6 rfl (lv_at hl 2 rfl) ?_
  refine kb_put (D := D) (wf := cw h) (w' := (up (up w0 42 a1) 43 a2)) (ci := 5) (v := .int a2) (ty := .int) (C := "BoilerDesk$Span") (T := TS) (N := 2) hx hb hts inS tyS tyS_ok nmS hown hK hP hD hS 8 rfl rfl 1 (by decide) (hts _ q_233) (fun _ h9 => h9) rfl (by decide +kernel) rfl rfl (Nat.le_of_ble_eq_true rfl) dS_put_7 rfl (fun H locs hP hD hS => ?_)
  exact kb_vret (wf := cw h) hx hb hr hlocks hK hP hD hS e.symm dS_put_10
/-- BoilerDesk$Span.put(II)V -/
def F_S_put_9 (w0 : Nat → Int32) (a1 : Int32) (a2 : Int32) : Nat → Int32 := (up (up w0 44 a1) 45 a2)
set_option maxHeartbeats 4000000 in
set_option maxRecDepth 100000 in
theorem c_S_put_9 (l : Launch) (D : va_G) (h : Nat → Nat) (sz : Nat) (w0 : Nat → Int32) (a1 : Int32) (a2 : Int32)  : Met l yS_put [.code yS_put cS_put 3 none] ({ frames := 0, cells := 0, slots := 0, locals := 0 }) (va_Pc [.ref (h 9), .int a1, .int a2] (kb_B D [] (cw h) w0 sz)) (va_Qv (fun u' => u' = F_S_put_9 w0 a1 a2) (kb_E D [] (cw h) (va_A (cw h w0) sz)) (va_A (cw h w0) sz)) 0 0 (va_A (cw h w0) sz) := by
  refine kb_of (cc := cS_put) (maxL := 3) (ret := none) (QcA := fun A => (va_Qv (fun u' => u' = F_S_put_9 w0 a1 a2) (kb_E D [] (cw h) A) A)) (by decide) (Nat.le_of_ble_eq_true rfl) ?_
  intro p e s m below meth c A hx hb hr hlocks hml hown hts hA hN hK hP hD ls hl
  have hS : va_S A s.heap s.heap [] := va_S.rf
  have hl : lv_has ls 3 [(0, .ref (h 9)), (1, .int a1), (2, .int a2)] := hl
  have e : F_S_put_9 w0 a1 a2 = F_S_put_9 w0 a1 a2 := rfl
  refine lv_aload_n hx hb dS_put_0 rfl (lv_at hl 0 rfl) ?_
  refine lv_iload_n hx hb dS_put_1 rfl (lv_at hl 1 rfl) ?_
  refine kb_put (D := D) (wf := cw h) (w' := (up w0 44 a1)) (ci := 5) (v := .int a1) (ty := .int) (C := "BoilerDesk$Span") (T := TS) (N := 2) hx hb hts inS tyS tyS_ok nmS hown hK hP hD hS 9 rfl rfl 0 (by decide) (hts _ q_231) (fun _ h9 => h9) rfl (by decide +kernel) rfl rfl (Nat.le_of_ble_eq_true rfl) dS_put_2 rfl (fun H locs hP hD hS => ?_)
  refine lv_aload_n hx hb dS_put_5 rfl (lv_at hl 0 rfl) ?_
  refine lv_iload_n hx hb dS_put_6 rfl (lv_at hl 2 rfl) ?_
  refine kb_put (D := D) (wf := cw h) (w' := (up (up w0 44 a1) 45 a2)) (ci := 5) (v := .int a2) (ty := .int) (C := "BoilerDesk$Span") (T := TS) (N := 2) hx hb hts inS tyS tyS_ok nmS hown hK hP hD hS 9 rfl rfl 1 (by decide) (hts _ q_233) (fun _ h9 => h9) rfl (by decide +kernel) rfl rfl (Nat.le_of_ble_eq_true rfl) dS_put_7 rfl (fun H locs hP hD hS => ?_)
  exact kb_vret (wf := cw h) hx hb hr hlocks hK hP hD hS e.symm dS_put_10
/-- BoilerDesk$Span.holds(I)Z -/
def F_S_holds_8 (w0 : Nat → Int32) (a1 : Int32) : Int32 := (F_D_isWithin a1 (w0 42) (w0 43))
set_option maxHeartbeats 4000000 in
set_option maxRecDepth 100000 in
theorem c_S_holds_8 (l : Launch) (D : va_G) (h : Nat → Nat) (sz : Nat) (w0 : Nat → Int32) (a1 : Int32)  : Met l yS_holds [.code yS_holds cS_holds 2 (some .boolean)] ({ frames := 1, cells := 0, slots := 0, locals := 22 }) (va_Pc [.ref (h 8), .int a1] (kb_B D [] (cw h) w0 sz)) (va_Qi (fun r' u' => r' = F_S_holds_8 w0 a1 ∧ u' = w0) (kb_E D [] (cw h) (va_A (cw h w0) sz)) (va_A (cw h w0) sz)) 0 0 (va_A (cw h w0) sz) := by
  refine kb_of (cc := cS_holds) (maxL := 2) (ret := (some .boolean)) (QcA := fun A => (va_Qi (fun r' u' => r' = F_S_holds_8 w0 a1 ∧ u' = w0) (kb_E D [] (cw h) A) A)) (by decide) (Nat.le_of_ble_eq_true rfl) ?_
  intro p e s m below meth c A hx hb hr hlocks hml hown hts hA hN hK hP hD ls hl
  have hS : va_S A s.heap s.heap [] := va_S.rf
  have hl : lv_has ls 2 [(0, .ref (h 8)), (1, .int a1)] := hl
  have e : F_S_holds_8 w0 a1 = F_S_holds_8 w0 a1 := rfl
  refine lv_iload_n hx hb dS_holds_0 rfl (lv_at hl 1 rfl) ?_
  refine lv_aload_n hx hb dS_holds_1 rfl (lv_at hl 0 rfl) ?_
  refine va_get (D := D) (ci := 5) (v := .int (w0 42)) (C := "BoilerDesk$Span") (T := TS) (N := 2) hx hb hts inS hown hK hP 8 rfl rfl 0 (by decide) (hts _ q_231) (fun _ h9 => h9) rfl dS_holds_2 ?_
  refine lv_aload_n hx hb dS_holds_5 rfl (lv_at hl 0 rfl) ?_
  refine va_get (D := D) (ci := 5) (v := .int (w0 43)) (C := "BoilerDesk$Span") (T := TS) (N := 2) hx hb hts inS hown hK hP 8 rfl rfl 1 (by decide) (hts _ q_233) (fun _ h9 => h9) rfl dS_holds_6 ?_
  refine kb_call0 (r := (F_D_isWithin a1 (w0 42) (w0 43))) (va_runSN (As := [.int a1, .int (w0 42), .int (w0 43)]) (rest := []) ⟨hx, hb, hml, hown, hts⟩ (c_D_isWithin l D _ a1 (w0 42) (w0 43)) ⟨va_cnB 3 hts (gd_1 q_338) rfl rfl rfl (hN _ q_547) (hts _ q_33) (by decide +kernel) ⟨Nat.le_of_ble_eq_true rfl, Nat.le_of_ble_eq_true rfl⟩, hts _ q_337, trivial⟩ (kb_pre0 hN hK) rfl rfl hl.1 rfl (lv_room (Nat.le_of_ble_eq_true rfl)) dS_holds_9 ⟨Nat.zero_le _, Nat.zero_le _⟩) hP hS hA (fun H locs hP hS => ?_)
  exact kb_zret (wf := cw h) hx hb hr hlocks (zb_n (z_D_isWithin a1 (w0 42) (w0 43))) hK hP hD hS ⟨e.symm, rfl⟩ dS_holds_12
theorem z_S_holds_8 (w0 : Nat → Int32) (a1 : Int32) : F_S_holds_8 w0 a1 = 0 ∨ F_S_holds_8 w0 a1 = 1 := by
  unfold F_S_holds_8
  repeat' split
  all_goals first | exact Or.inl rfl | exact Or.inr rfl | exact z_D_isWithin _ _ _ | exact z_D_isWithin _ _
/-- BoilerDesk$Span.holds(I)Z -/
def F_S_holds_9 (w0 : Nat → Int32) (a1 : Int32) : Int32 := (F_D_isWithin a1 (w0 44) (w0 45))
set_option maxHeartbeats 4000000 in
set_option maxRecDepth 100000 in
theorem c_S_holds_9 (l : Launch) (D : va_G) (h : Nat → Nat) (sz : Nat) (w0 : Nat → Int32) (a1 : Int32)  : Met l yS_holds [.code yS_holds cS_holds 2 (some .boolean)] ({ frames := 1, cells := 0, slots := 0, locals := 22 }) (va_Pc [.ref (h 9), .int a1] (kb_B D [] (cw h) w0 sz)) (va_Qi (fun r' u' => r' = F_S_holds_9 w0 a1 ∧ u' = w0) (kb_E D [] (cw h) (va_A (cw h w0) sz)) (va_A (cw h w0) sz)) 0 0 (va_A (cw h w0) sz) := by
  refine kb_of (cc := cS_holds) (maxL := 2) (ret := (some .boolean)) (QcA := fun A => (va_Qi (fun r' u' => r' = F_S_holds_9 w0 a1 ∧ u' = w0) (kb_E D [] (cw h) A) A)) (by decide) (Nat.le_of_ble_eq_true rfl) ?_
  intro p e s m below meth c A hx hb hr hlocks hml hown hts hA hN hK hP hD ls hl
  have hS : va_S A s.heap s.heap [] := va_S.rf
  have hl : lv_has ls 2 [(0, .ref (h 9)), (1, .int a1)] := hl
  have e : F_S_holds_9 w0 a1 = F_S_holds_9 w0 a1 := rfl
  refine lv_iload_n hx hb dS_holds_0 rfl (lv_at hl 1 rfl) ?_
  refine lv_aload_n hx hb dS_holds_1 rfl (lv_at hl 0 rfl) ?_
  refine va_get (D := D) (ci := 5) (v := .int (w0 44)) (C := "BoilerDesk$Span") (T := TS) (N := 2) hx hb hts inS hown hK hP 9 rfl rfl 0 (by decide) (hts _ q_231) (fun _ h9 => h9) rfl dS_holds_2 ?_
  refine lv_aload_n hx hb dS_holds_5 rfl (lv_at hl 0 rfl) ?_
  refine va_get (D := D) (ci := 5) (v := .int (w0 45)) (C := "BoilerDesk$Span") (T := TS) (N := 2) hx hb hts inS hown hK hP 9 rfl rfl 1 (by decide) (hts _ q_233) (fun _ h9 => h9) rfl dS_holds_6 ?_
  refine kb_call0 (r := (F_D_isWithin a1 (w0 44) (w0 45))) (va_runSN (As := [.int a1, .int (w0 44), .int (w0 45)]) (rest := []) ⟨hx, hb, hml, hown, hts⟩ (c_D_isWithin l D _ a1 (w0 44) (w0 45)) ⟨va_cnB 3 hts (gd_1 q_338) rfl rfl rfl (hN _ q_547) (hts _ q_33) (by decide +kernel) ⟨Nat.le_of_ble_eq_true rfl, Nat.le_of_ble_eq_true rfl⟩, hts _ q_337, trivial⟩ (kb_pre0 hN hK) rfl rfl hl.1 rfl (lv_room (Nat.le_of_ble_eq_true rfl)) dS_holds_9 ⟨Nat.zero_le _, Nat.zero_le _⟩) hP hS hA (fun H locs hP hS => ?_)
  exact kb_zret (wf := cw h) hx hb hr hlocks (zb_n (z_D_isWithin a1 (w0 44) (w0 45))) hK hP hD hS ⟨e.symm, rfl⟩ dS_holds_12
theorem z_S_holds_9 (w0 : Nat → Int32) (a1 : Int32) : F_S_holds_9 w0 a1 = 0 ∨ F_S_holds_9 w0 a1 = 1 := by
  unfold F_S_holds_9
  repeat' split
  all_goals first | exact Or.inl rfl | exact Or.inr rfl | exact z_D_isWithin _ _ _ | exact z_D_isWithin _ _
/-- BoilerDesk$Plant.setLimits(IIIII)V -/
def F_P_setLimits (w0 : Nat → Int32) (a1 : Int32) (a2 : Int32) (a3 : Int32) (a4 : Int32) (a5 : Int32) : Nat → Int32 := (up (up (up (up (up w0 4 a1) 5 a2) 6 a3) 7 a4) 8 a5)
set_option maxHeartbeats 4000000 in
set_option maxRecDepth 100000 in
theorem c_P_setLimits (l : Launch) (D : va_G) (h : Nat → Nat) (sz : Nat) (w0 : Nat → Int32) (a1 : Int32) (a2 : Int32) (a3 : Int32) (a4 : Int32) (a5 : Int32)  : Met l yP_setLimits [.code yP_setLimits cP_setLimits 6 none] ({ frames := 0, cells := 0, slots := 0, locals := 0 }) (va_Pc [.ref (h 1), .int a1, .int a2, .int a3, .int a4, .int a5] (kb_B D [] (cw h) w0 sz)) (va_Qv (fun u' => u' = F_P_setLimits w0 a1 a2 a3 a4 a5) (kb_E D [] (cw h) (va_A (cw h w0) sz)) (va_A (cw h w0) sz)) 0 0 (va_A (cw h w0) sz) := by
  refine kb_of (cc := cP_setLimits) (maxL := 6) (ret := none) (QcA := fun A => (va_Qv (fun u' => u' = F_P_setLimits w0 a1 a2 a3 a4 a5) (kb_E D [] (cw h) A) A)) (by decide) (Nat.le_of_ble_eq_true rfl) ?_
  intro p e s m below meth c A hx hb hr hlocks hml hown hts hA hN hK hP hD ls hl
  have hS : va_S A s.heap s.heap [] := va_S.rf
  have hl : lv_has ls 6 [(0, .ref (h 1)), (1, .int a1), (2, .int a2), (3, .int a3), (4, .int a4), (5, .int a5)] := hl
  have e : F_P_setLimits w0 a1 a2 a3 a4 a5 = F_P_setLimits w0 a1 a2 a3 a4 a5 := rfl
  refine lv_aload_n hx hb dP_setLimits_0 rfl (lv_at hl 0 rfl) ?_
  refine lv_iload_n hx hb dP_setLimits_1 rfl (lv_at hl 1 rfl) ?_
  refine kb_put (D := D) (wf := cw h) (w' := (up w0 4 a1)) (ci := 3) (v := .int a1) (ty := .int) (C := "BoilerDesk$Plant") (T := TP) (N := 9) hx hb hts inP tyP tyP_ok nmP hown hK hP hD hS 1 rfl rfl 0 (by decide) (hts _ q_62) (fun _ h9 => h9) rfl (by decide +kernel) rfl rfl (Nat.le_of_ble_eq_true rfl) dP_setLimits_2 rfl (fun H locs hP hD hS => ?_)
  refine lv_aload_n hx hb dP_setLimits_5 rfl (lv_at hl 0 rfl) ?_
  refine lv_iload_n hx hb dP_setLimits_6 rfl (lv_at hl 2 rfl) ?_
  refine kb_put (D := D) (wf := cw h) (w' := (up (up w0 4 a1) 5 a2)) (ci := 3) (v := .int a2) (ty := .int) (C := "BoilerDesk$Plant") (T := TP) (N := 9) hx hb hts inP tyP tyP_ok nmP hown hK hP hD hS 1 rfl rfl 1 (by decide) (hts _ q_64) (fun _ h9 => h9) rfl (by decide +kernel) rfl rfl (Nat.le_of_ble_eq_true rfl) dP_setLimits_7 rfl (fun H locs hP hD hS => ?_)
  refine lv_aload_n hx hb dP_setLimits_10 rfl (lv_at hl 0 rfl) ?_
  refine lv_iload_n hx hb dP_setLimits_11 rfl (lv_at hl 3 rfl) ?_
  refine kb_put (D := D) (wf := cw h) (w' := (up (up (up w0 4 a1) 5 a2) 6 a3)) (ci := 3) (v := .int a3) (ty := .int) (C := "BoilerDesk$Plant") (T := TP) (N := 9) hx hb hts inP tyP tyP_ok nmP hown hK hP hD hS 1 rfl rfl 2 (by decide) (hts _ q_66) (fun _ h9 => h9) rfl (by decide +kernel) rfl rfl (Nat.le_of_ble_eq_true rfl) dP_setLimits_12 rfl (fun H locs hP hD hS => ?_)
  refine lv_aload_n hx hb dP_setLimits_15 rfl (lv_at hl 0 rfl) ?_
  refine lv_iload hx hb dP_setLimits_16 (lv_at hl 4 rfl) ?_
  refine kb_put (D := D) (wf := cw h) (w' := (up (up (up (up w0 4 a1) 5 a2) 6 a3) 7 a4)) (ci := 3) (v := .int a4) (ty := .int) (C := "BoilerDesk$Plant") (T := TP) (N := 9) hx hb hts inP tyP tyP_ok nmP hown hK hP hD hS 1 rfl rfl 3 (by decide) (hts _ q_68) (fun _ h9 => h9) rfl (by decide +kernel) rfl rfl (Nat.le_of_ble_eq_true rfl) dP_setLimits_18 rfl (fun H locs hP hD hS => ?_)
  refine lv_aload_n hx hb dP_setLimits_21 rfl (lv_at hl 0 rfl) ?_
  refine lv_iload hx hb dP_setLimits_22 (lv_at hl 5 rfl) ?_
  refine kb_put (D := D) (wf := cw h) (w' := (up (up (up (up (up w0 4 a1) 5 a2) 6 a3) 7 a4) 8 a5)) (ci := 3) (v := .int a5) (ty := .int) (C := "BoilerDesk$Plant") (T := TP) (N := 9) hx hb hts inP tyP tyP_ok nmP hown hK hP hD hS 1 rfl rfl 4 (by decide) (hts _ q_70) (fun _ h9 => h9) rfl (by decide +kernel) rfl rfl (Nat.le_of_ble_eq_true rfl) dP_setLimits_24 rfl (fun H locs hP hD hS => ?_)
  exact kb_vret (wf := cw h) hx hb hr hlocks hK hP hD hS e.symm dP_setLimits_27
/-- BoilerDesk$Plant.setRates(IIII)V -/
def F_P_setRates (w0 : Nat → Int32) (a1 : Int32) (a2 : Int32) (a3 : Int32) (a4 : Int32) : Nat → Int32 := (up (up (up (up w0 9 a1) 10 a2) 11 a3) 12 a4)
set_option maxHeartbeats 4000000 in
set_option maxRecDepth 100000 in
theorem c_P_setRates (l : Launch) (D : va_G) (h : Nat → Nat) (sz : Nat) (w0 : Nat → Int32) (a1 : Int32) (a2 : Int32) (a3 : Int32) (a4 : Int32)  : Met l yP_setRates [.code yP_setRates cP_setRates 5 none] ({ frames := 0, cells := 0, slots := 0, locals := 0 }) (va_Pc [.ref (h 1), .int a1, .int a2, .int a3, .int a4] (kb_B D [] (cw h) w0 sz)) (va_Qv (fun u' => u' = F_P_setRates w0 a1 a2 a3 a4) (kb_E D [] (cw h) (va_A (cw h w0) sz)) (va_A (cw h w0) sz)) 0 0 (va_A (cw h w0) sz) := by
  refine kb_of (cc := cP_setRates) (maxL := 5) (ret := none) (QcA := fun A => (va_Qv (fun u' => u' = F_P_setRates w0 a1 a2 a3 a4) (kb_E D [] (cw h) A) A)) (by decide) (Nat.le_of_ble_eq_true rfl) ?_
  intro p e s m below meth c A hx hb hr hlocks hml hown hts hA hN hK hP hD ls hl
  have hS : va_S A s.heap s.heap [] := va_S.rf
  have hl : lv_has ls 5 [(0, .ref (h 1)), (1, .int a1), (2, .int a2), (3, .int a3), (4, .int a4)] := hl
  have e : F_P_setRates w0 a1 a2 a3 a4 = F_P_setRates w0 a1 a2 a3 a4 := rfl
  refine lv_aload_n hx hb dP_setRates_0 rfl (lv_at hl 0 rfl) ?_
  refine lv_iload_n hx hb dP_setRates_1 rfl (lv_at hl 1 rfl) ?_
  refine kb_put (D := D) (wf := cw h) (w' := (up w0 9 a1)) (ci := 3) (v := .int a1) (ty := .int) (C := "BoilerDesk$Plant") (T := TP) (N := 9) hx hb hts inP tyP tyP_ok nmP hown hK hP hD hS 1 rfl rfl 5 (by decide) (hts _ q_72) (fun _ h9 => h9) rfl (by decide +kernel) rfl rfl (Nat.le_of_ble_eq_true rfl) dP_setRates_2 rfl (fun H locs hP hD hS => ?_)
  refine lv_aload_n hx hb dP_setRates_5 rfl (lv_at hl 0 rfl) ?_
  refine lv_iload_n hx hb dP_setRates_6 rfl (lv_at hl 2 rfl) ?_
  refine kb_put (D := D) (wf := cw h) (w' := (up (up w0 9 a1) 10 a2)) (ci := 3) (v := .int a2) (ty := .int) (C := "BoilerDesk$Plant") (T := TP) (N := 9) hx hb hts inP tyP tyP_ok nmP hown hK hP hD hS 1 rfl rfl 6 (by decide) (hts _ q_74) (fun _ h9 => h9) rfl (by decide +kernel) rfl rfl (Nat.le_of_ble_eq_true rfl) dP_setRates_7 rfl (fun H locs hP hD hS => ?_)
  refine lv_aload_n hx hb dP_setRates_10 rfl (lv_at hl 0 rfl) ?_
  refine lv_iload_n hx hb dP_setRates_11 rfl (lv_at hl 3 rfl) ?_
  refine kb_put (D := D) (wf := cw h) (w' := (up (up (up w0 9 a1) 10 a2) 11 a3)) (ci := 3) (v := .int a3) (ty := .int) (C := "BoilerDesk$Plant") (T := TP) (N := 9) hx hb hts inP tyP tyP_ok nmP hown hK hP hD hS 1 rfl rfl 7 (by decide) (hts _ q_76) (fun _ h9 => h9) rfl (by decide +kernel) rfl rfl (Nat.le_of_ble_eq_true rfl) dP_setRates_12 rfl (fun H locs hP hD hS => ?_)
  refine lv_aload_n hx hb dP_setRates_15 rfl (lv_at hl 0 rfl) ?_
  refine lv_iload hx hb dP_setRates_16 (lv_at hl 4 rfl) ?_
  refine kb_put (D := D) (wf := cw h) (w' := (up (up (up (up w0 9 a1) 10 a2) 11 a3) 12 a4)) (ci := 3) (v := .int a4) (ty := .int) (C := "BoilerDesk$Plant") (T := TP) (N := 9) hx hb hts inP tyP tyP_ok nmP hown hK hP hD hS 1 rfl rfl 8 (by decide) (hts _ q_78) (fun _ h9 => h9) rfl (by decide +kernel) rfl rfl (Nat.le_of_ble_eq_true rfl) dP_setRates_18 rfl (fun H locs hP hD hS => ?_)
  exact kb_vret (wf := cw h) hx hb hr hlocks hK hP hD hS e.symm dP_setRates_21
/-- BoilerDesk$Plant.isNormalLevel(I)Z -/
def F_P_isNormalLevel (w0 : Nat → Int32) (a1 : Int32) : Int32 := (F_D_isWithin a1 (w0 6) (w0 7))
set_option maxHeartbeats 4000000 in
set_option maxRecDepth 100000 in
theorem c_P_isNormalLevel (l : Launch) (D : va_G) (h : Nat → Nat) (sz : Nat) (w0 : Nat → Int32) (a1 : Int32)  : Met l yP_isNormalLevel [.code yP_isNormalLevel cP_isNormalLevel 2 (some .boolean)] ({ frames := 1, cells := 0, slots := 0, locals := 22 }) (va_Pc [.ref (h 1), .int a1] (kb_B D [] (cw h) w0 sz)) (va_Qi (fun r' u' => r' = F_P_isNormalLevel w0 a1 ∧ u' = w0) (kb_E D [] (cw h) (va_A (cw h w0) sz)) (va_A (cw h w0) sz)) 0 0 (va_A (cw h w0) sz) := by
  refine kb_of (cc := cP_isNormalLevel) (maxL := 2) (ret := (some .boolean)) (QcA := fun A => (va_Qi (fun r' u' => r' = F_P_isNormalLevel w0 a1 ∧ u' = w0) (kb_E D [] (cw h) A) A)) (by decide) (Nat.le_of_ble_eq_true rfl) ?_
  intro p e s m below meth c A hx hb hr hlocks hml hown hts hA hN hK hP hD ls hl
  have hS : va_S A s.heap s.heap [] := va_S.rf
  have hl : lv_has ls 2 [(0, .ref (h 1)), (1, .int a1)] := hl
  have e : F_P_isNormalLevel w0 a1 = F_P_isNormalLevel w0 a1 := rfl
  refine lv_iload_n hx hb dP_isNormalLevel_0 rfl (lv_at hl 1 rfl) ?_
  refine lv_aload_n hx hb dP_isNormalLevel_1 rfl (lv_at hl 0 rfl) ?_
  refine va_get (D := D) (ci := 3) (v := .int (w0 6)) (C := "BoilerDesk$Plant") (T := TP) (N := 9) hx hb hts inP hown hK hP 1 rfl rfl 2 (by decide) (hts _ q_66) (fun _ h9 => h9) rfl dP_isNormalLevel_2 ?_
  refine lv_aload_n hx hb dP_isNormalLevel_5 rfl (lv_at hl 0 rfl) ?_
  refine va_get (D := D) (ci := 3) (v := .int (w0 7)) (C := "BoilerDesk$Plant") (T := TP) (N := 9) hx hb hts inP hown hK hP 1 rfl rfl 3 (by decide) (hts _ q_68) (fun _ h9 => h9) rfl dP_isNormalLevel_6 ?_
  refine kb_call0 (r := (F_D_isWithin a1 (w0 6) (w0 7))) (va_runSN (As := [.int a1, .int (w0 6), .int (w0 7)]) (rest := []) ⟨hx, hb, hml, hown, hts⟩ (c_D_isWithin l D _ a1 (w0 6) (w0 7)) ⟨va_cnB 3 hts (gd_1 q_338) rfl rfl rfl (hN _ q_572) (hts _ q_33) (by decide +kernel) ⟨Nat.le_of_ble_eq_true rfl, Nat.le_of_ble_eq_true rfl⟩, hts _ q_337, trivial⟩ (kb_pre0 hN hK) rfl rfl hl.1 rfl (lv_room (Nat.le_of_ble_eq_true rfl)) dP_isNormalLevel_9 ⟨Nat.zero_le _, Nat.zero_le _⟩) hP hS hA (fun H locs hP hS => ?_)
  exact kb_zret (wf := cw h) hx hb hr hlocks (zb_n (z_D_isWithin a1 (w0 6) (w0 7))) hK hP hD hS ⟨e.symm, rfl⟩ dP_isNormalLevel_12
theorem z_P_isNormalLevel (w0 : Nat → Int32) (a1 : Int32) : F_P_isNormalLevel w0 a1 = 0 ∨ F_P_isNormalLevel w0 a1 = 1 := by
  unfold F_P_isNormalLevel
  repeat' split
  all_goals first | exact Or.inl rfl | exact Or.inr rfl | exact z_D_isWithin _ _ _ | exact z_D_isWithin _ _
/-- BoilerDesk$Plant.withinCapacity(I)I -/
def F_P_withinCapacity (w0 : Nat → Int32) (a1 : Int32) : Int32 := (if (0 : Int32) < (if (w0 4) < a1 then (w0 4) else a1) then (if (w0 4) < a1 then (w0 4) else a1) else (0 : Int32))
set_option maxHeartbeats 4000000 in
set_option maxRecDepth 100000 in
theorem c_P_withinCapacity (l : Launch) (D : va_G) (h : Nat → Nat) (sz : Nat) (w0 : Nat → Int32) (a1 : Int32)  : Met l yP_withinCapacity [.code yP_withinCapacity cP_withinCapacity 2 (some .int)] ({ frames := 1, cells := 0, slots := 0, locals := 21 }) (va_Pc [.ref (h 1), .int a1] (kb_B D [] (cw h) w0 sz)) (va_Qi (fun r' u' => r' = F_P_withinCapacity w0 a1 ∧ u' = w0) (kb_E D [] (cw h) (va_A (cw h w0) sz)) (va_A (cw h w0) sz)) 0 0 (va_A (cw h w0) sz) := by
  refine kb_of (cc := cP_withinCapacity) (maxL := 2) (ret := (some .int)) (QcA := fun A => (va_Qi (fun r' u' => r' = F_P_withinCapacity w0 a1 ∧ u' = w0) (kb_E D [] (cw h) A) A)) (by decide) (Nat.le_of_ble_eq_true rfl) ?_
  intro p e s m below meth c A hx hb hr hlocks hml hown hts hA hN hK hP hD ls hl
  have hS : va_S A s.heap s.heap [] := va_S.rf
  have hl : lv_has ls 2 [(0, .ref (h 1)), (1, .int a1)] := hl
  have e : F_P_withinCapacity w0 a1 = F_P_withinCapacity w0 a1 := rfl
  refine lv_iconst (v := 0) hx hb dP_withinCapacity_0 (by decide) ?_
  refine lv_iload_n hx hb dP_withinCapacity_1 rfl (lv_at hl 1 rfl) ?_
  refine lv_aload_n hx hb dP_withinCapacity_2 rfl (lv_at hl 0 rfl) ?_
  refine va_get (D := D) (ci := 3) (v := .int (w0 4)) (C := "BoilerDesk$Plant") (T := TP) (N := 9) hx hb hts inP hown hK hP 1 rfl rfl 0 (by decide) (hts _ q_62) (fun _ h9 => h9) rfl dP_withinCapacity_3 ?_
  refine va_mmin hx hb (hml.trans hl.1.symm) hown (hts _ q_537) (hts _ q_510) (hts _ q_46) (hts _ q_511) (Nat.le_of_ble_eq_true rfl) (Nat.le_of_ble_eq_true rfl) (Nat.zero_le _) (Nat.zero_le _) dP_withinCapacity_6 ?_
  refine va_mmax hx hb (hml.trans hl.1.symm) hown (hts _ q_538) (hts _ q_507) (hts _ q_46) (hts _ q_508) (Nat.le_of_ble_eq_true rfl) (Nat.le_of_ble_eq_true rfl) (Nat.zero_le _) (Nat.zero_le _) dP_withinCapacity_9 ?_
  exact kb_iret (wf := cw h) hx hb hr hlocks hK hP hD hS ⟨e.symm, rfl⟩ dP_withinCapacity_12
/-- BoilerDesk$Plant.given(I)I -/
def F_P_given (w0 : Nat → Int32) (a1 : Int32) : Int32 := ((F_J_bitCount a1) * (w0 12))
set_option maxHeartbeats 4000000 in
set_option maxRecDepth 100000 in
theorem c_P_given (l : Launch) (D : va_G) (h : Nat → Nat) (sz : Nat) (w0 : Nat → Int32) (a1 : Int32)  : Met l yP_given [.code yP_given cP_given 2 (some .int)] ({ frames := 1, cells := 0, slots := 0, locals := 20 }) (va_Pc [.ref (h 1), .int a1] (kb_B D [] (cw h) w0 sz)) (va_Qi (fun r' u' => r' = F_P_given w0 a1 ∧ u' = w0) (kb_E D [] (cw h) (va_A (cw h w0) sz)) (va_A (cw h w0) sz)) 0 0 (va_A (cw h w0) sz) := by
  refine kb_of (cc := cP_given) (maxL := 2) (ret := (some .int)) (QcA := fun A => (va_Qi (fun r' u' => r' = F_P_given w0 a1 ∧ u' = w0) (kb_E D [] (cw h) A) A)) (by decide) (Nat.le_of_ble_eq_true rfl) ?_
  intro p e s m below meth c A hx hb hr hlocks hml hown hts hA hN hK hP hD ls hl
  have hS : va_S A s.heap s.heap [] := va_S.rf
  have hl : lv_has ls 2 [(0, .ref (h 1)), (1, .int a1)] := hl
  have e : F_P_given w0 a1 = F_P_given w0 a1 := rfl
  refine lv_iload_n hx hb dP_given_0 rfl (lv_at hl 1 rfl) ?_
  refine kb_call0 (r := (F_J_bitCount a1)) (va_runS (As := [.int a1]) (rest := []) ⟨hx, hb, hml, hown, hts⟩ (c_J_bitCount l D _ a1) (va_cwS 1 hts (gd_S q_527 q_528 q_47 q_529) rfl rfl rfl (by decide +kernel) ⟨Nat.le_of_ble_eq_true rfl, Nat.le_of_ble_eq_true rfl⟩) (kb_pre0 hN hK) rfl rfl hl.1 rfl (lv_room (Nat.le_of_ble_eq_true rfl)) dP_given_1 ⟨Nat.zero_le _, Nat.zero_le _⟩) hP hS hA (fun H locs hP hS => ?_)
  refine lv_aload_n hx hb dP_given_4 rfl (lv_at hl 0 rfl) ?_
  refine va_get (D := D) (ci := 3) (v := .int (w0 12)) (C := "BoilerDesk$Plant") (T := TP) (N := 9) hx hb hts inP hown hK hP 1 rfl rfl 8 (by decide) (hts _ q_78) (fun _ h9 => h9) rfl dP_given_5 ?_
  refine lv_imul hx hb dP_given_8 ?_
  exact kb_iret (wf := cw h) hx hb hr hlocks hK hP hD hS ⟨e.symm, rfl⟩ dP_given_9
/-- BoilerDesk$Inbox.hasAllReadings()Z -/
def F_I_hasAllReadings (w0 : Nat → Int32)  : Int32 := (if (w0 13) = (0 : Int32) then (0 : Int32) else (if (w0 15) = (0 : Int32) then (0 : Int32) else (if (w0 17) = (15 : Int32) then (1 : Int32) else (0 : Int32))))
set_option maxHeartbeats 4000000 in
set_option maxRecDepth 100000 in
theorem c_I_hasAllReadings (l : Launch) (D : va_G) (h : Nat → Nat) (sz : Nat) (w0 : Nat → Int32)   : Met l yI_hasAllReadings [.code yI_hasAllReadings cI_hasAllReadings 1 (some .boolean)] ({ frames := 0, cells := 0, slots := 0, locals := 0 }) (va_Pc [.ref (h 2)] (kb_B D [] (cw h) w0 sz)) (va_Qi (fun r' u' => r' = F_I_hasAllReadings w0 ∧ u' = w0) (kb_E D [] (cw h) (va_A (cw h w0) sz)) (va_A (cw h w0) sz)) 0 0 (va_A (cw h w0) sz) := by
  refine kb_of (cc := cI_hasAllReadings) (maxL := 1) (ret := (some .boolean)) (QcA := fun A => (va_Qi (fun r' u' => r' = F_I_hasAllReadings w0 ∧ u' = w0) (kb_E D [] (cw h) A) A)) (by decide) (Nat.le_of_ble_eq_true rfl) ?_
  intro p e s m below meth c A hx hb hr hlocks hml hown hts hA hN hK hP hD ls hl
  have hS : va_S A s.heap s.heap [] := va_S.rf
  have hl : lv_has ls 1 [(0, .ref (h 2))] := hl
  have e : F_I_hasAllReadings w0 = F_I_hasAllReadings w0 := rfl
  refine lv_aload_n hx hb dI_hasAllReadings_0 rfl (lv_at hl 0 rfl) ?_
  refine va_get (D := D) (ci := 1) (v := .int (w0 13)) (C := "BoilerDesk$Inbox") (T := TI) (N := 12) hx hb hts inI hown hK hP 2 rfl rfl 0 (by decide) (hts _ q_104) (fun _ h9 => h9) rfl dI_hasAllReadings_1 ?_
  refine lv_if_eq (tgt := 27) hx hb dI_hasAllReadings_4 (by decide) (fun c_1 => ?_) (fun c_1 => ?_)
  · have e := e.trans (if_pos c_1)
    refine lv_iconst (v := 0) hx hb dI_hasAllReadings_27 (by decide) ?_
    exact kb_zret (wf := cw h) hx hb hr hlocks rfl hK hP hD hS ⟨e.symm, rfl⟩ dI_hasAllReadings_28
  · have e := e.trans (if_neg c_1)
    refine lv_aload_n hx hb dI_hasAllReadings_7 rfl (lv_at hl 0 rfl) ?_
    refine va_get (D := D) (ci := 1) (v := .int (w0 15)) (C := "BoilerDesk$Inbox") (T := TI) (N := 12) hx hb hts inI hown hK hP 2 rfl rfl 2 (by decide) (hts _ q_108) (fun _ h9 => h9) rfl dI_hasAllReadings_8 ?_
    refine lv_if_eq (tgt := 27) hx hb dI_hasAllReadings_11 (by decide) (fun c_2 => ?_) (fun c_2 => ?_)
    · have e := e.trans (if_pos c_2)
      refine lv_iconst (v := 0) hx hb dI_hasAllReadings_27 (by decide) ?_
      exact kb_zret (wf := cw h) hx hb hr hlocks rfl hK hP hD hS ⟨e.symm, rfl⟩ dI_hasAllReadings_28
    · have e := e.trans (if_neg c_2)
      refine lv_aload_n hx hb dI_hasAllReadings_14 rfl (lv_at hl 0 rfl) ?_
      refine va_get (D := D) (ci := 1) (v := .int (w0 17)) (C := "BoilerDesk$Inbox") (T := TI) (N := 12) hx hb hts inI hown hK hP 2 rfl rfl 4 (by decide) (hts _ q_112) (fun _ h9 => h9) rfl dI_hasAllReadings_15 ?_
      refine lv_bipush (v := 15) hx hb dI_hasAllReadings_18 (by decide) ?_
      refine lv_icmp_ne (tgt := 27) hx hb dI_hasAllReadings_20 (by decide) (fun c_3 => ?_) (fun c_3 => ?_)
      · have e := e.trans (if_neg c_3)
        refine lv_iconst (v := 0) hx hb dI_hasAllReadings_27 (by decide) ?_
        exact kb_zret (wf := cw h) hx hb hr hlocks rfl hK hP hD hS ⟨e.symm, rfl⟩ dI_hasAllReadings_28
      · have e := e.trans (if_pos c_3)
        refine lv_iconst (v := 1) hx hb dI_hasAllReadings_23 (by decide) ?_
        refine lv_goto (tgt := 28) hx hb dI_hasAllReadings_24 (by decide) ?_
        exact kb_zret (wf := cw h) hx hb hr hlocks rfl hK hP hD hS ⟨e.symm, rfl⟩ dI_hasAllReadings_28
theorem z_I_hasAllReadings (w0 : Nat → Int32)  : F_I_hasAllReadings w0 = 0 ∨ F_I_hasAllReadings w0 = 1 := by
  unfold F_I_hasAllReadings
  repeat' split
  all_goals first | exact Or.inl rfl | exact Or.inr rfl
/-- BoilerDesk$Inbox.clear()V -/
def F_I_clear (w0 : Nat → Int32)  : Nat → Int32 := (up (up (up (up (up (up (up (up (up (up (up (up w0 13 0) 14 0) 15 0) 16 0) 17 0) 18 0) 19 0) 20 0) 21 0) 22 0) 23 0) 24 0)
set_option maxHeartbeats 4000000 in
set_option maxRecDepth 100000 in
theorem c_I_clear (l : Launch) (D : va_G) (h : Nat → Nat) (sz : Nat) (w0 : Nat → Int32)   : Met l yI_clear [.code yI_clear cI_clear 1 none] ({ frames := 0, cells := 0, slots := 0, locals := 0 }) (va_Pc [.ref (h 2)] (kb_B D [] (cw h) w0 sz)) (va_Qv (fun u' => u' = F_I_clear w0) (kb_E D [] (cw h) (va_A (cw h w0) sz)) (va_A (cw h w0) sz)) 0 0 (va_A (cw h w0) sz) := by
  refine kb_of (cc := cI_clear) (maxL := 1) (ret := none) (QcA := fun A => (va_Qv (fun u' => u' = F_I_clear w0) (kb_E D [] (cw h) A) A)) (by decide) (Nat.le_of_ble_eq_true rfl) ?_
  intro p e s m below meth c A hx hb hr hlocks hml hown hts hA hN hK hP hD ls hl
  have hS : va_S A s.heap s.heap [] := va_S.rf
  have hl : lv_has ls 1 [(0, .ref (h 2))] := hl
  have e : F_I_clear w0 = F_I_clear w0 := rfl
  refine lv_aload_n hx hb dI_clear_0 rfl (lv_at hl 0 rfl) ?_
  refine lv_iconst (v := 0) hx hb dI_clear_1 (by decide) ?_
  refine kb_put (D := D) (wf := cw h) (w' := (up w0 13 0)) (ci := 1) (v := .int 0) (ty := .boolean) (C := "BoilerDesk$Inbox") (T := TI) (N := 12) hx hb hts inI tyI tyI_ok nmI hown hK hP hD hS 2 rfl rfl 0 (by decide) (hts _ q_104) (fun _ h9 => h9) rfl (by decide +kernel) rfl rfl (Nat.le_of_ble_eq_true rfl) dI_clear_2 rfl (fun H locs hP hD hS => ?_)
  refine lv_aload_n hx hb dI_clear_5 rfl (lv_at hl 0 rfl) ?_
  refine lv_iconst (v := 0) hx hb dI_clear_6 (by decide) ?_
  refine kb_put (D := D) (wf := cw h) (w' := (up (up w0 13 0) 14 0)) (ci := 1) (v := .int 0) (ty := .int) (C := "BoilerDesk$Inbox") (T := TI) (N := 12) hx hb hts inI tyI tyI_ok nmI hown hK hP hD hS 2 rfl rfl 1 (by decide) (hts _ q_106) (fun _ h9 => h9) rfl (by decide +kernel) rfl rfl (Nat.le_of_ble_eq_true rfl) dI_clear_7 rfl (fun H locs hP hD hS => ?_)
  refine lv_aload_n hx hb dI_clear_10 rfl (lv_at hl 0 rfl) ?_
  refine lv_iconst (v := 0) hx hb dI_clear_11 (by decide) ?_
  refine kb_put (D := D) (wf := cw h) (w' := (up (up (up w0 13 0) 14 0) 15 0)) (ci := 1) (v := .int 0) (ty := .boolean) (C := "BoilerDesk$Inbox") (T := TI) (N := 12) hx hb hts inI tyI tyI_ok nmI hown hK hP hD hS 2 rfl rfl 2 (by decide) (hts _ q_108) (fun _ h9 => h9) rfl (by decide +kernel) rfl rfl (Nat.le_of_ble_eq_true rfl) dI_clear_12 rfl (fun H locs hP hD hS => ?_)
  refine lv_aload_n hx hb dI_clear_15 rfl (lv_at hl 0 rfl) ?_
  refine lv_iconst (v := 0) hx hb dI_clear_16 (by decide) ?_
  refine kb_put (D := D) (wf := cw h) (w' := (up (up (up (up w0 13 0) 14 0) 15 0) 16 0)) (ci := 1) (v := .int 0) (ty := .int) (C := "BoilerDesk$Inbox") (T := TI) (N := 12) hx hb hts inI tyI tyI_ok nmI hown hK hP hD hS 2 rfl rfl 3 (by decide) (hts _ q_110) (fun _ h9 => h9) rfl (by decide +kernel) rfl rfl (Nat.le_of_ble_eq_true rfl) dI_clear_17 rfl (fun H locs hP hD hS => ?_)
  refine lv_aload_n hx hb dI_clear_20 rfl (lv_at hl 0 rfl) ?_
  refine lv_iconst (v := 0) hx hb dI_clear_21 (by decide) ?_
  refine kb_put (D := D) (wf := cw h) (w' := (up (up (up (up (up w0 13 0) 14 0) 15 0) 16 0) 17 0)) (ci := 1) (v := .int 0) (ty := .int) (C := "BoilerDesk$Inbox") (T := TI) (N := 12) hx hb hts inI tyI tyI_ok nmI hown hK hP hD hS 2 rfl rfl 4 (by decide) (hts _ q_112) (fun _ h9 => h9) rfl (by decide +kernel) rfl rfl (Nat.le_of_ble_eq_true rfl) dI_clear_22 rfl (fun H locs hP hD hS => ?_)
  refine lv_aload_n hx hb dI_clear_25 rfl (lv_at hl 0 rfl) ?_
  refine lv_iconst (v := 0) hx hb dI_clear_26 (by decide) ?_
  refine kb_put (D := D) (wf := cw h) (w' := (up (up (up (up (up (up w0 13 0) 14 0) 15 0) 16 0) 17 0) 18 0)) (ci := 1) (v := .int 0) (ty := .int) (C := "BoilerDesk$Inbox") (T := TI) (N := 12) hx hb hts inI tyI tyI_ok nmI hown hK hP hD hS 2 rfl rfl 5 (by decide) (hts _ q_114) (fun _ h9 => h9) rfl (by decide +kernel) rfl rfl (Nat.le_of_ble_eq_true rfl) dI_clear_27 rfl (fun H locs hP hD hS => ?_)
  refine lv_aload_n hx hb dI_clear_30 rfl (lv_at hl 0 rfl) ?_
  refine lv_iconst (v := 0) hx hb dI_clear_31 (by decide) ?_
  refine kb_put (D := D) (wf := cw h) (w' := (up (up (up (up (up (up (up w0 13 0) 14 0) 15 0) 16 0) 17 0) 18 0) 19 0)) (ci := 1) (v := .int 0) (ty := .int) (C := "BoilerDesk$Inbox") (T := TI) (N := 12) hx hb hts inI tyI tyI_ok nmI hown hK hP hD hS 2 rfl rfl 6 (by decide) (hts _ q_116) (fun _ h9 => h9) rfl (by decide +kernel) rfl rfl (Nat.le_of_ble_eq_true rfl) dI_clear_32 rfl (fun H locs hP hD hS => ?_)
  refine lv_aload_n hx hb dI_clear_35 rfl (lv_at hl 0 rfl) ?_
  refine lv_iconst (v := 0) hx hb dI_clear_36 (by decide) ?_
  refine kb_put (D := D) (wf := cw h) (w' := (up (up (up (up (up (up (up (up w0 13 0) 14 0) 15 0) 16 0) 17 0) 18 0) 19 0) 20 0)) (ci := 1) (v := .int 0) (ty := .boolean) (C := "BoilerDesk$Inbox") (T := TI) (N := 12) hx hb hts inI tyI tyI_ok nmI hown hK hP hD hS 2 rfl rfl 7 (by decide) (hts _ q_118) (fun _ h9 => h9) rfl (by decide +kernel) rfl rfl (Nat.le_of_ble_eq_true rfl) dI_clear_37 rfl (fun H locs hP hD hS => ?_)
  refine lv_aload_n hx hb dI_clear_40 rfl (lv_at hl 0 rfl) ?_
  refine lv_iconst (v := 0) hx hb dI_clear_41 (by decide) ?_
  refine kb_put (D := D) (wf := cw h) (w' := (up (up (up (up (up (up (up (up (up w0 13 0) 14 0) 15 0) 16 0) 17 0) 18 0) 19 0) 20 0) 21 0)) (ci := 1) (v := .int 0) (ty := .boolean) (C := "BoilerDesk$Inbox") (T := TI) (N := 12) hx hb hts inI tyI tyI_ok nmI hown hK hP hD hS 2 rfl rfl 8 (by decide) (hts _ q_120) (fun _ h9 => h9) rfl (by decide +kernel) rfl rfl (Nat.le_of_ble_eq_true rfl) dI_clear_42 rfl (fun H locs hP hD hS => ?_)
  refine lv_aload_n hx hb dI_clear_45 rfl (lv_at hl 0 rfl) ?_
  refine lv_iconst (v := 0) hx hb dI_clear_46 (by decide) ?_
  refine kb_put (D := D) (wf := cw h) (w' := (up (up (up (up (up (up (up (up (up (up w0 13 0) 14 0) 15 0) 16 0) 17 0) 18 0) 19 0) 20 0) 21 0) 22 0)) (ci := 1) (v := .int 0) (ty := .boolean) (C := "BoilerDesk$Inbox") (T := TI) (N := 12) hx hb hts inI tyI tyI_ok nmI hown hK hP hD hS 2 rfl rfl 9 (by decide) (hts _ q_122) (fun _ h9 => h9) rfl (by decide +kernel) rfl rfl (Nat.le_of_ble_eq_true rfl) dI_clear_47 rfl (fun H locs hP hD hS => ?_)
  refine lv_aload_n hx hb dI_clear_50 rfl (lv_at hl 0 rfl) ?_
  refine lv_iconst (v := 0) hx hb dI_clear_51 (by decide) ?_
  refine kb_put (D := D) (wf := cw h) (w' := (up (up (up (up (up (up (up (up (up (up (up w0 13 0) 14 0) 15 0) 16 0) 17 0) 18 0) 19 0) 20 0) 21 0) 22 0) 23 0)) (ci := 1) (v := .int 0) (ty := .int) (C := "BoilerDesk$Inbox") (T := TI) (N := 12) hx hb hts inI tyI tyI_ok nmI hown hK hP hD hS 2 rfl rfl 10 (by decide) (hts _ q_124) (fun _ h9 => h9) rfl (by decide +kernel) rfl rfl (Nat.le_of_ble_eq_true rfl) dI_clear_52 rfl (fun H locs hP hD hS => ?_)
  refine lv_aload_n hx hb dI_clear_55 rfl (lv_at hl 0 rfl) ?_
  refine lv_iconst (v := 0) hx hb dI_clear_56 (by decide) ?_
  refine kb_put (D := D) (wf := cw h) (w' := (up (up (up (up (up (up (up (up (up (up (up (up w0 13 0) 14 0) 15 0) 16 0) 17 0) 18 0) 19 0) 20 0) 21 0) 22 0) 23 0) 24 0)) (ci := 1) (v := .int 0) (ty := .int) (C := "BoilerDesk$Inbox") (T := TI) (N := 12) hx hb hts inI tyI tyI_ok nmI hown hK hP hD hS 2 rfl rfl 11 (by decide) (hts _ q_126) (fun _ h9 => h9) rfl (by decide +kernel) rfl rfl (Nat.le_of_ble_eq_true rfl) dI_clear_57 rfl (fun H locs hP hD hS => ?_)
  exact kb_vret (wf := cw h) hx hb hr hlocks hK hP hD hS e.symm dI_clear_60
/-- BoilerDesk$Units.hasFailed(I)Z -/
def F_U_hasFailed (w0 : Nat → Int32) (a1 : Int32) : Int32 := (F_D_hasBit (w0 25) a1)
set_option maxHeartbeats 4000000 in
set_option maxRecDepth 100000 in
theorem c_U_hasFailed (l : Launch) (D : va_G) (h : Nat → Nat) (sz : Nat) (w0 : Nat → Int32) (a1 : Int32)  : Met l yU_hasFailed [.code yU_hasFailed cU_hasFailed 2 (some .boolean)] ({ frames := 1, cells := 0, slots := 0, locals := 21 }) (va_Pc [.ref (h 3), .int a1] (kb_B D [] (cw h) w0 sz)) (va_Qi (fun r' u' => r' = F_U_hasFailed w0 a1 ∧ u' = w0) (kb_E D [] (cw h) (va_A (cw h w0) sz)) (va_A (cw h w0) sz)) 0 0 (va_A (cw h w0) sz) := by
  refine kb_of (cc := cU_hasFailed) (maxL := 2) (ret := (some .boolean)) (QcA := fun A => (va_Qi (fun r' u' => r' = F_U_hasFailed w0 a1 ∧ u' = w0) (kb_E D [] (cw h) A) A)) (by decide) (Nat.le_of_ble_eq_true rfl) ?_
  intro p e s m below meth c A hx hb hr hlocks hml hown hts hA hN hK hP hD ls hl
  have hS : va_S A s.heap s.heap [] := va_S.rf
  have hl : lv_has ls 2 [(0, .ref (h 3)), (1, .int a1)] := hl
  have e : F_U_hasFailed w0 a1 = F_U_hasFailed w0 a1 := rfl
  refine lv_aload_n hx hb dU_hasFailed_0 rfl (lv_at hl 0 rfl) ?_
  refine va_get (D := D) (ci := 6) (v := .int (w0 25)) (C := "BoilerDesk$Units") (T := TU) (N := 2) hx hb hts inU hown hK hP 3 rfl rfl 0 (by decide) (hts _ q_159) (fun _ h9 => h9) rfl dU_hasFailed_1 ?_
  refine lv_iload_n hx hb dU_hasFailed_4 rfl (lv_at hl 1 rfl) ?_
  refine kb_call0 (r := (F_D_hasBit (w0 25) a1)) (va_runSN (As := [.int (w0 25), .int a1]) (rest := []) ⟨hx, hb, hml, hown, hts⟩ (c_D_hasBit l D _ (w0 25) a1) ⟨va_cnB 2 hts (gd_1 q_475) rfl rfl rfl (hN _ q_480) (hts _ q_33) (by decide +kernel) ⟨Nat.le_of_ble_eq_true rfl, Nat.le_of_ble_eq_true rfl⟩, hts _ q_474, trivial⟩ (kb_pre0 hN hK) rfl rfl hl.1 rfl (lv_room (Nat.le_of_ble_eq_true rfl)) dU_hasFailed_5 ⟨Nat.zero_le _, Nat.zero_le _⟩) hP hS hA (fun H locs hP hS => ?_)
  exact kb_zret (wf := cw h) hx hb hr hlocks (zb_n (z_D_hasBit (w0 25) a1)) hK hP hD hS ⟨e.symm, rfl⟩ dU_hasFailed_8
theorem z_U_hasFailed (w0 : Nat → Int32) (a1 : Int32) : F_U_hasFailed w0 a1 = 0 ∨ F_U_hasFailed w0 a1 = 1 := by
  unfold F_U_hasFailed
  repeat' split
  all_goals first | exact Or.inl rfl | exact Or.inr rfl | exact z_D_hasBit _ _ _ | exact z_D_hasBit _ _
/-- BoilerDesk$Units.awaitsAcknowledgement(I)Z -/
def F_U_awaitsAcknowledgement (w0 : Nat → Int32) (a1 : Int32) : Int32 := (F_D_hasBit ((w0 25) &&& ((w0 26) ^^^ ((-1) : Int32))) a1)
set_option maxHeartbeats 4000000 in
set_option maxRecDepth 100000 in
theorem c_U_awaitsAcknowledgement (l : Launch) (D : va_G) (h : Nat → Nat) (sz : Nat) (w0 : Nat → Int32) (a1 : Int32)  : Met l yU_awaitsAcknowledgement [.code yU_awaitsAcknowledgement cU_awaitsAcknowledgement 2 (some .boolean)] ({ frames := 1, cells := 0, slots := 0, locals := 21 }) (va_Pc [.ref (h 3), .int a1] (kb_B D [] (cw h) w0 sz)) (va_Qi (fun r' u' => r' = F_U_awaitsAcknowledgement w0 a1 ∧ u' = w0) (kb_E D [] (cw h) (va_A (cw h w0) sz)) (va_A (cw h w0) sz)) 0 0 (va_A (cw h w0) sz) := by
  refine kb_of (cc := cU_awaitsAcknowledgement) (maxL := 2) (ret := (some .boolean)) (QcA := fun A => (va_Qi (fun r' u' => r' = F_U_awaitsAcknowledgement w0 a1 ∧ u' = w0) (kb_E D [] (cw h) A) A)) (by decide) (Nat.le_of_ble_eq_true rfl) ?_
  intro p e s m below meth c A hx hb hr hlocks hml hown hts hA hN hK hP hD ls hl
  have hS : va_S A s.heap s.heap [] := va_S.rf
  have hl : lv_has ls 2 [(0, .ref (h 3)), (1, .int a1)] := hl
  have e : F_U_awaitsAcknowledgement w0 a1 = F_U_awaitsAcknowledgement w0 a1 := rfl
  refine lv_aload_n hx hb dU_awaitsAcknowledgement_0 rfl (lv_at hl 0 rfl) ?_
  refine va_get (D := D) (ci := 6) (v := .int (w0 25)) (C := "BoilerDesk$Units") (T := TU) (N := 2) hx hb hts inU hown hK hP 3 rfl rfl 0 (by decide) (hts _ q_159) (fun _ h9 => h9) rfl dU_awaitsAcknowledgement_1 ?_
  refine lv_aload_n hx hb dU_awaitsAcknowledgement_4 rfl (lv_at hl 0 rfl) ?_
  refine va_get (D := D) (ci := 6) (v := .int (w0 26)) (C := "BoilerDesk$Units") (T := TU) (N := 2) hx hb hts inU hown hK hP 3 rfl rfl 1 (by decide) (hts _ q_161) (fun _ h9 => h9) rfl dU_awaitsAcknowledgement_5 ?_
  refine lv_iconst (v := (-1)) hx hb dU_awaitsAcknowledgement_8 (by decide) ?_
  refine lv_ixor hx hb dU_awaitsAcknowledgement_9 ?_
  refine lv_iand hx hb dU_awaitsAcknowledgement_10 ?_
  refine lv_iload_n hx hb dU_awaitsAcknowledgement_11 rfl (lv_at hl 1 rfl) ?_
  refine kb_call0 (r := (F_D_hasBit ((w0 25) &&& ((w0 26) ^^^ ((-1) : Int32))) a1)) (va_runSN (As := [.int ((w0 25) &&& ((w0 26) ^^^ ((-1) : Int32))), .int a1]) (rest := []) ⟨hx, hb, hml, hown, hts⟩ (c_D_hasBit l D _ ((w0 25) &&& ((w0 26) ^^^ ((-1) : Int32))) a1) ⟨va_cnB 2 hts (gd_1 q_475) rfl rfl rfl (hN _ q_480) (hts _ q_33) (by decide +kernel) ⟨Nat.le_of_ble_eq_true rfl, Nat.le_of_ble_eq_true rfl⟩, hts _ q_474, trivial⟩ (kb_pre0 hN hK) rfl rfl hl.1 rfl (lv_room (Nat.le_of_ble_eq_true rfl)) dU_awaitsAcknowledgement_12 ⟨Nat.zero_le _, Nat.zero_le _⟩) hP hS hA (fun H locs hP hS => ?_)
  exact kb_zret (wf := cw h) hx hb hr hlocks (zb_n (z_D_hasBit ((w0 25) &&& ((w0 26) ^^^ ((-1) : Int32))) a1)) hK hP hD hS ⟨e.symm, rfl⟩ dU_awaitsAcknowledgement_15
theorem z_U_awaitsAcknowledgement (w0 : Nat → Int32) (a1 : Int32) : F_U_awaitsAcknowledgement w0 a1 = 0 ∨ F_U_awaitsAcknowledgement w0 a1 = 1 := by
  unfold F_U_awaitsAcknowledgement
  repeat' split
  all_goals first | exact Or.inl rfl | exact Or.inr rfl | exact z_D_hasBit _ _ _ | exact z_D_hasBit _ _
/-- BoilerDesk$Units.fail(I)V -/
def F_U_fail (w0 : Nat → Int32) (a1 : Int32) : Nat → Int32 := (up w0 25 (F_D_withBit (w0 25) a1 (1 : Int32)))
set_option maxHeartbeats 4000000 in
set_option maxRecDepth 100000 in
theorem c_U_fail (l : Launch) (D : va_G) (h : Nat → Nat) (sz : Nat) (w0 : Nat → Int32) (a1 : Int32)  : Met l yU_fail [.code yU_fail cU_fail 2 none] ({ frames := 1, cells := 0, slots := 0, locals := 22 }) (va_Pc [.ref (h 3), .int a1] (kb_B D [] (cw h) w0 sz)) (va_Qv (fun u' => u' = F_U_fail w0 a1) (kb_E D [] (cw h) (va_A (cw h w0) sz)) (va_A (cw h w0) sz)) 0 0 (va_A (cw h w0) sz) := by
  refine kb_of (cc := cU_fail) (maxL := 2) (ret := none) (QcA := fun A => (va_Qv (fun u' => u' = F_U_fail w0 a1) (kb_E D [] (cw h) A) A)) (by decide) (Nat.le_of_ble_eq_true rfl) ?_
  intro p e s m below meth c A hx hb hr hlocks hml hown hts hA hN hK hP hD ls hl
  have hS : va_S A s.heap s.heap [] := va_S.rf
  have hl : lv_has ls 2 [(0, .ref (h 3)), (1, .int a1)] := hl
  have e : F_U_fail w0 a1 = F_U_fail w0 a1 := rfl
  refine lv_aload_n hx hb dU_fail_0 rfl (lv_at hl 0 rfl) ?_
  refine lv_aload_n hx hb dU_fail_1 rfl (lv_at hl 0 rfl) ?_
  refine va_get (D := D) (ci := 6) (v := .int (w0 25)) (C := "BoilerDesk$Units") (T := TU) (N := 2) hx hb hts inU hown hK hP 3 rfl rfl 0 (by decide) (hts _ q_159) (fun _ h9 => h9) rfl dU_fail_2 ?_
  refine lv_iload_n hx hb dU_fail_5 rfl (lv_at hl 1 rfl) ?_
  refine lv_iconst (v := 1) hx hb dU_fail_6 (by decide) ?_
  refine kb_call0 (r := (F_D_withBit (w0 25) a1 (1 : Int32))) (va_runSN (As := [.int (w0 25), .int a1, .int 1]) (rest := [.ref (h 3)]) ⟨hx, hb, hml, hown, hts⟩ (c_D_withBit l D _ (w0 25) a1 (1 : Int32) (by decide)) ⟨va_cnB 3 hts (gd_1 q_416) rfl rfl rfl (hN _ q_485) (hts _ q_33) (by decide +kernel) ⟨Nat.le_of_ble_eq_true rfl, Nat.le_of_ble_eq_true rfl⟩, hts _ q_415, trivial⟩ (kb_pre0 hN hK) rfl rfl hl.1 rfl (lv_room (Nat.le_of_ble_eq_true rfl)) dU_fail_7 ⟨Nat.zero_le _, Nat.zero_le _⟩) hP hS hA (fun H locs hP hS => ?_)
  refine kb_put (D := D) (wf := cw h) (w' := (up w0 25 (F_D_withBit (w0 25) a1 (1 : Int32)))) (ci := 6) (v := .int (F_D_withBit (w0 25) a1 (1 : Int32))) (ty := .int) (C := "BoilerDesk$Units") (T := TU) (N := 2) hx hb hts inU tyU tyU_ok nmU hown hK hP hD hS 3 rfl rfl 0 (by decide) (hts _ q_159) (fun _ h9 => h9) rfl (by decide +kernel) rfl rfl (Nat.le_of_ble_eq_true rfl) dU_fail_10 rfl (fun H locs hP hD hS => ?_)
  exact kb_vret (wf := cw h) hx hb hr hlocks hK hP hD hS e.symm dU_fail_13
/-- BoilerDesk$Units.acknowledge(I)V -/
def F_U_acknowledge (w0 : Nat → Int32) (a1 : Int32) : Nat → Int32 := (up w0 26 (F_D_withBit (w0 26) a1 (1 : Int32)))
set_option maxHeartbeats 4000000 in
set_option maxRecDepth 100000 in
theorem c_U_acknowledge (l : Launch) (D : va_G) (h : Nat → Nat) (sz : Nat) (w0 : Nat → Int32) (a1 : Int32)  : Met l yU_acknowledge [.code yU_acknowledge cU_acknowledge 2 none] ({ frames := 1, cells := 0, slots := 0, locals := 22 }) (va_Pc [.ref (h 3), .int a1] (kb_B D [] (cw h) w0 sz)) (va_Qv (fun u' => u' = F_U_acknowledge w0 a1) (kb_E D [] (cw h) (va_A (cw h w0) sz)) (va_A (cw h w0) sz)) 0 0 (va_A (cw h w0) sz) := by
  refine kb_of (cc := cU_acknowledge) (maxL := 2) (ret := none) (QcA := fun A => (va_Qv (fun u' => u' = F_U_acknowledge w0 a1) (kb_E D [] (cw h) A) A)) (by decide) (Nat.le_of_ble_eq_true rfl) ?_
  intro p e s m below meth c A hx hb hr hlocks hml hown hts hA hN hK hP hD ls hl
  have hS : va_S A s.heap s.heap [] := va_S.rf
  have hl : lv_has ls 2 [(0, .ref (h 3)), (1, .int a1)] := hl
  have e : F_U_acknowledge w0 a1 = F_U_acknowledge w0 a1 := rfl
  refine lv_aload_n hx hb dU_acknowledge_0 rfl (lv_at hl 0 rfl) ?_
  refine lv_aload_n hx hb dU_acknowledge_1 rfl (lv_at hl 0 rfl) ?_
  refine va_get (D := D) (ci := 6) (v := .int (w0 26)) (C := "BoilerDesk$Units") (T := TU) (N := 2) hx hb hts inU hown hK hP 3 rfl rfl 1 (by decide) (hts _ q_161) (fun _ h9 => h9) rfl dU_acknowledge_2 ?_
  refine lv_iload_n hx hb dU_acknowledge_5 rfl (lv_at hl 1 rfl) ?_
  refine lv_iconst (v := 1) hx hb dU_acknowledge_6 (by decide) ?_
  refine kb_call0 (r := (F_D_withBit (w0 26) a1 (1 : Int32))) (va_runSN (As := [.int (w0 26), .int a1, .int 1]) (rest := [.ref (h 3)]) ⟨hx, hb, hml, hown, hts⟩ (c_D_withBit l D _ (w0 26) a1 (1 : Int32) (by decide)) ⟨va_cnB 3 hts (gd_1 q_416) rfl rfl rfl (hN _ q_485) (hts _ q_33) (by decide +kernel) ⟨Nat.le_of_ble_eq_true rfl, Nat.le_of_ble_eq_true rfl⟩, hts _ q_415, trivial⟩ (kb_pre0 hN hK) rfl rfl hl.1 rfl (lv_room (Nat.le_of_ble_eq_true rfl)) dU_acknowledge_7 ⟨Nat.zero_le _, Nat.zero_le _⟩) hP hS hA (fun H locs hP hS => ?_)
  refine kb_put (D := D) (wf := cw h) (w' := (up w0 26 (F_D_withBit (w0 26) a1 (1 : Int32)))) (ci := 6) (v := .int (F_D_withBit (w0 26) a1 (1 : Int32))) (ty := .int) (C := "BoilerDesk$Units") (T := TU) (N := 2) hx hb hts inU tyU tyU_ok nmU hown hK hP hD hS 3 rfl rfl 1 (by decide) (hts _ q_161) (fun _ h9 => h9) rfl (by decide +kernel) rfl rfl (Nat.le_of_ble_eq_true rfl) dU_acknowledge_10 rfl (fun H locs hP hD hS => ?_)
  exact kb_vret (wf := cw h) hx hb hr hlocks hK hP hD hS e.symm dU_acknowledge_13
/-- BoilerDesk$Units.repair(I)V -/
def F_U_repair (w0 : Nat → Int32) (a1 : Int32) : Nat → Int32 := (up (up w0 25 (F_D_withBit (w0 25) a1 (0 : Int32))) 26 (F_D_withBit (w0 26) a1 (0 : Int32)))
set_option maxHeartbeats 4000000 in
set_option maxRecDepth 100000 in
theorem c_U_repair (l : Launch) (D : va_G) (h : Nat → Nat) (sz : Nat) (w0 : Nat → Int32) (a1 : Int32)  : Met l yU_repair [.code yU_repair cU_repair 2 none] ({ frames := 1, cells := 0, slots := 0, locals := 22 }) (va_Pc [.ref (h 3), .int a1] (kb_B D [] (cw h) w0 sz)) (va_Qv (fun u' => u' = F_U_repair w0 a1) (kb_E D [] (cw h) (va_A (cw h w0) sz)) (va_A (cw h w0) sz)) 0 0 (va_A (cw h w0) sz) := by
  refine kb_of (cc := cU_repair) (maxL := 2) (ret := none) (QcA := fun A => (va_Qv (fun u' => u' = F_U_repair w0 a1) (kb_E D [] (cw h) A) A)) (by decide) (Nat.le_of_ble_eq_true rfl) ?_
  intro p e s m below meth c A hx hb hr hlocks hml hown hts hA hN hK hP hD ls hl
  have hS : va_S A s.heap s.heap [] := va_S.rf
  have hl : lv_has ls 2 [(0, .ref (h 3)), (1, .int a1)] := hl
  have e : F_U_repair w0 a1 = F_U_repair w0 a1 := rfl
  refine lv_aload_n hx hb dU_repair_0 rfl (lv_at hl 0 rfl) ?_
  refine lv_aload_n hx hb dU_repair_1 rfl (lv_at hl 0 rfl) ?_
  refine va_get (D := D) (ci := 6) (v := .int (w0 25)) (C := "BoilerDesk$Units") (T := TU) (N := 2) hx hb hts inU hown hK hP 3 rfl rfl 0 (by decide) (hts _ q_159) (fun _ h9 => h9) rfl dU_repair_2 ?_
  refine lv_iload_n hx hb dU_repair_5 rfl (lv_at hl 1 rfl) ?_
  refine lv_iconst (v := 0) hx hb dU_repair_6 (by decide) ?_
  refine kb_call0 (r := (F_D_withBit (w0 25) a1 (0 : Int32))) (va_runSN (As := [.int (w0 25), .int a1, .int 0]) (rest := [.ref (h 3)]) ⟨hx, hb, hml, hown, hts⟩ (c_D_withBit l D _ (w0 25) a1 (0 : Int32) (by decide)) ⟨va_cnB 3 hts (gd_1 q_416) rfl rfl rfl (hN _ q_485) (hts _ q_33) (by decide +kernel) ⟨Nat.le_of_ble_eq_true rfl, Nat.le_of_ble_eq_true rfl⟩, hts _ q_415, trivial⟩ (kb_pre0 hN hK) rfl rfl hl.1 rfl (lv_room (Nat.le_of_ble_eq_true rfl)) dU_repair_7 ⟨Nat.zero_le _, Nat.zero_le _⟩) hP hS hA (fun H locs hP hS => ?_)
  refine kb_put (D := D) (wf := cw h) (w' := (up w0 25 (F_D_withBit (w0 25) a1 (0 : Int32)))) (ci := 6) (v := .int (F_D_withBit (w0 25) a1 (0 : Int32))) (ty := .int) (C := "BoilerDesk$Units") (T := TU) (N := 2) hx hb hts inU tyU tyU_ok nmU hown hK hP hD hS 3 rfl rfl 0 (by decide) (hts _ q_159) (fun _ h9 => h9) rfl (by decide +kernel) rfl rfl (Nat.le_of_ble_eq_true rfl) dU_repair_10 rfl (fun H locs hP hD hS => ?_)
  refine lv_aload_n hx hb dU_repair_13 rfl (lv_at hl 0 rfl) ?_
  refine lv_aload_n hx hb dU_repair_14 rfl (lv_at hl 0 rfl) ?_
  refine va_get (D := D) (ci := 6) (v := .int (w0 26)) (C := "BoilerDesk$Units") (T := TU) (N := 2) hx hb hts inU hown hK hP 3 rfl rfl 1 (by decide) (hts _ q_161) (fun _ h9 => h9) rfl dU_repair_15 ?_
  refine lv_iload_n hx hb dU_repair_18 rfl (lv_at hl 1 rfl) ?_
  refine lv_iconst (v := 0) hx hb dU_repair_19 (by decide) ?_
  refine kb_call0 (r := (F_D_withBit (w0 26) a1 (0 : Int32))) (va_runSN (As := [.int (w0 26), .int a1, .int 0]) (rest := [.ref (h 3)]) ⟨hx, hb, hml, hown, hts⟩ (c_D_withBit l D _ (w0 26) a1 (0 : Int32) (by decide)) ⟨va_cnB 3 hts (gd_1 q_416) rfl rfl rfl (hN _ q_485) (hts _ q_33) (by decide +kernel) ⟨Nat.le_of_ble_eq_true rfl, Nat.le_of_ble_eq_true rfl⟩, hts _ q_415, trivial⟩ (kb_pre0 hN hK) rfl rfl hl.1 rfl (lv_room (Nat.le_of_ble_eq_true rfl)) dU_repair_20 ⟨Nat.zero_le _, Nat.zero_le _⟩) hP hS hA (fun H locs hP hS => ?_)
  refine kb_put (D := D) (wf := cw h) (w' := (up (up w0 25 (F_D_withBit (w0 25) a1 (0 : Int32))) 26 (F_D_withBit (w0 26) a1 (0 : Int32)))) (ci := 6) (v := .int (F_D_withBit (w0 26) a1 (0 : Int32))) (ty := .int) (C := "BoilerDesk$Units") (T := TU) (N := 2) hx hb hts inU tyU tyU_ok nmU hown hK hP hD hS 3 rfl rfl 1 (by decide) (hts _ q_161) (fun _ h9 => h9) rfl (by decide +kernel) rfl rfl (Nat.le_of_ble_eq_true rfl) dU_repair_23 rfl (fun H locs hP hD hS => ?_)
  exact kb_vret (wf := cw h) hx hb hr hlocks hK hP hD hS e.symm dU_repair_26
/-- BoilerDesk$Units.clear()V -/
def F_U_clear (w0 : Nat → Int32)  : Nat → Int32 := (up (up w0 25 0) 26 0)
set_option maxHeartbeats 4000000 in
set_option maxRecDepth 100000 in
theorem c_U_clear (l : Launch) (D : va_G) (h : Nat → Nat) (sz : Nat) (w0 : Nat → Int32)   : Met l yU_clear [.code yU_clear cU_clear 1 none] ({ frames := 0, cells := 0, slots := 0, locals := 0 }) (va_Pc [.ref (h 3)] (kb_B D [] (cw h) w0 sz)) (va_Qv (fun u' => u' = F_U_clear w0) (kb_E D [] (cw h) (va_A (cw h w0) sz)) (va_A (cw h w0) sz)) 0 0 (va_A (cw h w0) sz) := by
  refine kb_of (cc := cU_clear) (maxL := 1) (ret := none) (QcA := fun A => (va_Qv (fun u' => u' = F_U_clear w0) (kb_E D [] (cw h) A) A)) (by decide) (Nat.le_of_ble_eq_true rfl) ?_
  intro p e s m below meth c A hx hb hr hlocks hml hown hts hA hN hK hP hD ls hl
  have hS : va_S A s.heap s.heap [] := va_S.rf
  have hl : lv_has ls 1 [(0, .ref (h 3))] := hl
  have e : F_U_clear w0 = F_U_clear w0 := rfl
  refine lv_aload_n hx hb dU_clear_0 rfl (lv_at hl 0 rfl) ?_
  refine lv_iconst (v := 0) hx hb dU_clear_1 (by decide) ?_
  refine kb_put (D := D) (wf := cw h) (w' := (up w0 25 0)) (ci := 6) (v := .int 0) (ty := .int) (C := "BoilerDesk$Units") (T := TU) (N := 2) hx hb hts inU tyU tyU_ok nmU hown hK hP hD hS 3 rfl rfl 0 (by decide) (hts _ q_159) (fun _ h9 => h9) rfl (by decide +kernel) rfl rfl (Nat.le_of_ble_eq_true rfl) dU_clear_2 rfl (fun H locs hP hD hS => ?_)
  refine lv_aload_n hx hb dU_clear_5 rfl (lv_at hl 0 rfl) ?_
  refine lv_iconst (v := 0) hx hb dU_clear_6 (by decide) ?_
  refine kb_put (D := D) (wf := cw h) (w' := (up (up w0 25 0) 26 0)) (ci := 6) (v := .int 0) (ty := .int) (C := "BoilerDesk$Units") (T := TU) (N := 2) hx hb hts inU tyU tyU_ok nmU hown hK hP hD hS 3 rfl rfl 1 (by decide) (hts _ q_161) (fun _ h9 => h9) rfl (by decide +kernel) rfl rfl (Nat.le_of_ble_eq_true rfl) dU_clear_7 rfl (fun H locs hP hD hS => ?_)
  exact kb_vret (wf := cw h) hx hb hr hlocks hK hP hD hS e.symm dU_clear_10
/-- BoilerDesk$Machines.remember(I)V -/
def F_M_remember (w0 : Nat → Int32) (a1 : Int32) : Nat → Int32 := (up (up w0 28 (w0 27)) 29 a1)
set_option maxHeartbeats 4000000 in
set_option maxRecDepth 100000 in
theorem c_M_remember (l : Launch) (D : va_G) (h : Nat → Nat) (sz : Nat) (w0 : Nat → Int32) (a1 : Int32)  : Met l yM_remember [.code yM_remember cM_remember 2 none] ({ frames := 0, cells := 0, slots := 0, locals := 0 }) (va_Pc [.ref (h 4), .int a1] (kb_B D [] (cw h) w0 sz)) (va_Qv (fun u' => u' = F_M_remember w0 a1) (kb_E D [] (cw h) (va_A (cw h w0) sz)) (va_A (cw h w0) sz)) 0 0 (va_A (cw h w0) sz) := by
  refine kb_of (cc := cM_remember) (maxL := 2) (ret := none) (QcA := fun A => (va_Qv (fun u' => u' = F_M_remember w0 a1) (kb_E D [] (cw h) A) A)) (by decide) (Nat.le_of_ble_eq_true rfl) ?_
  intro p e s m below meth c A hx hb hr hlocks hml hown hts hA hN hK hP hD ls hl
  have hS : va_S A s.heap s.heap [] := va_S.rf
  have hl : lv_has ls 2 [(0, .ref (h 4)), (1, .int a1)] := hl
  have e : F_M_remember w0 a1 = F_M_remember w0 a1 := rfl
  refine lv_aload_n hx hb dM_remember_0 rfl (lv_at hl 0 rfl) ?_
  refine lv_aload_n hx hb dM_remember_1 rfl (lv_at hl 0 rfl) ?_
  refine va_get (D := D) (ci := 2) (v := .int (w0 27)) (C := "BoilerDesk$Machines") (T := TM) (N := 4) hx hb hts inM hown hK hP 4 rfl rfl 0 (by decide) (hts _ q_174) (fun _ h9 => h9) rfl dM_remember_2 ?_
  refine kb_put (D := D) (wf := cw h) (w' := (up w0 28 (w0 27))) (ci := 2) (v := .int (w0 27)) (ty := .int) (C := "BoilerDesk$Machines") (T := TM) (N := 4) hx hb hts inM tyM tyM_ok nmM hown hK hP hD hS 4 rfl rfl 1 (by decide) (hts _ q_176) (fun _ h9 => h9) rfl (by decide +kernel) rfl rfl (Nat.le_of_ble_eq_true rfl) dM_remember_5 rfl (fun H locs hP hD hS => ?_)
  refine lv_aload_n hx hb dM_remember_8 rfl (lv_at hl 0 rfl) ?_
  refine lv_iload_n hx hb dM_remember_9 rfl (lv_at hl 1 rfl) ?_
  refine kb_put (D := D) (wf := cw h) (w' := (up (up w0 28 (w0 27)) 29 a1)) (ci := 2) (v := .int a1) (ty := .int) (C := "BoilerDesk$Machines") (T := TM) (N := 4) hx hb hts inM tyM tyM_ok nmM hown hK hP hD hS 4 rfl rfl 2 (by decide) (hts _ q_178) (fun _ h9 => h9) rfl (by decide +kernel) rfl rfl (Nat.le_of_ble_eq_true rfl) dM_remember_10 rfl (fun H locs hP hD hS => ?_)
  exact kb_vret (wf := cw h) hx hb hr hlocks hK hP hD hS e.symm dM_remember_13
/-- BoilerDesk$Machines.pumpsSurelyGiving(I)I -/
def F_M_pumpsSurelyGiving (w0 : Nat → Int32) (a1 : Int32) : Int32 := ((((F_M_trusted a1) &&& (w0 27)) &&& (w0 28)) &&& (w0 29))
set_option maxHeartbeats 4000000 in
set_option maxRecDepth 100000 in
theorem c_M_pumpsSurelyGiving (l : Launch) (D : va_G) (h : Nat → Nat) (sz : Nat) (w0 : Nat → Int32) (a1 : Int32)  : Met l yM_pumpsSurelyGiving [.code yM_pumpsSurelyGiving cM_pumpsSurelyGiving 2 (some .int)] ({ frames := 1, cells := 0, slots := 0, locals := 20 }) (va_Pc [.ref (h 4), .int a1] (kb_B D [] (cw h) w0 sz)) (va_Qi (fun r' u' => r' = F_M_pumpsSurelyGiving w0 a1 ∧ u' = w0) (kb_E D [] (cw h) (va_A (cw h w0) sz)) (va_A (cw h w0) sz)) 0 0 (va_A (cw h w0) sz) := by
  refine kb_of (cc := cM_pumpsSurelyGiving) (maxL := 2) (ret := (some .int)) (QcA := fun A => (va_Qi (fun r' u' => r' = F_M_pumpsSurelyGiving w0 a1 ∧ u' = w0) (kb_E D [] (cw h) A) A)) (by decide) (Nat.le_of_ble_eq_true rfl) ?_
  intro p e s m below meth c A hx hb hr hlocks hml hown hts hA hN hK hP hD ls hl
  have hS : va_S A s.heap s.heap [] := va_S.rf
  have hl : lv_has ls 2 [(0, .ref (h 4)), (1, .int a1)] := hl
  have e : F_M_pumpsSurelyGiving w0 a1 = F_M_pumpsSurelyGiving w0 a1 := rfl
  refine lv_iload_n hx hb dM_pumpsSurelyGiving_0 rfl (lv_at hl 1 rfl) ?_
  refine kb_call0 (r := (F_M_trusted a1)) (va_runS (As := [.int a1]) (rest := []) ⟨hx, hb, hml, hown, hts⟩ (c_M_trusted l D _ a1) (va_cwS 1 hts (gd_S q_516 q_517 q_37 q_518) rfl rfl rfl (by decide +kernel) ⟨Nat.le_of_ble_eq_true rfl, Nat.le_of_ble_eq_true rfl⟩) (kb_pre0 hN hK) rfl rfl hl.1 rfl (lv_room (Nat.le_of_ble_eq_true rfl)) dM_pumpsSurelyGiving_1 ⟨Nat.zero_le _, Nat.zero_le _⟩) hP hS hA (fun H locs hP hS => ?_)
  refine lv_aload_n hx hb dM_pumpsSurelyGiving_4 rfl (lv_at hl 0 rfl) ?_
  refine va_get (D := D) (ci := 2) (v := .int (w0 27)) (C := "BoilerDesk$Machines") (T := TM) (N := 4) hx hb hts inM hown hK hP 4 rfl rfl 0 (by decide) (hts _ q_174) (fun _ h9 => h9) rfl dM_pumpsSurelyGiving_5 ?_
  refine lv_iand hx hb dM_pumpsSurelyGiving_8 ?_
  refine lv_aload_n hx hb dM_pumpsSurelyGiving_9 rfl (lv_at hl 0 rfl) ?_
  refine va_get (D := D) (ci := 2) (v := .int (w0 28)) (C := "BoilerDesk$Machines") (T := TM) (N := 4) hx hb hts inM hown hK hP 4 rfl rfl 1 (by decide) (hts _ q_176) (fun _ h9 => h9) rfl dM_pumpsSurelyGiving_10 ?_
  refine lv_iand hx hb dM_pumpsSurelyGiving_13 ?_
  refine lv_aload_n hx hb dM_pumpsSurelyGiving_14 rfl (lv_at hl 0 rfl) ?_
  refine va_get (D := D) (ci := 2) (v := .int (w0 29)) (C := "BoilerDesk$Machines") (T := TM) (N := 4) hx hb hts inM hown hK hP 4 rfl rfl 2 (by decide) (hts _ q_178) (fun _ h9 => h9) rfl dM_pumpsSurelyGiving_15 ?_
  refine lv_iand hx hb dM_pumpsSurelyGiving_18 ?_
  exact kb_iret (wf := cw h) hx hb hr hlocks hK hP hD hS ⟨e.symm, rfl⟩ dM_pumpsSurelyGiving_19
/-- BoilerDesk$Machines.pumpsSurelyIdle(I)I -/
def F_M_pumpsSurelyIdle (w0 : Nat → Int32) (a1 : Int32) : Int32 := ((F_M_trusted a1) &&& ((w0 27) ^^^ ((-1) : Int32)))
set_option maxHeartbeats 4000000 in
set_option maxRecDepth 100000 in
theorem c_M_pumpsSurelyIdle (l : Launch) (D : va_G) (h : Nat → Nat) (sz : Nat) (w0 : Nat → Int32) (a1 : Int32)  : Met l yM_pumpsSurelyIdle [.code yM_pumpsSurelyIdle cM_pumpsSurelyIdle 2 (some .int)] ({ frames := 1, cells := 0, slots := 0, locals := 20 }) (va_Pc [.ref (h 4), .int a1] (kb_B D [] (cw h) w0 sz)) (va_Qi (fun r' u' => r' = F_M_pumpsSurelyIdle w0 a1 ∧ u' = w0) (kb_E D [] (cw h) (va_A (cw h w0) sz)) (va_A (cw h w0) sz)) 0 0 (va_A (cw h w0) sz) := by
  refine kb_of (cc := cM_pumpsSurelyIdle) (maxL := 2) (ret := (some .int)) (QcA := fun A => (va_Qi (fun r' u' => r' = F_M_pumpsSurelyIdle w0 a1 ∧ u' = w0) (kb_E D [] (cw h) A) A)) (by decide) (Nat.le_of_ble_eq_true rfl) ?_
  intro p e s m below meth c A hx hb hr hlocks hml hown hts hA hN hK hP hD ls hl
  have hS : va_S A s.heap s.heap [] := va_S.rf
  have hl : lv_has ls 2 [(0, .ref (h 4)), (1, .int a1)] := hl
  have e : F_M_pumpsSurelyIdle w0 a1 = F_M_pumpsSurelyIdle w0 a1 := rfl
  refine lv_iload_n hx hb dM_pumpsSurelyIdle_0 rfl (lv_at hl 1 rfl) ?_
  refine kb_call0 (r := (F_M_trusted a1)) (va_runS (As := [.int a1]) (rest := []) ⟨hx, hb, hml, hown, hts⟩ (c_M_trusted l D _ a1) (va_cwS 1 hts (gd_S q_516 q_517 q_37 q_518) rfl rfl rfl (by decide +kernel) ⟨Nat.le_of_ble_eq_true rfl, Nat.le_of_ble_eq_true rfl⟩) (kb_pre0 hN hK) rfl rfl hl.1 rfl (lv_room (Nat.le_of_ble_eq_true rfl)) dM_pumpsSurelyIdle_1 ⟨Nat.zero_le _, Nat.zero_le _⟩) hP hS hA (fun H locs hP hS => ?_)
  refine lv_aload_n hx hb dM_pumpsSurelyIdle_4 rfl (lv_at hl 0 rfl) ?_
  refine va_get (D := D) (ci := 2) (v := .int (w0 27)) (C := "BoilerDesk$Machines") (T := TM) (N := 4) hx hb hts inM hown hK hP 4 rfl rfl 0 (by decide) (hts _ q_174) (fun _ h9 => h9) rfl dM_pumpsSurelyIdle_5 ?_
  refine lv_iconst (v := (-1)) hx hb dM_pumpsSurelyIdle_8 (by decide) ?_
  refine lv_ixor hx hb dM_pumpsSurelyIdle_9 ?_
  refine lv_iand hx hb dM_pumpsSurelyIdle_10 ?_
  exact kb_iret (wf := cw h) hx hb hr hlocks hK hP hD hS ⟨e.symm, rfl⟩ dM_pumpsSurelyIdle_11
/-- BoilerDesk$Machines.clear()V -/
def F_M_clear (w0 : Nat → Int32)  : Nat → Int32 := (up (up (up (up w0 27 0) 28 0) 29 0) 30 0)
set_option maxHeartbeats 4000000 in
set_option maxRecDepth 100000 in
theorem c_M_clear (l : Launch) (D : va_G) (h : Nat → Nat) (sz : Nat) (w0 : Nat → Int32)   : Met l yM_clear [.code yM_clear cM_clear 1 none] ({ frames := 0, cells := 0, slots := 0, locals := 0 }) (va_Pc [.ref (h 4)] (kb_B D [] (cw h) w0 sz)) (va_Qv (fun u' => u' = F_M_clear w0) (kb_E D [] (cw h) (va_A (cw h w0) sz)) (va_A (cw h w0) sz)) 0 0 (va_A (cw h w0) sz) := by
  refine kb_of (cc := cM_clear) (maxL := 1) (ret := none) (QcA := fun A => (va_Qv (fun u' => u' = F_M_clear w0) (kb_E D [] (cw h) A) A)) (by decide) (Nat.le_of_ble_eq_true rfl) ?_
  intro p e s m below meth c A hx hb hr hlocks hml hown hts hA hN hK hP hD ls hl
  have hS : va_S A s.heap s.heap [] := va_S.rf
  have hl : lv_has ls 1 [(0, .ref (h 4))] := hl
  have e : F_M_clear w0 = F_M_clear w0 := rfl
  refine lv_aload_n hx hb dM_clear_0 rfl (lv_at hl 0 rfl) ?_
  refine lv_iconst (v := 0) hx hb dM_clear_1 (by decide) ?_
  refine kb_put (D := D) (wf := cw h) (w' := (up w0 27 0)) (ci := 2) (v := .int 0) (ty := .int) (C := "BoilerDesk$Machines") (T := TM) (N := 4) hx hb hts inM tyM tyM_ok nmM hown hK hP hD hS 4 rfl rfl 0 (by decide) (hts _ q_174) (fun _ h9 => h9) rfl (by decide +kernel) rfl rfl (Nat.le_of_ble_eq_true rfl) dM_clear_2 rfl (fun H locs hP hD hS => ?_)
  refine lv_aload_n hx hb dM_clear_5 rfl (lv_at hl 0 rfl) ?_
  refine lv_iconst (v := 0) hx hb dM_clear_6 (by decide) ?_
  refine kb_put (D := D) (wf := cw h) (w' := (up (up w0 27 0) 28 0)) (ci := 2) (v := .int 0) (ty := .int) (C := "BoilerDesk$Machines") (T := TM) (N := 4) hx hb hts inM tyM tyM_ok nmM hown hK hP hD hS 4 rfl rfl 1 (by decide) (hts _ q_176) (fun _ h9 => h9) rfl (by decide +kernel) rfl rfl (Nat.le_of_ble_eq_true rfl) dM_clear_7 rfl (fun H locs hP hD hS => ?_)
  refine lv_aload_n hx hb dM_clear_10 rfl (lv_at hl 0 rfl) ?_
  refine lv_iconst (v := 0) hx hb dM_clear_11 (by decide) ?_
  refine kb_put (D := D) (wf := cw h) (w' := (up (up (up w0 27 0) 28 0) 29 0)) (ci := 2) (v := .int 0) (ty := .int) (C := "BoilerDesk$Machines") (T := TM) (N := 4) hx hb hts inM tyM tyM_ok nmM hown hK hP hD hS 4 rfl rfl 2 (by decide) (hts _ q_178) (fun _ h9 => h9) rfl (by decide +kernel) rfl rfl (Nat.le_of_ble_eq_true rfl) dM_clear_12 rfl (fun H locs hP hD hS => ?_)
  refine lv_aload_n hx hb dM_clear_15 rfl (lv_at hl 0 rfl) ?_
  refine lv_iconst (v := 0) hx hb dM_clear_16 (by decide) ?_
  refine kb_put (D := D) (wf := cw h) (w' := (up (up (up (up w0 27 0) 28 0) 29 0) 30 0)) (ci := 2) (v := .int 0) (ty := .boolean) (C := "BoilerDesk$Machines") (T := TM) (N := 4) hx hb hts inM tyM tyM_ok nmM hown hK hP hD hS 4 rfl rfl 3 (by decide) (hts _ q_179) (fun _ h9 => h9) rfl (by decide +kernel) rfl rfl (Nat.le_of_ble_eq_true rfl) dM_clear_17 rfl (fun H locs hP hD hS => ?_)
  exact kb_vret (wf := cw h) hx hb hr hlocks hK hP hD hS e.symm dM_clear_20
/-- BoilerDesk$Report.clear()V -/
def F_R_clear (w0 : Nat → Int32)  : Nat → Int32 := (up (up (up (up (up (up (up w0 31 0) 32 0) 33 0) 34 0) 35 0) 36 0) 37 0)
set_option maxHeartbeats 4000000 in
set_option maxRecDepth 100000 in
theorem c_R_clear (l : Launch) (D : va_G) (h : Nat → Nat) (sz : Nat) (w0 : Nat → Int32)   : Met l yR_clear [.code yR_clear cR_clear 1 none] ({ frames := 0, cells := 0, slots := 0, locals := 0 }) (va_Pc [.ref (h 5)] (kb_B D [] (cw h) w0 sz)) (va_Qv (fun u' => u' = F_R_clear w0) (kb_E D [] (cw h) (va_A (cw h w0) sz)) (va_A (cw h w0) sz)) 0 0 (va_A (cw h w0) sz) := by
  refine kb_of (cc := cR_clear) (maxL := 1) (ret := none) (QcA := fun A => (va_Qv (fun u' => u' = F_R_clear w0) (kb_E D [] (cw h) A) A)) (by decide) (Nat.le_of_ble_eq_true rfl) ?_
  intro p e s m below meth c A hx hb hr hlocks hml hown hts hA hN hK hP hD ls hl
  have hS : va_S A s.heap s.heap [] := va_S.rf
  have hl : lv_has ls 1 [(0, .ref (h 5))] := hl
  have e : F_R_clear w0 = F_R_clear w0 := rfl
  refine lv_aload_n hx hb dR_clear_0 rfl (lv_at hl 0 rfl) ?_
  refine lv_iconst (v := 0) hx hb dR_clear_1 (by decide) ?_
  refine kb_put (D := D) (wf := cw h) (w' := (up w0 31 0)) (ci := 4) (v := .int 0) (ty := .int) (C := "BoilerDesk$Report") (T := TR) (N := 7) hx hb hts inR tyR tyR_ok nmR hown hK hP hD hS 5 rfl rfl 0 (by decide) (hts _ q_196) (fun _ h9 => h9) rfl (by decide +kernel) rfl rfl (Nat.le_of_ble_eq_true rfl) dR_clear_2 rfl (fun H locs hP hD hS => ?_)
  refine lv_aload_n hx hb dR_clear_5 rfl (lv_at hl 0 rfl) ?_
  refine lv_iconst (v := 0) hx hb dR_clear_6 (by decide) ?_
  refine kb_put (D := D) (wf := cw h) (w' := (up (up w0 31 0) 32 0)) (ci := 4) (v := .int 0) (ty := .int) (C := "BoilerDesk$Report") (T := TR) (N := 7) hx hb hts inR tyR tyR_ok nmR hown hK hP hD hS 5 rfl rfl 1 (by decide) (hts _ q_198) (fun _ h9 => h9) rfl (by decide +kernel) rfl rfl (Nat.le_of_ble_eq_true rfl) dR_clear_7 rfl (fun H locs hP hD hS => ?_)
  refine lv_aload_n hx hb dR_clear_10 rfl (lv_at hl 0 rfl) ?_
  refine lv_iconst (v := 0) hx hb dR_clear_11 (by decide) ?_
  refine kb_put (D := D) (wf := cw h) (w' := (up (up (up w0 31 0) 32 0) 33 0)) (ci := 4) (v := .int 0) (ty := .boolean) (C := "BoilerDesk$Report") (T := TR) (N := 7) hx hb hts inR tyR tyR_ok nmR hown hK hP hD hS 5 rfl rfl 2 (by decide) (hts _ q_200) (fun _ h9 => h9) rfl (by decide +kernel) rfl rfl (Nat.le_of_ble_eq_true rfl) dR_clear_12 rfl (fun H locs hP hD hS => ?_)
  refine lv_aload_n hx hb dR_clear_15 rfl (lv_at hl 0 rfl) ?_
  refine lv_iconst (v := 0) hx hb dR_clear_16 (by decide) ?_
  refine kb_put (D := D) (wf := cw h) (w' := (up (up (up (up w0 31 0) 32 0) 33 0) 34 0)) (ci := 4) (v := .int 0) (ty := .boolean) (C := "BoilerDesk$Report") (T := TR) (N := 7) hx hb hts inR tyR tyR_ok nmR hown hK hP hD hS 5 rfl rfl 3 (by decide) (hts _ q_202) (fun _ h9 => h9) rfl (by decide +kernel) rfl rfl (Nat.le_of_ble_eq_true rfl) dR_clear_17 rfl (fun H locs hP hD hS => ?_)
  refine lv_aload_n hx hb dR_clear_20 rfl (lv_at hl 0 rfl) ?_
  refine lv_iconst (v := 0) hx hb dR_clear_21 (by decide) ?_
  refine kb_put (D := D) (wf := cw h) (w' := (up (up (up (up (up w0 31 0) 32 0) 33 0) 34 0) 35 0)) (ci := 4) (v := .int 0) (ty := .int) (C := "BoilerDesk$Report") (T := TR) (N := 7) hx hb hts inR tyR tyR_ok nmR hown hK hP hD hS 5 rfl rfl 4 (by decide) (hts _ q_204) (fun _ h9 => h9) rfl (by decide +kernel) rfl rfl (Nat.le_of_ble_eq_true rfl) dR_clear_22 rfl (fun H locs hP hD hS => ?_)
  refine lv_aload_n hx hb dR_clear_25 rfl (lv_at hl 0 rfl) ?_
  refine lv_iconst (v := 0) hx hb dR_clear_26 (by decide) ?_
  refine kb_put (D := D) (wf := cw h) (w' := (up (up (up (up (up (up w0 31 0) 32 0) 33 0) 34 0) 35 0) 36 0)) (ci := 4) (v := .int 0) (ty := .int) (C := "BoilerDesk$Report") (T := TR) (N := 7) hx hb hts inR tyR tyR_ok nmR hown hK hP hD hS 5 rfl rfl 5 (by decide) (hts _ q_206) (fun _ h9 => h9) rfl (by decide +kernel) rfl rfl (Nat.le_of_ble_eq_true rfl) dR_clear_27 rfl (fun H locs hP hD hS => ?_)
  refine lv_aload_n hx hb dR_clear_30 rfl (lv_at hl 0 rfl) ?_
  refine lv_iconst (v := 0) hx hb dR_clear_31 (by decide) ?_
  refine kb_put (D := D) (wf := cw h) (w' := (up (up (up (up (up (up (up w0 31 0) 32 0) 33 0) 34 0) 35 0) 36 0) 37 0)) (ci := 4) (v := .int 0) (ty := .boolean) (C := "BoilerDesk$Report") (T := TR) (N := 7) hx hb hts inR tyR tyR_ok nmR hown hK hP hD hS 5 rfl rfl 6 (by decide) (hts _ q_208) (fun _ h9 => h9) rfl (by decide +kernel) rfl rfl (Nat.le_of_ble_eq_true rfl) dR_clear_32 rfl (fun H locs hP hD hS => ?_)
  exact kb_vret (wf := cw h) hx hb hr hlocks hK hP hD hS e.symm dR_clear_35
end
section
/-- BoilerDesk.stopUnlessInitial()V -/
def F_D_stopUnlessInitial (w0 : Nat → Int32)  : Nat → Int32 := (if (w0 0) = (0 : Int32) then w0 else (up w0 0 4))
set_option maxHeartbeats 4000000 in
set_option maxRecDepth 100000 in
theorem c_D_stopUnlessInitial (l : Launch) (D : va_G) (h : Nat → Nat) (sz : Nat) (w0 : Nat → Int32)   : Met l yD_stopUnlessInitial [.code yD_stopUnlessInitial cD_stopUnlessInitial 1 none] ({ frames := 0, cells := 0, slots := 0, locals := 0 }) (va_Pc [.ref (h 0)] (kb_B D [] (cw h) w0 sz)) (va_Qv (fun u' => u' = F_D_stopUnlessInitial w0) (kb_E D [] (cw h) (va_A (cw h w0) sz)) (va_A (cw h w0) sz)) 0 0 (va_A (cw h w0) sz) := by
  refine kb_of (cc := cD_stopUnlessInitial) (maxL := 1) (ret := none) (QcA := fun A => (va_Qv (fun u' => u' = F_D_stopUnlessInitial w0) (kb_E D [] (cw h) A) A)) (by decide) (Nat.le_of_ble_eq_true rfl) ?_
  intro p e s m below meth c A hx hb hr hlocks hml hown hts hA hN hK hP hD ls hl
  have hS : va_S A s.heap s.heap [] := va_S.rf
  have hl : lv_has ls 1 [(0, .ref (h 0))] := hl
  have e : F_D_stopUnlessInitial w0 = F_D_stopUnlessInitial w0 := rfl
  refine lv_aload_n hx hb dD_stopUnlessInitial_0 rfl (lv_at hl 0 rfl) ?_
  refine va_get (D := D) (ci := 0) (v := .int (w0 0)) (C := "BoilerDesk") (T := TD) (N := 13) hx hb hts inD hown hK hP 0 rfl rfl 9 (by decide) (hts _ q_281) (fun _ h9 => h9) rfl dD_stopUnlessInitial_1 ?_
  refine lv_if_eq (tgt := 12) hx hb dD_stopUnlessInitial_4 (by decide) (fun c_1 => ?_) (fun c_1 => ?_)
  · have e := e.trans (if_pos c_1)
    exact kb_vret (wf := cw h) hx hb hr hlocks hK hP hD hS e.symm dD_stopUnlessInitial_12
  · have e := e.trans (if_neg c_1)
    refine lv_aload_n hx hb dD_stopUnlessInitial_7 rfl (lv_at hl 0 rfl) ?_
    refine lv_iconst (v := 4) hx hb dD_stopUnlessInitial_8 (by decide) ?_
    refine kb_put (D := D) (wf := cw h) (w' := (up w0 0 4)) (ci := 0) (v := .int 4) (ty := .int) (C := "BoilerDesk") (T := TD) (N := 13) hx hb hts inD tyD tyD_ok nmD hown hK hP hD hS 0 rfl rfl 9 (by decide) (hts _ q_281) (fun _ h9 => h9) rfl (by decide +kernel) rfl rfl (Nat.le_of_ble_eq_true rfl) dD_stopUnlessInitial_9 rfl (fun H locs hP hD hS => ?_)
    exact kb_vret (wf := cw h) hx hb hr hlocks hK hP hD hS e.symm dD_stopUnlessInitial_12
/-- BoilerDesk.noteWords()V -/
def F_D_noteWords (w0 : Nat → Int32)  : Nat → Int32 := (if (w0 22) = (0 : Int32) then (if (w0 3) = (0 : Int32) then (if (w0 20) = (0 : Int32) then (up (up w0 2 0) 3 0) else (up (up w0 2 0) 3 1)) else (up (up w0 2 0) 3 1)) else (if (w0 3) = (0 : Int32) then (if (w0 20) = (0 : Int32) then (up (up w0 2 ((w0 2) + (1 : Int32))) 3 0) else (up (up w0 2 ((w0 2) + (1 : Int32))) 3 1)) else (up (up w0 2 ((w0 2) + (1 : Int32))) 3 1)))
set_option maxHeartbeats 4000000 in
set_option maxRecDepth 100000 in
theorem c_D_noteWords (l : Launch) (D : va_G) (h : Nat → Nat) (sz : Nat) (w0 : Nat → Int32)   : Met l yD_noteWords [.code yD_noteWords cD_noteWords 1 none] ({ frames := 0, cells := 0, slots := 0, locals := 0 }) (va_Pc [.ref (h 0)] (kb_B D [] (cw h) w0 sz)) (va_Qv (fun u' => u' = F_D_noteWords w0) (kb_E D [] (cw h) (va_A (cw h w0) sz)) (va_A (cw h w0) sz)) 0 0 (va_A (cw h w0) sz) := by
  refine kb_of (cc := cD_noteWords) (maxL := 1) (ret := none) (QcA := fun A => (va_Qv (fun u' => u' = F_D_noteWords w0) (kb_E D [] (cw h) A) A)) (by decide) (Nat.le_of_ble_eq_true rfl) ?_
  intro p e s m below meth c A hx hb hr hlocks hml hown hts hA hN hK hP hD ls hl
  have hS : va_S A s.heap s.heap [] := va_S.rf
  have hl : lv_has ls 1 [(0, .ref (h 0))] := hl
  have e : F_D_noteWords w0 = F_D_noteWords w0 := rfl
  refine lv_aload_n hx hb dD_noteWords_0 rfl (lv_at hl 0 rfl) ?_
  refine lv_aload_n hx hb dD_noteWords_1 rfl (lv_at hl 0 rfl) ?_
  refine va_get (D := D) (ci := 0) (v := .ref (h 2)) (C := "BoilerDesk") (T := TD) (N := 13) hx hb hts inD hown hK hP 0 rfl rfl 1 (by decide) (hts _ q_273) (fun _ h9 => h9) rfl dD_noteWords_2 ?_
  refine va_get (D := D) (ci := 1) (v := .int (w0 22)) (C := "BoilerDesk$Inbox") (T := TI) (N := 12) hx hb hts inI hown hK hP 2 rfl rfl 9 (by decide) (hts _ q_123) (fun _ h9 => h9) rfl dD_noteWords_5 ?_
  refine lv_if_eq (tgt := 20) hx hb dD_noteWords_8 (by decide) (fun c_1 => ?_) (fun c_1 => ?_)
  · have e := e.trans (if_pos c_1)
    refine lv_iconst (v := 0) hx hb dD_noteWords_20 (by decide) ?_
    refine kb_put (D := D) (wf := cw h) (w' := (up w0 2 0)) (ci := 0) (v := .int 0) (ty := .int) (C := "BoilerDesk") (T := TD) (N := 13) hx hb hts inD tyD tyD_ok nmD hown hK hP hD hS 0 rfl rfl 11 (by decide) (hts _ q_283) (fun _ h9 => h9) rfl (by decide +kernel) rfl rfl (Nat.le_of_ble_eq_true rfl) dD_noteWords_21 rfl (fun H locs hP hD hS => ?_)
    refine lv_aload_n hx hb dD_noteWords_24 rfl (lv_at hl 0 rfl) ?_
    refine lv_aload_n hx hb dD_noteWords_25 rfl (lv_at hl 0 rfl) ?_
    refine va_get (D := D) (ci := 0) (v := .int (w0 3)) (C := "BoilerDesk") (T := TD) (N := 13) hx hb hts inD hown hK hP 0 rfl rfl 12 (by decide) (hts _ q_284) (fun _ h9 => h9) rfl dD_noteWords_26 ?_
    refine lv_if_ne (tgt := 42) hx hb dD_noteWords_29 (by decide) (fun c_2 => ?_) (fun c_2 => ?_)
    · have e := e.trans (if_neg c_2)
      refine lv_iconst (v := 1) hx hb dD_noteWords_42 (by decide) ?_
      refine lv_goto (tgt := 47) hx hb dD_noteWords_43 (by decide) ?_
      refine kb_put (D := D) (wf := cw h) (w' := (up (up w0 2 0) 3 1)) (ci := 0) (v := .int 1) (ty := .boolean) (C := "BoilerDesk") (T := TD) (N := 13) hx hb hts inD tyD tyD_ok nmD hown hK hP hD hS 0 rfl rfl 12 (by decide) (hts _ q_284) (fun _ h9 => h9) rfl (by decide +kernel) rfl rfl (Nat.le_of_ble_eq_true rfl) dD_noteWords_47 rfl (fun H locs hP hD hS => ?_)
      exact kb_vret (wf := cw h) hx hb hr hlocks hK hP hD hS e.symm dD_noteWords_50
    · have e := e.trans (if_pos c_2)
      refine lv_aload_n hx hb dD_noteWords_32 rfl (lv_at hl 0 rfl) ?_
      refine va_get (D := D) (ci := 0) (v := .ref (h 2)) (C := "BoilerDesk") (T := TD) (N := 13) hx hb hts inD hown hK hP 0 rfl rfl 1 (by decide) (hts _ q_273) (fun _ h9 => h9) rfl dD_noteWords_33 ?_
      refine va_get (D := D) (ci := 1) (v := .int (w0 20)) (C := "BoilerDesk$Inbox") (T := TI) (N := 12) hx hb hts inI hown hK hP 2 rfl rfl 7 (by decide) (hts _ q_119) (fun _ h9 => h9) rfl dD_noteWords_36 ?_
      refine lv_if_eq (tgt := 46) hx hb dD_noteWords_39 (by decide) (fun c_3 => ?_) (fun c_3 => ?_)
      · have e := e.trans (if_pos c_3)
        refine lv_iconst (v := 0) hx hb dD_noteWords_46 (by decide) ?_
        refine kb_put (D := D) (wf := cw h) (w' := (up (up w0 2 0) 3 0)) (ci := 0) (v := .int 0) (ty := .boolean) (C := "BoilerDesk") (T := TD) (N := 13) hx hb hts inD tyD tyD_ok nmD hown hK hP hD hS 0 rfl rfl 12 (by decide) (hts _ q_284) (fun _ h9 => h9) rfl (by decide +kernel) rfl rfl (Nat.le_of_ble_eq_true rfl) dD_noteWords_47 rfl (fun H locs hP hD hS => ?_)
        exact kb_vret (wf := cw h) hx hb hr hlocks hK hP hD hS e.symm dD_noteWords_50
      · have e := e.trans (if_neg c_3)
        refine lv_iconst (v := 1) hx hb dD_noteWords_42 (by decide) ?_
        refine lv_goto (tgt := 47) hx hb dD_noteWords_43 (by decide) ?_
        refine kb_put (D := D) (wf := cw h) (w' := (up (up w0 2 0) 3 1)) (ci := 0) (v := .int 1) (ty := .boolean) (C := "BoilerDesk") (T := TD) (N := 13) hx hb hts inD tyD tyD_ok nmD hown hK hP hD hS 0 rfl rfl 12 (by decide) (hts _ q_284) (fun _ h9 => h9) rfl (by decide +kernel) rfl rfl (Nat.le_of_ble_eq_true rfl) dD_noteWords_47 rfl (fun H locs hP hD hS => ?_)
        exact kb_vret (wf := cw h) hx hb hr hlocks hK hP hD hS e.symm dD_noteWords_50
  · have e := e.trans (if_neg c_1)
    refine lv_aload_n hx hb dD_noteWords_11 rfl (lv_at hl 0 rfl) ?_
    refine va_get (D := D) (ci := 0) (v := .int (w0 2)) (C := "BoilerDesk") (T := TD) (N := 13) hx hb hts inD hown hK hP 0 rfl rfl 11 (by decide) (hts _ q_283) (fun _ h9 => h9) rfl dD_noteWords_12 ?_
    refine lv_iconst (v := 1) hx hb dD_noteWords_15 (by decide) ?_
    refine lv_iadd hx hb dD_noteWords_16 ?_
    refine lv_goto (tgt := 21) hx hb dD_noteWords_17 (by decide) ?_
    refine kb_put (D := D) (wf := cw h) (w' := (up w0 2 ((w0 2) + (1 : Int32)))) (ci := 0) (v := .int ((w0 2) + (1 : Int32))) (ty := .int) (C := "BoilerDesk") (T := TD) (N := 13) hx hb hts inD tyD tyD_ok nmD hown hK hP hD hS 0 rfl rfl 11 (by decide) (hts _ q_283) (fun _ h9 => h9) rfl (by decide +kernel) rfl rfl (Nat.le_of_ble_eq_true rfl) dD_noteWords_21 rfl (fun H locs hP hD hS => ?_)
    refine lv_aload_n hx hb dD_noteWords_24 rfl (lv_at hl 0 rfl) ?_
    refine lv_aload_n hx hb dD_noteWords_25 rfl (lv_at hl 0 rfl) ?_
    refine va_get (D := D) (ci := 0) (v := .int (w0 3)) (C := "BoilerDesk") (T := TD) (N := 13) hx hb hts inD hown hK hP 0 rfl rfl 12 (by decide) (hts _ q_284) (fun _ h9 => h9) rfl dD_noteWords_26 ?_
    refine lv_if_ne (tgt := 42) hx hb dD_noteWords_29 (by decide) (fun c_4 => ?_) (fun c_4 => ?_)
    · have e := e.trans (if_neg c_4)
      refine lv_iconst (v := 1) hx hb dD_noteWords_42 (by decide) ?_
      refine lv_goto (tgt := 47) hx hb dD_noteWords_43 (by decide) ?_
      refine kb_put (D := D) (wf := cw h) (w' := (up (up w0 2 ((w0 2) + (1 : Int32))) 3 1)) (ci := 0) (v := .int 1) (ty := .boolean) (C := "BoilerDesk") (T := TD) (N := 13) hx hb hts inD tyD tyD_ok nmD hown hK hP hD hS 0 rfl rfl 12 (by decide) (hts _ q_284) (fun _ h9 => h9) rfl (by decide +kernel) rfl rfl (Nat.le_of_ble_eq_true rfl) dD_noteWords_47 rfl (fun H locs hP hD hS => ?_)
      exact kb_vret (wf := cw h) hx hb hr hlocks hK hP hD hS e.symm dD_noteWords_50
    · have e := e.trans (if_pos c_4)
      refine lv_aload_n hx hb dD_noteWords_32 rfl (lv_at hl 0 rfl) ?_
      refine va_get (D := D) (ci := 0) (v := .ref (h 2)) (C := "BoilerDesk") (T := TD) (N := 13) hx hb hts inD hown hK hP 0 rfl rfl 1 (by decide) (hts _ q_273) (fun _ h9 => h9) rfl dD_noteWords_33 ?_
      refine va_get (D := D) (ci := 1) (v := .int (w0 20)) (C := "BoilerDesk$Inbox") (T := TI) (N := 12) hx hb hts inI hown hK hP 2 rfl rfl 7 (by decide) (hts _ q_119) (fun _ h9 => h9) rfl dD_noteWords_36 ?_
      refine lv_if_eq (tgt := 46) hx hb dD_noteWords_39 (by decide) (fun c_5 => ?_) (fun c_5 => ?_)
      · have e := e.trans (if_pos c_5)
        refine lv_iconst (v := 0) hx hb dD_noteWords_46 (by decide) ?_
        refine kb_put (D := D) (wf := cw h) (w' := (up (up w0 2 ((w0 2) + (1 : Int32))) 3 0)) (ci := 0) (v := .int 0) (ty := .boolean) (C := "BoilerDesk") (T := TD) (N := 13) hx hb hts inD tyD tyD_ok nmD hown hK hP hD hS 0 rfl rfl 12 (by decide) (hts _ q_284) (fun _ h9 => h9) rfl (by decide +kernel) rfl rfl (Nat.le_of_ble_eq_true rfl) dD_noteWords_47 rfl (fun H locs hP hD hS => ?_)
        exact kb_vret (wf := cw h) hx hb hr hlocks hK hP hD hS e.symm dD_noteWords_50
      · have e := e.trans (if_neg c_5)
        refine lv_iconst (v := 1) hx hb dD_noteWords_42 (by decide) ?_
        refine lv_goto (tgt := 47) hx hb dD_noteWords_43 (by decide) ?_
        refine kb_put (D := D) (wf := cw h) (w' := (up (up w0 2 ((w0 2) + (1 : Int32))) 3 1)) (ci := 0) (v := .int 1) (ty := .boolean) (C := "BoilerDesk") (T := TD) (N := 13) hx hb hts inD tyD tyD_ok nmD hown hK hP hD hS 0 rfl rfl 12 (by decide) (hts _ q_284) (fun _ h9 => h9) rfl (by decide +kernel) rfl rfl (Nat.le_of_ble_eq_true rfl) dD_noteWords_47 rfl (fun H locs hP hD hS => ?_)
        exact kb_vret (wf := cw h) hx hb hr hlocks hK hP hD hS e.symm dD_noteWords_50
/-- BoilerDesk.startAnew()V -/
def F_D_startAnew (w0 : Nat → Int32)  : Nat → Int32 := (F_S_put_7 (F_S_put_6 (F_R_clear (F_M_clear (F_U_clear (F_I_clear (up (up (up (up w0 0 0) 1 0) 2 0) 3 0))))) (0 : Int32) (F_R_clear (F_M_clear (F_U_clear (F_I_clear (up (up (up (up w0 0 0) 1 0) 2 0) 3 0)))) 4)) (0 : Int32) (F_S_put_6 (F_R_clear (F_M_clear (F_U_clear (F_I_clear (up (up (up (up w0 0 0) 1 0) 2 0) 3 0))))) (0 : Int32) (F_R_clear (F_M_clear (F_U_clear (F_I_clear (up (up (up (up w0 0 0) 1 0) 2 0) 3 0)))) 4) 9))
set_option maxHeartbeats 4000000 in
set_option maxRecDepth 100000 in
theorem c_D_startAnew (l : Launch) (D : va_G) (h : Nat → Nat) (sz : Nat) (w0 : Nat → Int32)   : Met l yD_startAnew [.code yD_startAnew cD_startAnew 1 none] ({ frames := 1, cells := 0, slots := 0, locals := 22 }) (va_Pc [.ref (h 0)] (kb_B D [] (cw h) w0 sz)) (va_Qv (fun u' => u' = F_D_startAnew w0) (kb_E D [] (cw h) (va_A (cw h w0) sz)) (va_A (cw h w0) sz)) 0 0 (va_A (cw h w0) sz) := by
  refine kb_of (cc := cD_startAnew) (maxL := 1) (ret := none) (QcA := fun A => (va_Qv (fun u' => u' = F_D_startAnew w0) (kb_E D [] (cw h) A) A)) (by decide) (Nat.le_of_ble_eq_true rfl) ?_
  intro p e s m below meth c A hx hb hr hlocks hml hown hts hA hN hK hP hD ls hl
  have hS : va_S A s.heap s.heap [] := va_S.rf
  have hl : lv_has ls 1 [(0, .ref (h 0))] := hl
  have e : F_D_startAnew w0 = F_D_startAnew w0 := rfl
  refine lv_aload_n hx hb dD_startAnew_0 rfl (lv_at hl 0 rfl) ?_
  refine lv_iconst (v := 0) hx hb dD_startAnew_1 (by decide) ?_
  refine kb_put (D := D) (wf := cw h) (w' := (up w0 0 0)) (ci := 0) (v := .int 0) (ty := .int) (C := "BoilerDesk") (T := TD) (N := 13) hx hb hts inD tyD tyD_ok nmD hown hK hP hD hS 0 rfl rfl 9 (by decide) (hts _ q_281) (fun _ h9 => h9) rfl (by decide +kernel) rfl rfl (Nat.le_of_ble_eq_true rfl) dD_startAnew_2 rfl (fun H locs hP hD hS => ?_)
  refine lv_aload_n hx hb dD_startAnew_5 rfl (lv_at hl 0 rfl) ?_
  refine lv_iconst (v := 0) hx hb dD_startAnew_6 (by decide) ?_
  refine kb_put (D := D) (wf := cw h) (w' := (up (up w0 0 0) 1 0)) (ci := 0) (v := .int 0) (ty := .int) (C := "BoilerDesk") (T := TD) (N := 13) hx hb hts inD tyD tyD_ok nmD hown hK hP hD hS 0 rfl rfl 10 (by decide) (hts _ q_282) (fun _ h9 => h9) rfl (by decide +kernel) rfl rfl (Nat.le_of_ble_eq_true rfl) dD_startAnew_7 rfl (fun H locs hP hD hS => ?_)
  refine lv_aload_n hx hb dD_startAnew_10 rfl (lv_at hl 0 rfl) ?_
  refine lv_iconst (v := 0) hx hb dD_startAnew_11 (by decide) ?_
  refine kb_put (D := D) (wf := cw h) (w' := (up (up (up w0 0 0) 1 0) 2 0)) (ci := 0) (v := .int 0) (ty := .int) (C := "BoilerDesk") (T := TD) (N := 13) hx hb hts inD tyD tyD_ok nmD hown hK hP hD hS 0 rfl rfl 11 (by decide) (hts _ q_283) (fun _ h9 => h9) rfl (by decide +kernel) rfl rfl (Nat.le_of_ble_eq_true rfl) dD_startAnew_12 rfl (fun H locs hP hD hS => ?_)
  refine lv_aload_n hx hb dD_startAnew_15 rfl (lv_at hl 0 rfl) ?_
  refine lv_iconst (v := 0) hx hb dD_startAnew_16 (by decide) ?_
  refine kb_put (D := D) (wf := cw h) (w' := (up (up (up (up w0 0 0) 1 0) 2 0) 3 0)) (ci := 0) (v := .int 0) (ty := .boolean) (C := "BoilerDesk") (T := TD) (N := 13) hx hb hts inD tyD tyD_ok nmD hown hK hP hD hS 0 rfl rfl 12 (by decide) (hts _ q_284) (fun _ h9 => h9) rfl (by decide +kernel) rfl rfl (Nat.le_of_ble_eq_true rfl) dD_startAnew_17 rfl (fun H locs hP hD hS => ?_)
  refine lv_aload_n hx hb dD_startAnew_20 rfl (lv_at hl 0 rfl) ?_
  refine va_get (D := D) (ci := 0) (v := .ref (h 2)) (C := "BoilerDesk") (T := TD) (N := 13) hx hb hts inD hown hK hP 0 rfl rfl 1 (by decide) (hts _ q_273) (fun _ h9 => h9) rfl dD_startAnew_21 ?_
  refine kb_callv (wf := cw h) (u := F_I_clear (up (up (up (up w0 0 0) 1 0) 2 0) 3 0)) (va_runV (As := []) (rest := []) ⟨hx, hb, hml, hown, hts⟩ (c_I_clear l D h _ (up (up (up (up w0 0 0) 1 0) 2 0) 3 0)) (cwV 0 hts (gd_V q_252 q_253 q_254 q_35 q_255) rfl rfl rfl (by decide +kernel) ⟨Nat.le_of_ble_eq_true rfl, Nat.le_of_ble_eq_true rfl⟩) (kb_preV hN hK hP hD (va_recv hK hP (ci := 1) (q0 := 2) rfl rfl)) rfl rfl hl.1 rfl (lv_room (Nat.le_of_ble_eq_true rfl)) dD_startAnew_24 ⟨Nat.zero_le _, Nat.zero_le _⟩) hP hD hS hA (fun H locs hP hD hS => ?_)
  refine lv_aload_n hx hb dD_startAnew_27 rfl (lv_at hl 0 rfl) ?_
  refine va_get (D := D) (ci := 0) (v := .ref (h 3)) (C := "BoilerDesk") (T := TD) (N := 13) hx hb hts inD hown hK hP 0 rfl rfl 2 (by decide) (hts _ q_274) (fun _ h9 => h9) rfl dD_startAnew_28 ?_
  refine kb_callv (wf := cw h) (u := F_U_clear (F_I_clear (up (up (up (up w0 0 0) 1 0) 2 0) 3 0))) (va_runV (As := []) (rest := []) ⟨hx, hb, hml, hown, hts⟩ (c_U_clear l D h _ (F_I_clear (up (up (up (up w0 0 0) 1 0) 2 0) 3 0))) (cwV 0 hts (gd_V q_256 q_257 q_258 q_36 q_259) rfl rfl rfl (by decide +kernel) ⟨Nat.le_of_ble_eq_true rfl, Nat.le_of_ble_eq_true rfl⟩) (kb_preV hN hK hP hD (va_recv hK hP (ci := 6) (q0 := 3) rfl rfl)) rfl rfl hl.1 rfl (lv_room (Nat.le_of_ble_eq_true rfl)) dD_startAnew_31 ⟨Nat.zero_le _, Nat.zero_le _⟩) hP hD hS hA (fun H locs hP hD hS => ?_)
  refine lv_aload_n hx hb dD_startAnew_34 rfl (lv_at hl 0 rfl) ?_
  refine va_get (D := D) (ci := 0) (v := .ref (h 4)) (C := "BoilerDesk") (T := TD) (N := 13) hx hb hts inD hown hK hP 0 rfl rfl 3 (by decide) (hts _ q_275) (fun _ h9 => h9) rfl dD_startAnew_35 ?_
  refine kb_callv (wf := cw h) (u := F_M_clear (F_U_clear (F_I_clear (up (up (up (up w0 0 0) 1 0) 2 0) 3 0)))) (va_runV (As := []) (rest := []) ⟨hx, hb, hml, hown, hts⟩ (c_M_clear l D h _ (F_U_clear (F_I_clear (up (up (up (up w0 0 0) 1 0) 2 0) 3 0)))) (cwV 0 hts (gd_V q_260 q_261 q_262 q_37 q_263) rfl rfl rfl (by decide +kernel) ⟨Nat.le_of_ble_eq_true rfl, Nat.le_of_ble_eq_true rfl⟩) (kb_preV hN hK hP hD (va_recv hK hP (ci := 2) (q0 := 4) rfl rfl)) rfl rfl hl.1 rfl (lv_room (Nat.le_of_ble_eq_true rfl)) dD_startAnew_38 ⟨Nat.zero_le _, Nat.zero_le _⟩) hP hD hS hA (fun H locs hP hD hS => ?_)
  refine lv_aload_n hx hb dD_startAnew_41 rfl (lv_at hl 0 rfl) ?_
  refine va_get (D := D) (ci := 0) (v := .ref (h 5)) (C := "BoilerDesk") (T := TD) (N := 13) hx hb hts inD hown hK hP 0 rfl rfl 4 (by decide) (hts _ q_276) (fun _ h9 => h9) rfl dD_startAnew_42 ?_
  refine kb_callv (wf := cw h) (u := F_R_clear (F_M_clear (F_U_clear (F_I_clear (up (up (up (up w0 0 0) 1 0) 2 0) 3 0))))) (va_runV (As := []) (rest := []) ⟨hx, hb, hml, hown, hts⟩ (c_R_clear l D h _ (F_M_clear (F_U_clear (F_I_clear (up (up (up (up w0 0 0) 1 0) 2 0) 3 0))))) (cwV 0 hts (gd_V q_264 q_265 q_266 q_38 q_267) rfl rfl rfl (by decide +kernel) ⟨Nat.le_of_ble_eq_true rfl, Nat.le_of_ble_eq_true rfl⟩) (kb_preV hN hK hP hD (va_recv hK hP (ci := 4) (q0 := 5) rfl rfl)) rfl rfl hl.1 rfl (lv_room (Nat.le_of_ble_eq_true rfl)) dD_startAnew_45 ⟨Nat.zero_le _, Nat.zero_le _⟩) hP hD hS hA (fun H locs hP hD hS => ?_)
  refine lv_aload_n hx hb dD_startAnew_48 rfl (lv_at hl 0 rfl) ?_
  refine va_get (D := D) (ci := 0) (v := .ref (h 6)) (C := "BoilerDesk") (T := TD) (N := 13) hx hb hts inD hown hK hP 0 rfl rfl 5 (by decide) (hts _ q_277) (fun _ h9 => h9) rfl dD_startAnew_49 ?_
  refine lv_iconst (v := 0) hx hb dD_startAnew_52 (by decide) ?_
  refine lv_aload_n hx hb dD_startAnew_53 rfl (lv_at hl 0 rfl) ?_
  refine va_get (D := D) (ci := 0) (v := .ref (h 1)) (C := "BoilerDesk") (T := TD) (N := 13) hx hb hts inD hown hK hP 0 rfl rfl 0 (by decide) (hts _ q_272) (fun _ h9 => h9) rfl dD_startAnew_54 ?_
  refine va_get (D := D) (ci := 3) (v := .int (F_R_clear (F_M_clear (F_U_clear (F_I_clear (up (up (up (up w0 0 0) 1 0) 2 0) 3 0)))) 4)) (C := "BoilerDesk$Plant") (T := TP) (N := 9) hx hb hts inP hown hK hP 1 rfl rfl 0 (by decide) (hts _ q_63) (fun _ h9 => h9) rfl dD_startAnew_57 ?_
  refine kb_callv (wf := cw h) (u := F_S_put_6 (F_R_clear (F_M_clear (F_U_clear (F_I_clear (up (up (up (up w0 0 0) 1 0) 2 0) 3 0))))) (0 : Int32) (F_R_clear (F_M_clear (F_U_clear (F_I_clear (up (up (up (up w0 0 0) 1 0) 2 0) 3 0)))) 4)) (va_runV (As := [.int 0, .int (F_R_clear (F_M_clear (F_U_clear (F_I_clear (up (up (up (up w0 0 0) 1 0) 2 0) 3 0)))) 4)]) (rest := []) ⟨hx, hb, hml, hown, hts⟩ (c_S_put_6 l D h _ (F_R_clear (F_M_clear (F_U_clear (F_I_clear (up (up (up (up w0 0 0) 1 0) 2 0) 3 0))))) (0 : Int32) (F_R_clear (F_M_clear (F_U_clear (F_I_clear (up (up (up (up w0 0 0) 1 0) 2 0) 3 0)))) 4)) (cwV 2 hts (gd_V q_268 q_269 q_270 q_39 q_271) rfl rfl rfl (by decide +kernel) ⟨Nat.le_of_ble_eq_true rfl, Nat.le_of_ble_eq_true rfl⟩) (kb_preV hN hK hP hD (va_recv hK hP (ci := 5) (q0 := 6) rfl rfl)) rfl rfl hl.1 rfl (lv_room (Nat.le_of_ble_eq_true rfl)) dD_startAnew_60 ⟨Nat.zero_le _, Nat.zero_le _⟩) hP hD hS hA (fun H locs hP hD hS => ?_)
  refine lv_aload_n hx hb dD_startAnew_63 rfl (lv_at hl 0 rfl) ?_
  refine va_get (D := D) (ci := 0) (v := .ref (h 7)) (C := "BoilerDesk") (T := TD) (N := 13) hx hb hts inD hown hK hP 0 rfl rfl 6 (by decide) (hts _ q_278) (fun _ h9 => h9) rfl dD_startAnew_64 ?_
  refine lv_iconst (v := 0) hx hb dD_startAnew_67 (by decide) ?_
  refine lv_aload_n hx hb dD_startAnew_68 rfl (lv_at hl 0 rfl) ?_
  refine va_get (D := D) (ci := 0) (v := .ref (h 1)) (C := "BoilerDesk") (T := TD) (N := 13) hx hb hts inD hown hK hP 0 rfl rfl 0 (by decide) (hts _ q_272) (fun _ h9 => h9) rfl dD_startAnew_69 ?_
  refine va_get (D := D) (ci := 3) (v := .int (F_S_put_6 (F_R_clear (F_M_clear (F_U_clear (F_I_clear (up (up (up (up w0 0 0) 1 0) 2 0) 3 0))))) (0 : Int32) (F_R_clear (F_M_clear (F_U_clear (F_I_clear (up (up (up (up w0 0 0) 1 0) 2 0) 3 0)))) 4) 9)) (C := "BoilerDesk$Plant") (T := TP) (N := 9) hx hb hts inP hown hK hP 1 rfl rfl 5 (by decide) (hts _ q_73) (fun _ h9 => h9) rfl dD_startAnew_72 ?_
  refine kb_callv (wf := cw h) (u := F_S_put_7 (F_S_put_6 (F_R_clear (F_M_clear (F_U_clear (F_I_clear (up (up (up (up w0 0 0) 1 0) 2 0) 3 0))))) (0 : Int32) (F_R_clear (F_M_clear (F_U_clear (F_I_clear (up (up (up (up w0 0 0) 1 0) 2 0) 3 0)))) 4)) (0 : Int32) (F_S_put_6 (F_R_clear (F_M_clear (F_U_clear (F_I_clear (up (up (up (up w0 0 0) 1 0) 2 0) 3 0))))) (0 : Int32) (F_R_clear (F_M_clear (F_U_clear (F_I_clear (up (up (up (up w0 0 0) 1 0) 2 0) 3 0)))) 4) 9)) (va_runV (As := [.int 0, .int (F_S_put_6 (F_R_clear (F_M_clear (F_U_clear (F_I_clear (up (up (up (up w0 0 0) 1 0) 2 0) 3 0))))) (0 : Int32) (F_R_clear (F_M_clear (F_U_clear (F_I_clear (up (up (up (up w0 0 0) 1 0) 2 0) 3 0)))) 4) 9)]) (rest := []) ⟨hx, hb, hml, hown, hts⟩ (c_S_put_7 l D h _ (F_S_put_6 (F_R_clear (F_M_clear (F_U_clear (F_I_clear (up (up (up (up w0 0 0) 1 0) 2 0) 3 0))))) (0 : Int32) (F_R_clear (F_M_clear (F_U_clear (F_I_clear (up (up (up (up w0 0 0) 1 0) 2 0) 3 0)))) 4)) (0 : Int32) (F_S_put_6 (F_R_clear (F_M_clear (F_U_clear (F_I_clear (up (up (up (up w0 0 0) 1 0) 2 0) 3 0))))) (0 : Int32) (F_R_clear (F_M_clear (F_U_clear (F_I_clear (up (up (up (up w0 0 0) 1 0) 2 0) 3 0)))) 4) 9)) (cwV 2 hts (gd_V q_268 q_269 q_270 q_39 q_271) rfl rfl rfl (by decide +kernel) ⟨Nat.le_of_ble_eq_true rfl, Nat.le_of_ble_eq_true rfl⟩) (kb_preV hN hK hP hD (va_recv hK hP (ci := 5) (q0 := 7) rfl rfl)) rfl rfl hl.1 rfl (lv_room (Nat.le_of_ble_eq_true rfl)) dD_startAnew_75 ⟨Nat.zero_le _, Nat.zero_le _⟩) hP hD hS hA (fun H locs hP hD hS => ?_)
  exact kb_vret (wf := cw h) hx hb hr hlocks hK hP hD hS e.symm dD_startAnew_78
/-- BoilerDesk.detect(I)V -/
def F_D_detect (w0 : Nat → Int32) (a1 : Int32) : Nat → Int32 := (if (F_U_hasFailed w0 a1) = (0 : Int32) then (up (F_U_fail w0 a1) 35 (F_D_withBit (F_U_fail w0 a1 35) a1 (1 : Int32))) else w0)
set_option maxHeartbeats 4000000 in
set_option maxRecDepth 100000 in
theorem c_D_detect (l : Launch) (D : va_G) (h : Nat → Nat) (sz : Nat) (w0 : Nat → Int32) (a1 : Int32)  : Met l yD_detect [.code yD_detect cD_detect 2 none] ({ frames := 2, cells := 0, slots := 0, locals := 43 }) (va_Pc [.ref (h 0), .int a1] (kb_B D [] (cw h) w0 sz)) (va_Qv (fun u' => u' = F_D_detect w0 a1) (kb_E D [] (cw h) (va_A (cw h w0) sz)) (va_A (cw h w0) sz)) 0 0 (va_A (cw h w0) sz) := by
  refine kb_of (cc := cD_detect) (maxL := 2) (ret := none) (QcA := fun A => (va_Qv (fun u' => u' = F_D_detect w0 a1) (kb_E D [] (cw h) A) A)) (by decide) (Nat.le_of_ble_eq_true rfl) ?_
  intro p e s m below meth c A hx hb hr hlocks hml hown hts hA hN hK hP hD ls hl
  have hS : va_S A s.heap s.heap [] := va_S.rf
  have hl : lv_has ls 2 [(0, .ref (h 0)), (1, .int a1)] := hl
  have e : F_D_detect w0 a1 = F_D_detect w0 a1 := rfl
  refine lv_aload_n hx hb dD_detect_0 rfl (lv_at hl 0 rfl) ?_
  refine va_get (D := D) (ci := 0) (v := .ref (h 3)) (C := "BoilerDesk") (T := TD) (N := 13) hx hb hts inD hown hK hP 0 rfl rfl 2 (by decide) (hts _ q_274) (fun _ h9 => h9) rfl dD_detect_1 ?_
  refine lv_iload_n hx hb dD_detect_4 rfl (lv_at hl 1 rfl) ?_
  refine kb_calli (wf := cw h) (r := (F_U_hasFailed w0 a1)) (u := w0) (va_runV (As := [.int a1]) (rest := []) ⟨hx, hb, hml, hown, hts⟩ (c_U_hasFailed l D h _ w0 a1) (cwV 1 hts (gd_V q_476 q_477 q_478 q_36 q_479) rfl rfl rfl (by decide +kernel) ⟨Nat.le_of_ble_eq_true rfl, Nat.le_of_ble_eq_true rfl⟩) (kb_preV hN hK hP hD (va_recv hK hP (ci := 6) (q0 := 3) rfl rfl)) rfl rfl hl.1 rfl (lv_room (Nat.le_of_ble_eq_true rfl)) dD_detect_5 ⟨Nat.zero_le _, Nat.zero_le _⟩) hP hD hS hA (fun H locs hP hD hS => ?_)
  refine lv_if_ne (tgt := 38) hx hb dD_detect_8 (by decide) (fun c_1 => ?_) (fun c_1 => ?_)
  · have e := e.trans (if_neg c_1)
    exact kb_vret (wf := cw h) hx hb hr hlocks hK hP hD hS e.symm dD_detect_38
  · have e := e.trans (if_pos c_1)
    refine lv_aload_n hx hb dD_detect_11 rfl (lv_at hl 0 rfl) ?_
    refine va_get (D := D) (ci := 0) (v := .ref (h 3)) (C := "BoilerDesk") (T := TD) (N := 13) hx hb hts inD hown hK hP 0 rfl rfl 2 (by decide) (hts _ q_274) (fun _ h9 => h9) rfl dD_detect_12 ?_
    refine lv_iload_n hx hb dD_detect_15 rfl (lv_at hl 1 rfl) ?_
    refine kb_callv (wf := cw h) (u := F_U_fail w0 a1) (va_runV (As := [.int a1]) (rest := []) ⟨hx, hb, hml, hown, hts⟩ (c_U_fail l D h _ w0 a1) (cwV 1 hts (gd_V q_552 q_553 q_554 q_36 q_555) rfl rfl rfl (by decide +kernel) ⟨Nat.le_of_ble_eq_true rfl, Nat.le_of_ble_eq_true rfl⟩) (kb_preV hN hK hP hD (va_recv hK hP (ci := 6) (q0 := 3) rfl rfl)) rfl rfl hl.1 rfl (lv_room (Nat.le_of_ble_eq_true rfl)) dD_detect_16 ⟨Nat.zero_le _, Nat.zero_le _⟩) hP hD hS hA (fun H locs hP hD hS => ?_)
    refine lv_aload_n hx hb dD_detect_19 rfl (lv_at hl 0 rfl) ?_
    refine va_get (D := D) (ci := 0) (v := .ref (h 5)) (C := "BoilerDesk") (T := TD) (N := 13) hx hb hts inD hown hK hP 0 rfl rfl 4 (by decide) (hts _ q_276) (fun _ h9 => h9) rfl dD_detect_20 ?_
    refine lv_aload_n hx hb dD_detect_23 rfl (lv_at hl 0 rfl) ?_
    refine va_get (D := D) (ci := 0) (v := .ref (h 5)) (C := "BoilerDesk") (T := TD) (N := 13) hx hb hts inD hown hK hP 0 rfl rfl 4 (by decide) (hts _ q_276) (fun _ h9 => h9) rfl dD_detect_24 ?_
    refine va_get (D := D) (ci := 4) (v := .int (F_U_fail w0 a1 35)) (C := "BoilerDesk$Report") (T := TR) (N := 7) hx hb hts inR hown hK hP 5 rfl rfl 4 (by decide) (hts _ q_205) (fun _ h9 => h9) rfl dD_detect_27 ?_
    refine lv_iload_n hx hb dD_detect_30 rfl (lv_at hl 1 rfl) ?_
    refine lv_iconst (v := 1) hx hb dD_detect_31 (by decide) ?_
    refine kb_call0 (r := (F_D_withBit (F_U_fail w0 a1 35) a1 (1 : Int32))) (va_runS (As := [.int (F_U_fail w0 a1 35), .int a1, .int 1]) (rest := [.ref (h 5)]) ⟨hx, hb, hml, hown, hts⟩ (c_D_withBit l D _ (F_U_fail w0 a1 35) a1 (1 : Int32) (by decide)) (va_cwS 3 hts (gd_S q_414 q_415 q_33 q_416) rfl rfl rfl (by decide +kernel) ⟨Nat.le_of_ble_eq_true rfl, Nat.le_of_ble_eq_true rfl⟩) (kb_pre0 hN hK) rfl rfl hl.1 rfl (lv_room (Nat.le_of_ble_eq_true rfl)) dD_detect_32 ⟨Nat.zero_le _, Nat.zero_le _⟩) hP hS hA (fun H locs hP hS => ?_)
    refine kb_put (D := D) (wf := cw h) (w' := (up (F_U_fail w0 a1) 35 (F_D_withBit (F_U_fail w0 a1 35) a1 (1 : Int32)))) (ci := 4) (v := .int (F_D_withBit (F_U_fail w0 a1 35) a1 (1 : Int32))) (ty := .int) (C := "BoilerDesk$Report") (T := TR) (N := 7) hx hb hts inR tyR tyR_ok nmR hown hK hP hD hS 5 rfl rfl 4 (by decide) (hts _ q_205) (fun _ h9 => h9) rfl (by decide +kernel) rfl rfl (Nat.le_of_ble_eq_true rfl) dD_detect_35 rfl (fun H locs hP hD hS => ?_)
    exact kb_vret (wf := cw h) hx hb hr hlocks hK hP hD hS e.symm dD_detect_38
/-- BoilerDesk.isToldWrongly(I)Z -/
def F_D_isToldWrongly (w0 : Nat → Int32) (a1 : Int32) : Int32 := (if (F_D_hasBit (w0 19) a1) = (0 : Int32) then (F_D_hasBit ((w0 27) &&& (w0 28)) a1) else (if (F_D_hasBit (w0 27) a1) = (0 : Int32) then (1 : Int32) else (0 : Int32)))
set_option maxHeartbeats 4000000 in
set_option maxRecDepth 100000 in
theorem c_D_isToldWrongly (l : Launch) (D : va_G) (h : Nat → Nat) (sz : Nat) (w0 : Nat → Int32) (a1 : Int32)  : Met l yD_isToldWrongly [.code yD_isToldWrongly cD_isToldWrongly 2 (some .boolean)] ({ frames := 1, cells := 0, slots := 0, locals := 21 }) (va_Pc [.ref (h 0), .int a1] (kb_B D [] (cw h) w0 sz)) (va_Qi (fun r' u' => r' = F_D_isToldWrongly w0 a1 ∧ u' = w0) (kb_E D [] (cw h) (va_A (cw h w0) sz)) (va_A (cw h w0) sz)) 0 0 (va_A (cw h w0) sz) := by
  refine kb_of (cc := cD_isToldWrongly) (maxL := 2) (ret := (some .boolean)) (QcA := fun A => (va_Qi (fun r' u' => r' = F_D_isToldWrongly w0 a1 ∧ u' = w0) (kb_E D [] (cw h) A) A)) (by decide) (Nat.le_of_ble_eq_true rfl) ?_
  intro p e s m below meth c A hx hb hr hlocks hml hown hts hA hN hK hP hD ls hl
  have hS : va_S A s.heap s.heap [] := va_S.rf
  have hl : lv_has ls 2 [(0, .ref (h 0)), (1, .int a1)] := hl
  have e : F_D_isToldWrongly w0 a1 = F_D_isToldWrongly w0 a1 := rfl
  refine lv_aload_n hx hb dD_isToldWrongly_0 rfl (lv_at hl 0 rfl) ?_
  refine va_get (D := D) (ci := 0) (v := .ref (h 2)) (C := "BoilerDesk") (T := TD) (N := 13) hx hb hts inD hown hK hP 0 rfl rfl 1 (by decide) (hts _ q_273) (fun _ h9 => h9) rfl dD_isToldWrongly_1 ?_
  refine va_get (D := D) (ci := 1) (v := .int (w0 19)) (C := "BoilerDesk$Inbox") (T := TI) (N := 12) hx hb hts inI hown hK hP 2 rfl rfl 6 (by decide) (hts _ q_117) (fun _ h9 => h9) rfl dD_isToldWrongly_4 ?_
  refine lv_iload_n hx hb dD_isToldWrongly_7 rfl (lv_at hl 1 rfl) ?_
  refine kb_call0 (r := (F_D_hasBit (w0 19) a1)) (va_runS (As := [.int (w0 19), .int a1]) (rest := []) ⟨hx, hb, hml, hown, hts⟩ (c_D_hasBit l D _ (w0 19) a1) (va_cwS 2 hts (gd_S q_473 q_474 q_33 q_475) rfl rfl rfl (by decide +kernel) ⟨Nat.le_of_ble_eq_true rfl, Nat.le_of_ble_eq_true rfl⟩) (kb_pre0 hN hK) rfl rfl hl.1 rfl (lv_room (Nat.le_of_ble_eq_true rfl)) dD_isToldWrongly_8 ⟨Nat.zero_le _, Nat.zero_le _⟩) hP hS hA (fun H locs hP hS => ?_)
  refine lv_if_eq (tgt := 36) hx hb dD_isToldWrongly_11 (by decide) (fun c_1 => ?_) (fun c_1 => ?_)
  · have e := e.trans (if_pos c_1)
    refine lv_aload_n hx hb dD_isToldWrongly_36 rfl (lv_at hl 0 rfl) ?_
    refine va_get (D := D) (ci := 0) (v := .ref (h 4)) (C := "BoilerDesk") (T := TD) (N := 13) hx hb hts inD hown hK hP 0 rfl rfl 3 (by decide) (hts _ q_275) (fun _ h9 => h9) rfl dD_isToldWrongly_37 ?_
    refine va_get (D := D) (ci := 2) (v := .int (w0 27)) (C := "BoilerDesk$Machines") (T := TM) (N := 4) hx hb hts inM hown hK hP 4 rfl rfl 0 (by decide) (hts _ q_175) (fun _ h9 => h9) rfl dD_isToldWrongly_40 ?_
    refine lv_aload_n hx hb dD_isToldWrongly_43 rfl (lv_at hl 0 rfl) ?_
    refine va_get (D := D) (ci := 0) (v := .ref (h 4)) (C := "BoilerDesk") (T := TD) (N := 13) hx hb hts inD hown hK hP 0 rfl rfl 3 (by decide) (hts _ q_275) (fun _ h9 => h9) rfl dD_isToldWrongly_44 ?_
    refine va_get (D := D) (ci := 2) (v := .int (w0 28)) (C := "BoilerDesk$Machines") (T := TM) (N := 4) hx hb hts inM hown hK hP 4 rfl rfl 1 (by decide) (hts _ q_177) (fun _ h9 => h9) rfl dD_isToldWrongly_47 ?_
    refine lv_iand hx hb dD_isToldWrongly_50 ?_
    refine lv_iload_n hx hb dD_isToldWrongly_51 rfl (lv_at hl 1 rfl) ?_
    refine kb_call0 (r := (F_D_hasBit ((w0 27) &&& (w0 28)) a1)) (va_runS (As := [.int ((w0 27) &&& (w0 28)), .int a1]) (rest := []) ⟨hx, hb, hml, hown, hts⟩ (c_D_hasBit l D _ ((w0 27) &&& (w0 28)) a1) (va_cwS 2 hts (gd_S q_473 q_474 q_33 q_475) rfl rfl rfl (by decide +kernel) ⟨Nat.le_of_ble_eq_true rfl, Nat.le_of_ble_eq_true rfl⟩) (kb_pre0 hN hK) rfl rfl hl.1 rfl (lv_room (Nat.le_of_ble_eq_true rfl)) dD_isToldWrongly_52 ⟨Nat.zero_le _, Nat.zero_le _⟩) hP hS hA (fun H locs hP hS => ?_)
    exact kb_zret (wf := cw h) hx hb hr hlocks (zb_n (z_D_hasBit ((w0 27) &&& (w0 28)) a1)) hK hP hD hS ⟨e.symm, rfl⟩ dD_isToldWrongly_55
  · have e := e.trans (if_neg c_1)
    refine lv_aload_n hx hb dD_isToldWrongly_14 rfl (lv_at hl 0 rfl) ?_
    refine va_get (D := D) (ci := 0) (v := .ref (h 4)) (C := "BoilerDesk") (T := TD) (N := 13) hx hb hts inD hown hK hP 0 rfl rfl 3 (by decide) (hts _ q_275) (fun _ h9 => h9) rfl dD_isToldWrongly_15 ?_
    refine va_get (D := D) (ci := 2) (v := .int (w0 27)) (C := "BoilerDesk$Machines") (T := TM) (N := 4) hx hb hts inM hown hK hP 4 rfl rfl 0 (by decide) (hts _ q_175) (fun _ h9 => h9) rfl dD_isToldWrongly_18 ?_
    refine lv_iload_n hx hb dD_isToldWrongly_21 rfl (lv_at hl 1 rfl) ?_
    refine kb_call0 (r := (F_D_hasBit (w0 27) a1)) (va_runS (As := [.int (w0 27), .int a1]) (rest := []) ⟨hx, hb, hml, hown, hts⟩ (c_D_hasBit l D _ (w0 27) a1) (va_cwS 2 hts (gd_S q_473 q_474 q_33 q_475) rfl rfl rfl (by decide +kernel) ⟨Nat.le_of_ble_eq_true rfl, Nat.le_of_ble_eq_true rfl⟩) (kb_pre0 hN hK) rfl rfl hl.1 rfl (lv_room (Nat.le_of_ble_eq_true rfl)) dD_isToldWrongly_22 ⟨Nat.zero_le _, Nat.zero_le _⟩) hP hS hA (fun H locs hP hS => ?_)
    refine lv_if_ne (tgt := 32) hx hb dD_isToldWrongly_25 (by decide) (fun c_2 => ?_) (fun c_2 => ?_)
    · have e := e.trans (if_neg c_2)
      refine lv_iconst (v := 0) hx hb dD_isToldWrongly_32 (by decide) ?_
      refine lv_goto (tgt := 55) hx hb dD_isToldWrongly_33 (by decide) ?_
      exact kb_zret (wf := cw h) hx hb hr hlocks rfl hK hP hD hS ⟨e.symm, rfl⟩ dD_isToldWrongly_55
    · have e := e.trans (if_pos c_2)
      refine lv_iconst (v := 1) hx hb dD_isToldWrongly_28 (by decide) ?_
      refine lv_goto (tgt := 55) hx hb dD_isToldWrongly_29 (by decide) ?_
      exact kb_zret (wf := cw h) hx hb hr hlocks rfl hK hP hD hS ⟨e.symm, rfl⟩ dD_isToldWrongly_55
theorem z_D_isToldWrongly (w0 : Nat → Int32) (a1 : Int32) : F_D_isToldWrongly w0 a1 = 0 ∨ F_D_isToldWrongly w0 a1 = 1 := by
  unfold F_D_isToldWrongly
  repeat' split
  all_goals first | exact Or.inl rfl | exact Or.inr rfl | exact z_D_hasBit _ _ _ | exact z_D_hasBit _ _
/-- BoilerDesk.modeByAnyFailure()I -/
def F_D_modeByAnyFailure (w0 : Nat → Int32)  : Int32 := (if (w0 25) = (0 : Int32) then (1 : Int32) else (2 : Int32))
set_option maxHeartbeats 4000000 in
set_option maxRecDepth 100000 in
theorem c_D_modeByAnyFailure (l : Launch) (D : va_G) (h : Nat → Nat) (sz : Nat) (w0 : Nat → Int32)   : Met l yD_modeByAnyFailure [.code yD_modeByAnyFailure cD_modeByAnyFailure 1 (some .int)] ({ frames := 0, cells := 0, slots := 0, locals := 0 }) (va_Pc [.ref (h 0)] (kb_B D [] (cw h) w0 sz)) (va_Qi (fun r' u' => r' = F_D_modeByAnyFailure w0 ∧ u' = w0) (kb_E D [] (cw h) (va_A (cw h w0) sz)) (va_A (cw h w0) sz)) 0 0 (va_A (cw h w0) sz) := by
  refine kb_of (cc := cD_modeByAnyFailure) (maxL := 1) (ret := (some .int)) (QcA := fun A => (va_Qi (fun r' u' => r' = F_D_modeByAnyFailure w0 ∧ u' = w0) (kb_E D [] (cw h) A) A)) (by decide) (Nat.le_of_ble_eq_true rfl) ?_
  intro p e s m below meth c A hx hb hr hlocks hml hown hts hA hN hK hP hD ls hl
  have hS : va_S A s.heap s.heap [] := va_S.rf
  have hl : lv_has ls 1 [(0, .ref (h 0))] := hl
  have e : F_D_modeByAnyFailure w0 = F_D_modeByAnyFailure w0 := rfl
  refine lv_aload_n hx hb dD_modeByAnyFailure_0 rfl (lv_at hl 0 rfl) ?_
  refine va_get (D := D) (ci := 0) (v := .ref (h 3)) (C := "BoilerDesk") (T := TD) (N := 13) hx hb hts inD hown hK hP 0 rfl rfl 2 (by decide) (hts _ q_274) (fun _ h9 => h9) rfl dD_modeByAnyFailure_1 ?_
  refine va_get (D := D) (ci := 6) (v := .int (w0 25)) (C := "BoilerDesk$Units") (T := TU) (N := 2) hx hb hts inU hown hK hP 3 rfl rfl 0 (by decide) (hts _ q_160) (fun _ h9 => h9) rfl dD_modeByAnyFailure_4 ?_
  refine lv_if_ne (tgt := 14) hx hb dD_modeByAnyFailure_7 (by decide) (fun c_1 => ?_) (fun c_1 => ?_)
  · have e := e.trans (if_neg c_1)
    refine lv_iconst (v := 2) hx hb dD_modeByAnyFailure_14 (by decide) ?_
    exact kb_iret (wf := cw h) hx hb hr hlocks hK hP hD hS ⟨e.symm, rfl⟩ dD_modeByAnyFailure_15
  · have e := e.trans (if_pos c_1)
    refine lv_iconst (v := 1) hx hb dD_modeByAnyFailure_10 (by decide) ?_
    refine lv_goto (tgt := 15) hx hb dD_modeByAnyFailure_11 (by decide) ?_
    exact kb_iret (wf := cw h) hx hb hr hlocks hK hP hD hS ⟨e.symm, rfl⟩ dD_modeByAnyFailure_15
/-- BoilerDesk.modeBehindInitial()I -/
def K_D_modeBehindInitial_43  (w0 : Nat → Int32)  : Int32 := (if (w0 21) = (0 : Int32) then (0 : Int32) else (if (w0 3) = (0 : Int32) then (4 : Int32) else (if (F_P_isNormalLevel w0 (w0 14)) = (0 : Int32) then (4 : Int32) else (F_D_modeByAnyFailure w0))))
def K_D_modeBehindInitial_22  (w0 : Nat → Int32)  : Int32 := (4 : Int32)
def F_D_modeBehindInitial (w0 : Nat → Int32)  : Int32 := (if (F_U_hasFailed w0 (0 : Int32)) = (0 : Int32) then (if (F_U_hasFailed w0 (1 : Int32)) = (0 : Int32) then (if (w0 3) = (0 : Int32) then K_D_modeBehindInitial_43 w0 else (if (w0 16) = (0 : Int32) then K_D_modeBehindInitial_43 w0 else (4 : Int32))) else K_D_modeBehindInitial_22 w0) else K_D_modeBehindInitial_22 w0)
set_option maxHeartbeats 4000000 in
set_option maxRecDepth 100000 in
theorem c_D_modeBehindInitial (l : Launch) (D : va_G) (h : Nat → Nat) (sz : Nat) (w0 : Nat → Int32)   : Met l yD_modeBehindInitial [.code yD_modeBehindInitial cD_modeBehindInitial 1 (some .int)] ({ frames := 2, cells := 0, slots := 0, locals := 43 }) (va_Pc [.ref (h 0)] (kb_B D [] (cw h) w0 sz)) (va_Qi (fun r' u' => r' = F_D_modeBehindInitial w0 ∧ u' = w0) (kb_E D [] (cw h) (va_A (cw h w0) sz)) (va_A (cw h w0) sz)) 0 0 (va_A (cw h w0) sz) := by
  refine kb_of (cc := cD_modeBehindInitial) (maxL := 1) (ret := (some .int)) (QcA := fun A => (va_Qi (fun r' u' => r' = F_D_modeBehindInitial w0 ∧ u' = w0) (kb_E D [] (cw h) A) A)) (by decide) (Nat.le_of_ble_eq_true rfl) ?_
  intro p e s m below meth c A hx hb hr hlocks hml hown hts hA hN hK hP hD ls hl
  have hS : va_S A s.heap s.heap [] := va_S.rf
  have hl : lv_has ls 1 [(0, .ref (h 0))] := hl
  have k_43 : ∀ (H : Heap) (locs : List Loc) (ls : Array Slot), F_D_modeBehindInitial w0 = K_D_modeBehindInitial_43 w0 → va_P D vwCl (cw h w0) H → va_D A (cw h w0) → va_S A s.heap H locs → lv_has ls 1 [(0, .ref (h 0))] → W p l e ({ frames := 2, cells := 0, slots := 0, locals := 43 }) s m [.ref (h 0)].toArray below meth c H locs 0 0 (MQ below (va_Qi (fun r' u' => r' = F_D_modeBehindInitial w0 ∧ u' = w0) (kb_E D [] (cw h) A) A) [.ref (h 0)].toArray s 0 0 A) (F0 m 43 ls []) := by
      intro H locs ls e hP hD hS hl
      refine lv_aload_n hx hb dD_modeBehindInitial_43 rfl (lv_at hl 0 rfl) ?_
      refine va_get (D := D) (ci := 0) (v := .ref (h 2)) (C := "BoilerDesk") (T := TD) (N := 13) hx hb hts inD hown hK hP 0 rfl rfl 1 (by decide) (hts _ q_273) (fun _ h9 => h9) rfl dD_modeBehindInitial_44 ?_
      refine va_get (D := D) (ci := 1) (v := .int (w0 21)) (C := "BoilerDesk$Inbox") (T := TI) (N := 12) hx hb hts inI hown hK hP 2 rfl rfl 8 (by decide) (hts _ q_121) (fun _ h9 => h9) rfl dD_modeBehindInitial_47 ?_
      refine lv_if_ne (tgt := 55) hx hb dD_modeBehindInitial_50 (by decide) (fun c_1 => ?_) (fun c_1 => ?_)
      · have e := e.trans (if_neg c_1)
        refine lv_aload_n hx hb dD_modeBehindInitial_55 rfl (lv_at hl 0 rfl) ?_
        refine va_get (D := D) (ci := 0) (v := .int (w0 3)) (C := "BoilerDesk") (T := TD) (N := 13) hx hb hts inD hown hK hP 0 rfl rfl 12 (by decide) (hts _ q_284) (fun _ h9 => h9) rfl dD_modeBehindInitial_56 ?_
        refine lv_if_eq (tgt := 86) hx hb dD_modeBehindInitial_59 (by decide) (fun c_2 => ?_) (fun c_2 => ?_)
        · have e := e.trans (if_pos c_2)
          refine lv_iconst (v := 4) hx hb dD_modeBehindInitial_86 (by decide) ?_
          exact kb_iret (wf := cw h) hx hb hr hlocks hK hP hD hS ⟨e.symm, rfl⟩ dD_modeBehindInitial_87
        · have e := e.trans (if_neg c_2)
          refine lv_aload_n hx hb dD_modeBehindInitial_62 rfl (lv_at hl 0 rfl) ?_
          refine va_get (D := D) (ci := 0) (v := .ref (h 1)) (C := "BoilerDesk") (T := TD) (N := 13) hx hb hts inD hown hK hP 0 rfl rfl 0 (by decide) (hts _ q_272) (fun _ h9 => h9) rfl dD_modeBehindInitial_63 ?_
          refine lv_aload_n hx hb dD_modeBehindInitial_66 rfl (lv_at hl 0 rfl) ?_
          refine va_get (D := D) (ci := 0) (v := .ref (h 2)) (C := "BoilerDesk") (T := TD) (N := 13) hx hb hts inD hown hK hP 0 rfl rfl 1 (by decide) (hts _ q_273) (fun _ h9 => h9) rfl dD_modeBehindInitial_67 ?_
          refine va_get (D := D) (ci := 1) (v := .int (w0 14)) (C := "BoilerDesk$Inbox") (T := TI) (N := 12) hx hb hts inI hown hK hP 2 rfl rfl 1 (by decide) (hts _ q_107) (fun _ h9 => h9) rfl dD_modeBehindInitial_70 ?_
          refine kb_calli (wf := cw h) (r := (F_P_isNormalLevel w0 (w0 14))) (u := w0) (va_runV (As := [.int (w0 14)]) (rest := []) ⟨hx, hb, hml, hown, hts⟩ (c_P_isNormalLevel l D h _ w0 (w0 14)) (cwV 1 hts (gd_V q_568 q_569 q_570 q_34 q_571) rfl rfl rfl (by decide +kernel) ⟨Nat.le_of_ble_eq_true rfl, Nat.le_of_ble_eq_true rfl⟩) (kb_preV hN hK hP hD (va_recv hK hP (ci := 3) (q0 := 1) rfl rfl)) rfl rfl hl.1 rfl (lv_room (Nat.le_of_ble_eq_true rfl)) dD_modeBehindInitial_73 ⟨Nat.zero_le _, Nat.zero_le _⟩) hP hD hS hA (fun H locs hP hD hS => ?_)
          refine lv_if_eq (tgt := 86) hx hb dD_modeBehindInitial_76 (by decide) (fun c_3 => ?_) (fun c_3 => ?_)
          · have e := e.trans (if_pos c_3)
            refine lv_iconst (v := 4) hx hb dD_modeBehindInitial_86 (by decide) ?_
            exact kb_iret (wf := cw h) hx hb hr hlocks hK hP hD hS ⟨e.symm, rfl⟩ dD_modeBehindInitial_87
          · have e := e.trans (if_neg c_3)
            refine lv_aload_n hx hb dD_modeBehindInitial_79 rfl (lv_at hl 0 rfl) ?_
            refine kb_calli (wf := cw h) (r := (F_D_modeByAnyFailure w0)) (u := w0) (va_runV (As := []) (rest := []) ⟨hx, hb, hml, hown, hts⟩ (c_D_modeByAnyFailure l D h _ w0) (cwV 0 hts (gd_V q_573 q_575 q_13 q_33 q_576) rfl rfl rfl (by decide +kernel) ⟨Nat.le_of_ble_eq_true rfl, Nat.le_of_ble_eq_true rfl⟩) (kb_preV hN hK hP hD (va_recv hK hP (ci := 0) (q0 := 0) rfl rfl)) rfl rfl hl.1 rfl (lv_room (Nat.le_of_ble_eq_true rfl)) dD_modeBehindInitial_80 ⟨Nat.zero_le _, Nat.zero_le _⟩) hP hD hS hA (fun H locs hP hD hS => ?_)
            refine lv_goto (tgt := 87) hx hb dD_modeBehindInitial_83 (by decide) ?_
            exact kb_iret (wf := cw h) hx hb hr hlocks hK hP hD hS ⟨e.symm, rfl⟩ dD_modeBehindInitial_87
      · have e := e.trans (if_pos c_1)
        refine lv_iconst (v := 0) hx hb dD_modeBehindInitial_53 (by decide) ?_
        exact kb_iret (wf := cw h) hx hb hr hlocks hK hP hD hS ⟨e.symm, rfl⟩ dD_modeBehindInitial_54
  have k_22 : ∀ (H : Heap) (locs : List Loc) (ls : Array Slot), F_D_modeBehindInitial w0 = K_D_modeBehindInitial_22 w0 → va_P D vwCl (cw h w0) H → va_D A (cw h w0) → va_S A s.heap H locs → lv_has ls 1 [(0, .ref (h 0))] → W p l e ({ frames := 2, cells := 0, slots := 0, locals := 43 }) s m [.ref (h 0)].toArray below meth c H locs 0 0 (MQ below (va_Qi (fun r' u' => r' = F_D_modeBehindInitial w0 ∧ u' = w0) (kb_E D [] (cw h) A) A) [.ref (h 0)].toArray s 0 0 A) (F0 m 22 ls []) := by
      intro H locs ls e hP hD hS hl
      refine lv_iconst (v := 4) hx hb dD_modeBehindInitial_22 (by decide) ?_
      exact kb_iret (wf := cw h) hx hb hr hlocks hK hP hD hS ⟨e.symm, rfl⟩ dD_modeBehindInitial_23
  have e : F_D_modeBehindInitial w0 = F_D_modeBehindInitial w0 := rfl
  refine lv_aload_n hx hb dD_modeBehindInitial_0 rfl (lv_at hl 0 rfl) ?_
  refine va_get (D := D) (ci := 0) (v := .ref (h 3)) (C := "BoilerDesk") (T := TD) (N := 13) hx hb hts inD hown hK hP 0 rfl rfl 2 (by decide) (hts _ q_274) (fun _ h9 => h9) rfl dD_modeBehindInitial_1 ?_
  refine lv_iconst (v := 0) hx hb dD_modeBehindInitial_4 (by decide) ?_
  refine kb_calli (wf := cw h) (r := (F_U_hasFailed w0 (0 : Int32))) (u := w0) (va_runV (As := [.int 0]) (rest := []) ⟨hx, hb, hml, hown, hts⟩ (c_U_hasFailed l D h _ w0 (0 : Int32)) (cwV 1 hts (gd_V q_476 q_477 q_478 q_36 q_479) rfl rfl rfl (by decide +kernel) ⟨Nat.le_of_ble_eq_true rfl, Nat.le_of_ble_eq_true rfl⟩) (kb_preV hN hK hP hD (va_recv hK hP (ci := 6) (q0 := 3) rfl rfl)) rfl rfl hl.1 rfl (lv_room (Nat.le_of_ble_eq_true rfl)) dD_modeBehindInitial_5 ⟨Nat.zero_le _, Nat.zero_le _⟩) hP hD hS hA (fun H locs hP hD hS => ?_)
  refine lv_if_ne (tgt := 22) hx hb dD_modeBehindInitial_8 (by decide) (fun c_4 => ?_) (fun c_4 => ?_)
  · have e := e.trans (if_neg c_4)
    exact k_22  _ _ _ e hP hD hS (lv_sub hl [0] rfl)
  · have e := e.trans (if_pos c_4)
    refine lv_aload_n hx hb dD_modeBehindInitial_11 rfl (lv_at hl 0 rfl) ?_
    refine va_get (D := D) (ci := 0) (v := .ref (h 3)) (C := "BoilerDesk") (T := TD) (N := 13) hx hb hts inD hown hK hP 0 rfl rfl 2 (by decide) (hts _ q_274) (fun _ h9 => h9) rfl dD_modeBehindInitial_12 ?_
    refine lv_iconst (v := 1) hx hb dD_modeBehindInitial_15 (by decide) ?_
    refine kb_calli (wf := cw h) (r := (F_U_hasFailed w0 (1 : Int32))) (u := w0) (va_runV (As := [.int 1]) (rest := []) ⟨hx, hb, hml, hown, hts⟩ (c_U_hasFailed l D h _ w0 (1 : Int32)) (cwV 1 hts (gd_V q_476 q_477 q_478 q_36 q_479) rfl rfl rfl (by decide +kernel) ⟨Nat.le_of_ble_eq_true rfl, Nat.le_of_ble_eq_true rfl⟩) (kb_preV hN hK hP hD (va_recv hK hP (ci := 6) (q0 := 3) rfl rfl)) rfl rfl hl.1 rfl (lv_room (Nat.le_of_ble_eq_true rfl)) dD_modeBehindInitial_16 ⟨Nat.zero_le _, Nat.zero_le _⟩) hP hD hS hA (fun H locs hP hD hS => ?_)
    refine lv_if_eq (tgt := 24) hx hb dD_modeBehindInitial_19 (by decide) (fun c_5 => ?_) (fun c_5 => ?_)
    · have e := e.trans (if_pos c_5)
      refine lv_aload_n hx hb dD_modeBehindInitial_24 rfl (lv_at hl 0 rfl) ?_
      refine va_get (D := D) (ci := 0) (v := .int (w0 3)) (C := "BoilerDesk") (T := TD) (N := 13) hx hb hts inD hown hK hP 0 rfl rfl 12 (by decide) (hts _ q_284) (fun _ h9 => h9) rfl dD_modeBehindInitial_25 ?_
      refine lv_if_eq (tgt := 43) hx hb dD_modeBehindInitial_28 (by decide) (fun c_6 => ?_) (fun c_6 => ?_)
      · have e := e.trans (if_pos c_6)
        exact k_43  _ _ _ e hP hD hS (lv_sub hl [0] rfl)
      · have e := e.trans (if_neg c_6)
        refine lv_aload_n hx hb dD_modeBehindInitial_31 rfl (lv_at hl 0 rfl) ?_
        refine va_get (D := D) (ci := 0) (v := .ref (h 2)) (C := "BoilerDesk") (T := TD) (N := 13) hx hb hts inD hown hK hP 0 rfl rfl 1 (by decide) (hts _ q_273) (fun _ h9 => h9) rfl dD_modeBehindInitial_32 ?_
        refine va_get (D := D) (ci := 1) (v := .int (w0 16)) (C := "BoilerDesk$Inbox") (T := TI) (N := 12) hx hb hts inI hown hK hP 2 rfl rfl 3 (by decide) (hts _ q_111) (fun _ h9 => h9) rfl dD_modeBehindInitial_35 ?_
        refine lv_if_eq (tgt := 43) hx hb dD_modeBehindInitial_38 (by decide) (fun c_7 => ?_) (fun c_7 => ?_)
        · have e := e.trans (if_pos c_7)
          exact k_43  _ _ _ e hP hD hS (lv_sub hl [0] rfl)
        · have e := e.trans (if_neg c_7)
          refine lv_iconst (v := 4) hx hb dD_modeBehindInitial_41 (by decide) ?_
          exact kb_iret (wf := cw h) hx hb hr hlocks hK hP hD hS ⟨e.symm, rfl⟩ dD_modeBehindInitial_42
    · have e := e.trans (if_neg c_5)
      exact k_22  _ _ _ e hP hD hS (lv_sub hl [0] rfl)
/-- BoilerDesk.modeInOperation()I -/
def K_D_modeInOperation_77  (w0 : Nat → Int32)  : Int32 := (4 : Int32)
def K_D_modeInOperation_34  (w0 : Nat → Int32)  : Int32 := (4 : Int32)
def F_D_modeInOperation (w0 : Nat → Int32)  : Int32 := (if (w0 38) ≤ (w0 5) then K_D_modeInOperation_34 w0 else (if (w0 39) < (w0 8) then (if (F_U_hasFailed w0 (0 : Int32)) = (0 : Int32) then (F_D_modeByAnyFailure w0) else (if (F_U_hasFailed w0 (1 : Int32)) = (0 : Int32) then (if ((w0 25) &&& (960 : Int32)) = (0 : Int32) then (3 : Int32) else K_D_modeInOperation_77 w0) else K_D_modeInOperation_77 w0)) else K_D_modeInOperation_34 w0))
set_option maxHeartbeats 4000000 in
set_option maxRecDepth 100000 in
theorem c_D_modeInOperation (l : Launch) (D : va_G) (h : Nat → Nat) (sz : Nat) (w0 : Nat → Int32)   : Met l yD_modeInOperation [.code yD_modeInOperation cD_modeInOperation 2 (some .int)] ({ frames := 2, cells := 0, slots := 0, locals := 42 }) (va_Pc [.ref (h 0)] (kb_B D [] (cw h) w0 sz)) (va_Qi (fun r' u' => r' = F_D_modeInOperation w0 ∧ u' = w0) (kb_E D [] (cw h) (va_A (cw h w0) sz)) (va_A (cw h w0) sz)) 0 0 (va_A (cw h w0) sz) := by
  refine kb_of (cc := cD_modeInOperation) (maxL := 2) (ret := (some .int)) (QcA := fun A => (va_Qi (fun r' u' => r' = F_D_modeInOperation w0 ∧ u' = w0) (kb_E D [] (cw h) A) A)) (by decide) (Nat.le_of_ble_eq_true rfl) ?_
  intro p e s m below meth c A hx hb hr hlocks hml hown hts hA hN hK hP hD ls hl
  have hS : va_S A s.heap s.heap [] := va_S.rf
  have hl : lv_has ls 2 [(0, .ref (h 0))] := hl
  have k_77 : ∀ (H : Heap) (locs : List Loc) (ls : Array Slot), F_D_modeInOperation w0 = K_D_modeInOperation_77 w0 → va_P D vwCl (cw h w0) H → va_D A (cw h w0) → va_S A s.heap H locs → lv_has ls 2 [(0, .ref (h 0))] → W p l e ({ frames := 2, cells := 0, slots := 0, locals := 42 }) s m [.ref (h 0)].toArray below meth c H locs 0 0 (MQ below (va_Qi (fun r' u' => r' = F_D_modeInOperation w0 ∧ u' = w0) (kb_E D [] (cw h) A) A) [.ref (h 0)].toArray s 0 0 A) (F0 m 77 ls []) := by
      intro H locs ls e hP hD hS hl
      refine lv_iconst (v := 1) hx hb dD_modeInOperation_77 (by decide) ?_
      refine lv_goto (tgt := 82) hx hb dD_modeInOperation_78 (by decide) ?_
      refine lv_istore_n (lv' := [(1, .int 1), (0, .ref (h 0))]) hx hb dD_modeInOperation_82 rfl hl (by decide) rfl (fun ls hl => ?_)
      refine lv_iload_n hx hb dD_modeInOperation_83 rfl (lv_at hl 0 rfl) ?_
      refine lv_if_eq (tgt := 91) hx hb dD_modeInOperation_84 (by decide) (fun c9 => absurd c9 (by decide)) (fun _ => ?_)
      refine lv_iconst (v := 4) hx hb dD_modeInOperation_87 (by decide) ?_
      refine lv_goto (tgt := 92) hx hb dD_modeInOperation_88 (by decide) ?_
      exact kb_iret (wf := cw h) hx hb hr hlocks hK hP hD hS ⟨e.symm, rfl⟩ dD_modeInOperation_92
  have k_34 : ∀ (H : Heap) (locs : List Loc) (ls : Array Slot), F_D_modeInOperation w0 = K_D_modeInOperation_34 w0 → va_P D vwCl (cw h w0) H → va_D A (cw h w0) → va_S A s.heap H locs → lv_has ls 2 [(0, .ref (h 0))] → W p l e ({ frames := 2, cells := 0, slots := 0, locals := 42 }) s m [.ref (h 0)].toArray below meth c H locs 0 0 (MQ below (va_Qi (fun r' u' => r' = F_D_modeInOperation w0 ∧ u' = w0) (kb_E D [] (cw h) A) A) [.ref (h 0)].toArray s 0 0 A) (F0 m 34 ls []) := by
      intro H locs ls e hP hD hS hl
      refine lv_iconst (v := 4) hx hb dD_modeInOperation_34 (by decide) ?_
      exact kb_iret (wf := cw h) hx hb hr hlocks hK hP hD hS ⟨e.symm, rfl⟩ dD_modeInOperation_35
  have e : F_D_modeInOperation w0 = F_D_modeInOperation w0 := rfl
  refine lv_aload_n hx hb dD_modeInOperation_0 rfl (lv_at hl 0 rfl) ?_
  refine va_get (D := D) (ci := 0) (v := .ref (h 6)) (C := "BoilerDesk") (T := TD) (N := 13) hx hb hts inD hown hK hP 0 rfl rfl 5 (by decide) (hts _ q_277) (fun _ h9 => h9) rfl dD_modeInOperation_1 ?_
  refine va_get (D := D) (ci := 5) (v := .int (w0 38)) (C := "BoilerDesk$Span") (T := TS) (N := 2) hx hb hts inS hown hK hP 6 rfl rfl 0 (by decide) (hts _ q_232) (fun _ h9 => h9) rfl dD_modeInOperation_4 ?_
  refine lv_aload_n hx hb dD_modeInOperation_7 rfl (lv_at hl 0 rfl) ?_
  refine va_get (D := D) (ci := 0) (v := .ref (h 1)) (C := "BoilerDesk") (T := TD) (N := 13) hx hb hts inD hown hK hP 0 rfl rfl 0 (by decide) (hts _ q_272) (fun _ h9 => h9) rfl dD_modeInOperation_8 ?_
  refine va_get (D := D) (ci := 3) (v := .int (w0 5)) (C := "BoilerDesk$Plant") (T := TP) (N := 9) hx hb hts inP hown hK hP 1 rfl rfl 1 (by decide) (hts _ q_65) (fun _ h9 => h9) rfl dD_modeInOperation_11 ?_
  refine lv_icmp_le (tgt := 34) hx hb dD_modeInOperation_14 (by decide) (fun c_1 => ?_) (fun c_1 => ?_)
  · have e := e.trans (if_pos c_1)
    exact k_34  _ _ _ e hP hD hS (lv_sub hl [0] rfl)
  · have e := e.trans (if_neg c_1)
    refine lv_aload_n hx hb dD_modeInOperation_17 rfl (lv_at hl 0 rfl) ?_
    refine va_get (D := D) (ci := 0) (v := .ref (h 6)) (C := "BoilerDesk") (T := TD) (N := 13) hx hb hts inD hown hK hP 0 rfl rfl 5 (by decide) (hts _ q_277) (fun _ h9 => h9) rfl dD_modeInOperation_18 ?_
    refine va_get (D := D) (ci := 5) (v := .int (w0 39)) (C := "BoilerDesk$Span") (T := TS) (N := 2) hx hb hts inS hown hK hP 6 rfl rfl 1 (by decide) (hts _ q_234) (fun _ h9 => h9) rfl dD_modeInOperation_21 ?_
    refine lv_aload_n hx hb dD_modeInOperation_24 rfl (lv_at hl 0 rfl) ?_
    refine va_get (D := D) (ci := 0) (v := .ref (h 1)) (C := "BoilerDesk") (T := TD) (N := 13) hx hb hts inD hown hK hP 0 rfl rfl 0 (by decide) (hts _ q_272) (fun _ h9 => h9) rfl dD_modeInOperation_25 ?_
    refine va_get (D := D) (ci := 3) (v := .int (w0 8)) (C := "BoilerDesk$Plant") (T := TP) (N := 9) hx hb hts inP hown hK hP 1 rfl rfl 4 (by decide) (hts _ q_71) (fun _ h9 => h9) rfl dD_modeInOperation_28 ?_
    refine lv_icmp_lt (tgt := 36) hx hb dD_modeInOperation_31 (by decide) (fun c_2 => ?_) (fun c_2 => ?_)
    · have e := e.trans (if_pos c_2)
      refine lv_aload_n hx hb dD_modeInOperation_36 rfl (lv_at hl 0 rfl) ?_
      refine va_get (D := D) (ci := 0) (v := .ref (h 3)) (C := "BoilerDesk") (T := TD) (N := 13) hx hb hts inD hown hK hP 0 rfl rfl 2 (by decide) (hts _ q_274) (fun _ h9 => h9) rfl dD_modeInOperation_37 ?_
      refine lv_iconst (v := 0) hx hb dD_modeInOperation_40 (by decide) ?_
      refine kb_calli (wf := cw h) (r := (F_U_hasFailed w0 (0 : Int32))) (u := w0) (va_runV (As := [.int 0]) (rest := []) ⟨hx, hb, hml, hown, hts⟩ (c_U_hasFailed l D h _ w0 (0 : Int32)) (cwV 1 hts (gd_V q_476 q_477 q_478 q_36 q_479) rfl rfl rfl (by decide +kernel) ⟨Nat.le_of_ble_eq_true rfl, Nat.le_of_ble_eq_true rfl⟩) (kb_preV hN hK hP hD (va_recv hK hP (ci := 6) (q0 := 3) rfl rfl)) rfl rfl hl.1 rfl (lv_room (Nat.le_of_ble_eq_true rfl)) dD_modeInOperation_41 ⟨Nat.zero_le _, Nat.zero_le _⟩) hP hD hS hA (fun H locs hP hD hS => ?_)
      refine lv_if_ne (tgt := 52) hx hb dD_modeInOperation_44 (by decide) (fun c_3 => ?_) (fun c_3 => ?_)
      · have e := e.trans (if_neg c_3)
        refine lv_aload_n hx hb dD_modeInOperation_52 rfl (lv_at hl 0 rfl) ?_
        refine va_get (D := D) (ci := 0) (v := .ref (h 3)) (C := "BoilerDesk") (T := TD) (N := 13) hx hb hts inD hown hK hP 0 rfl rfl 2 (by decide) (hts _ q_274) (fun _ h9 => h9) rfl dD_modeInOperation_53 ?_
        refine lv_iconst (v := 1) hx hb dD_modeInOperation_56 (by decide) ?_
        refine kb_calli (wf := cw h) (r := (F_U_hasFailed w0 (1 : Int32))) (u := w0) (va_runV (As := [.int 1]) (rest := []) ⟨hx, hb, hml, hown, hts⟩ (c_U_hasFailed l D h _ w0 (1 : Int32)) (cwV 1 hts (gd_V q_476 q_477 q_478 q_36 q_479) rfl rfl rfl (by decide +kernel) ⟨Nat.le_of_ble_eq_true rfl, Nat.le_of_ble_eq_true rfl⟩) (kb_preV hN hK hP hD (va_recv hK hP (ci := 6) (q0 := 3) rfl rfl)) rfl rfl hl.1 rfl (lv_room (Nat.le_of_ble_eq_true rfl)) dD_modeInOperation_57 ⟨Nat.zero_le _, Nat.zero_le _⟩) hP hD hS hA (fun H locs hP hD hS => ?_)
        refine lv_if_ne (tgt := 77) hx hb dD_modeInOperation_60 (by decide) (fun c_4 => ?_) (fun c_4 => ?_)
        · have e := e.trans (if_neg c_4)
          exact k_77  _ _ _ e hP hD hS (lv_sub hl [0] rfl)
        · have e := e.trans (if_pos c_4)
          refine lv_aload_n hx hb dD_modeInOperation_63 rfl (lv_at hl 0 rfl) ?_
          refine va_get (D := D) (ci := 0) (v := .ref (h 3)) (C := "BoilerDesk") (T := TD) (N := 13) hx hb hts inD hown hK hP 0 rfl rfl 2 (by decide) (hts _ q_274) (fun _ h9 => h9) rfl dD_modeInOperation_64 ?_
          refine va_get (D := D) (ci := 6) (v := .int (w0 25)) (C := "BoilerDesk$Units") (T := TU) (N := 2) hx hb hts inU hown hK hP 3 rfl rfl 0 (by decide) (hts _ q_160) (fun _ h9 => h9) rfl dD_modeInOperation_67 ?_
          refine lv_sipush (v := 960) hx hb dD_modeInOperation_70 (by decide) ?_
          refine lv_iand hx hb dD_modeInOperation_73 ?_
          refine lv_if_eq (tgt := 81) hx hb dD_modeInOperation_74 (by decide) (fun c_5 => ?_) (fun c_5 => ?_)
          · have e := e.trans (if_pos c_5)
            refine lv_iconst (v := 0) hx hb dD_modeInOperation_81 (by decide) ?_
            refine lv_istore_n (lv' := [(1, .int 0), (0, .ref (h 0))]) hx hb dD_modeInOperation_82 rfl hl (by decide) rfl (fun ls hl => ?_)
            refine lv_iload_n hx hb dD_modeInOperation_83 rfl (lv_at hl 0 rfl) ?_
            refine lv_if_eq (tgt := 91) hx hb dD_modeInOperation_84 (by decide) (fun _ => ?_) (fun c9 => absurd (by decide) c9)
            refine lv_iconst (v := 3) hx hb dD_modeInOperation_91 (by decide) ?_
            exact kb_iret (wf := cw h) hx hb hr hlocks hK hP hD hS ⟨e.symm, rfl⟩ dD_modeInOperation_92
          · have e := e.trans (if_neg c_5)
            exact k_77  _ _ _ e hP hD hS (lv_sub hl [0] rfl)
      · have e := e.trans (if_pos c_3)
        refine lv_aload_n hx hb dD_modeInOperation_47 rfl (lv_at hl 0 rfl) ?_
        refine kb_calli (wf := cw h) (r := (F_D_modeByAnyFailure w0)) (u := w0) (va_runV (As := []) (rest := []) ⟨hx, hb, hml, hown, hts⟩ (c_D_modeByAnyFailure l D h _ w0) (cwV 0 hts (gd_V q_573 q_575 q_13 q_33 q_576) rfl rfl rfl (by decide +kernel) ⟨Nat.le_of_ble_eq_true rfl, Nat.le_of_ble_eq_true rfl⟩) (kb_preV hN hK hP hD (va_recv hK hP (ci := 0) (q0 := 0) rfl rfl)) rfl rfl hl.1 rfl (lv_room (Nat.le_of_ble_eq_true rfl)) dD_modeInOperation_48 ⟨Nat.zero_le _, Nat.zero_le _⟩) hP hD hS hA (fun H locs hP hD hS => ?_)
        exact kb_iret (wf := cw h) hx hb hr hlocks hK hP hD hS ⟨e.symm, rfl⟩ dD_modeInOperation_51
    · have e := e.trans (if_neg c_2)
      exact k_34  _ _ _ e hP hD hS (lv_sub hl [0] rfl)
/-- BoilerDesk.commandValve(Z)V -/
def F_D_commandValve (w0 : Nat → Int32) (a1 : Int32) : Nat → Int32 := (if a1 = (0 : Int32) then (if (w0 30) = (0 : Int32) then (up (up (up w0 33 0) 34 0) 30 a1) else (up (up (up w0 33 0) 34 1) 30 a1)) else (if (w0 30) = (0 : Int32) then (up (up (up w0 33 1) 34 0) 30 a1) else (up (up (up w0 33 0) 34 0) 30 a1)))
set_option maxHeartbeats 4000000 in
set_option maxRecDepth 100000 in
theorem c_D_commandValve (l : Launch) (D : va_G) (h : Nat → Nat) (sz : Nat) (w0 : Nat → Int32) (a1 : Int32) (z1 : a1 = 0 ∨ a1 = 1) : Met l yD_commandValve [.code yD_commandValve cD_commandValve 2 none] ({ frames := 0, cells := 0, slots := 0, locals := 0 }) (va_Pc [.ref (h 0), .int a1] (kb_B D [] (cw h) w0 sz)) (va_Qv (fun u' => u' = F_D_commandValve w0 a1) (kb_E D [] (cw h) (va_A (cw h w0) sz)) (va_A (cw h w0) sz)) 0 0 (va_A (cw h w0) sz) := by
  refine kb_of (cc := cD_commandValve) (maxL := 2) (ret := none) (QcA := fun A => (va_Qv (fun u' => u' = F_D_commandValve w0 a1) (kb_E D [] (cw h) A) A)) (by decide) (Nat.le_of_ble_eq_true rfl) ?_
  intro p e s m below meth c A hx hb hr hlocks hml hown hts hA hN hK hP hD ls hl
  have hS : va_S A s.heap s.heap [] := va_S.rf
  have hl : lv_has ls 2 [(0, .ref (h 0)), (1, .int a1)] := hl
  have e : F_D_commandValve w0 a1 = F_D_commandValve w0 a1 := rfl
  refine lv_aload_n hx hb dD_commandValve_0 rfl (lv_at hl 0 rfl) ?_
  refine va_get (D := D) (ci := 0) (v := .ref (h 5)) (C := "BoilerDesk") (T := TD) (N := 13) hx hb hts inD hown hK hP 0 rfl rfl 4 (by decide) (hts _ q_276) (fun _ h9 => h9) rfl dD_commandValve_1 ?_
  refine lv_iload_n hx hb dD_commandValve_4 rfl (lv_at hl 1 rfl) ?_
  refine lv_if_eq (tgt := 22) hx hb dD_commandValve_5 (by decide) (fun c_1 => ?_) (fun c_1 => ?_)
  · have e := e.trans (if_pos c_1)
    refine lv_iconst (v := 0) hx hb dD_commandValve_22 (by decide) ?_
    refine kb_put (D := D) (wf := cw h) (w' := (up w0 33 0)) (ci := 4) (v := .int 0) (ty := .boolean) (C := "BoilerDesk$Report") (T := TR) (N := 7) hx hb hts inR tyR tyR_ok nmR hown hK hP hD hS 5 rfl rfl 2 (by decide) (hts _ q_201) (fun _ h9 => h9) rfl (by decide +kernel) rfl rfl (Nat.le_of_ble_eq_true rfl) dD_commandValve_23 rfl (fun H locs hP hD hS => ?_)
    refine lv_aload_n hx hb dD_commandValve_26 rfl (lv_at hl 0 rfl) ?_
    refine va_get (D := D) (ci := 0) (v := .ref (h 5)) (C := "BoilerDesk") (T := TD) (N := 13) hx hb hts inD hown hK hP 0 rfl rfl 4 (by decide) (hts _ q_276) (fun _ h9 => h9) rfl dD_commandValve_27 ?_
    refine lv_aload_n hx hb dD_commandValve_30 rfl (lv_at hl 0 rfl) ?_
    refine va_get (D := D) (ci := 0) (v := .ref (h 4)) (C := "BoilerDesk") (T := TD) (N := 13) hx hb hts inD hown hK hP 0 rfl rfl 3 (by decide) (hts _ q_275) (fun _ h9 => h9) rfl dD_commandValve_31 ?_
    refine va_get (D := D) (ci := 2) (v := .int (w0 30)) (C := "BoilerDesk$Machines") (T := TM) (N := 4) hx hb hts inM hown hK hP 4 rfl rfl 3 (by decide) (hts _ q_180) (fun _ h9 => h9) rfl dD_commandValve_34 ?_
    refine lv_if_eq (tgt := 48) hx hb dD_commandValve_37 (by decide) (fun c_2 => ?_) (fun c_2 => ?_)
    · have e := e.trans (if_pos c_2)
      refine lv_iconst (v := 0) hx hb dD_commandValve_48 (by decide) ?_
      refine kb_put (D := D) (wf := cw h) (w' := (up (up w0 33 0) 34 0)) (ci := 4) (v := .int 0) (ty := .boolean) (C := "BoilerDesk$Report") (T := TR) (N := 7) hx hb hts inR tyR tyR_ok nmR hown hK hP hD hS 5 rfl rfl 3 (by decide) (hts _ q_203) (fun _ h9 => h9) rfl (by decide +kernel) rfl rfl (Nat.le_of_ble_eq_true rfl) dD_commandValve_49 rfl (fun H locs hP hD hS => ?_)
      refine lv_aload_n hx hb dD_commandValve_52 rfl (lv_at hl 0 rfl) ?_
      refine va_get (D := D) (ci := 0) (v := .ref (h 4)) (C := "BoilerDesk") (T := TD) (N := 13) hx hb hts inD hown hK hP 0 rfl rfl 3 (by decide) (hts _ q_275) (fun _ h9 => h9) rfl dD_commandValve_53 ?_
      refine lv_iload_n hx hb dD_commandValve_56 rfl (lv_at hl 1 rfl) ?_
      refine kb_put (D := D) (wf := cw h) (w' := (up (up (up w0 33 0) 34 0) 30 a1)) (ci := 2) (v := .int a1) (ty := .boolean) (C := "BoilerDesk$Machines") (T := TM) (N := 4) hx hb hts inM tyM tyM_ok nmM hown hK hP hD hS 4 rfl rfl 3 (by decide) (hts _ q_180) (fun _ h9 => h9) rfl (by decide +kernel) (zb_n z1) (zb_f z1) (Nat.le_of_ble_eq_true rfl) dD_commandValve_57 rfl (fun H locs hP hD hS => ?_)
      exact kb_vret (wf := cw h) hx hb hr hlocks hK hP hD hS e.symm dD_commandValve_60
    · have e := e.trans (if_neg c_2)
      refine lv_iload_n hx hb dD_commandValve_40 rfl (lv_at hl 1 rfl) ?_
      refine lv_if_ne (tgt := 48) hx hb dD_commandValve_41 (by decide) (fun c9 => absurd c_1 c9) (fun _ => ?_)
      refine lv_iconst (v := 1) hx hb dD_commandValve_44 (by decide) ?_
      refine lv_goto (tgt := 49) hx hb dD_commandValve_45 (by decide) ?_
      refine kb_put (D := D) (wf := cw h) (w' := (up (up w0 33 0) 34 1)) (ci := 4) (v := .int 1) (ty := .boolean) (C := "BoilerDesk$Report") (T := TR) (N := 7) hx hb hts inR tyR tyR_ok nmR hown hK hP hD hS 5 rfl rfl 3 (by decide) (hts _ q_203) (fun _ h9 => h9) rfl (by decide +kernel) rfl rfl (Nat.le_of_ble_eq_true rfl) dD_commandValve_49 rfl (fun H locs hP hD hS => ?_)
      refine lv_aload_n hx hb dD_commandValve_52 rfl (lv_at hl 0 rfl) ?_
      refine va_get (D := D) (ci := 0) (v := .ref (h 4)) (C := "BoilerDesk") (T := TD) (N := 13) hx hb hts inD hown hK hP 0 rfl rfl 3 (by decide) (hts _ q_275) (fun _ h9 => h9) rfl dD_commandValve_53 ?_
      refine lv_iload_n hx hb dD_commandValve_56 rfl (lv_at hl 1 rfl) ?_
      refine kb_put (D := D) (wf := cw h) (w' := (up (up (up w0 33 0) 34 1) 30 a1)) (ci := 2) (v := .int a1) (ty := .boolean) (C := "BoilerDesk$Machines") (T := TM) (N := 4) hx hb hts inM tyM tyM_ok nmM hown hK hP hD hS 4 rfl rfl 3 (by decide) (hts _ q_180) (fun _ h9 => h9) rfl (by decide +kernel) (zb_n z1) (zb_f z1) (Nat.le_of_ble_eq_true rfl) dD_commandValve_57 rfl (fun H locs hP hD hS => ?_)
      exact kb_vret (wf := cw h) hx hb hr hlocks hK hP hD hS e.symm dD_commandValve_60
  · have e := e.trans (if_neg c_1)
    refine lv_aload_n hx hb dD_commandValve_8 rfl (lv_at hl 0 rfl) ?_
    refine va_get (D := D) (ci := 0) (v := .ref (h 4)) (C := "BoilerDesk") (T := TD) (N := 13) hx hb hts inD hown hK hP 0 rfl rfl 3 (by decide) (hts _ q_275) (fun _ h9 => h9) rfl dD_commandValve_9 ?_
    refine va_get (D := D) (ci := 2) (v := .int (w0 30)) (C := "BoilerDesk$Machines") (T := TM) (N := 4) hx hb hts inM hown hK hP 4 rfl rfl 3 (by decide) (hts _ q_180) (fun _ h9 => h9) rfl dD_commandValve_12 ?_
    refine lv_if_ne (tgt := 22) hx hb dD_commandValve_15 (by decide) (fun c_3 => ?_) (fun c_3 => ?_)
    · have e := e.trans (if_neg c_3)
      refine lv_iconst (v := 0) hx hb dD_commandValve_22 (by decide) ?_
      refine kb_put (D := D) (wf := cw h) (w' := (up w0 33 0)) (ci := 4) (v := .int 0) (ty := .boolean) (C := "BoilerDesk$Report") (T := TR) (N := 7) hx hb hts inR tyR tyR_ok nmR hown hK hP hD hS 5 rfl rfl 2 (by decide) (hts _ q_201) (fun _ h9 => h9) rfl (by decide +kernel) rfl rfl (Nat.le_of_ble_eq_true rfl) dD_commandValve_23 rfl (fun H locs hP hD hS => ?_)
      refine lv_aload_n hx hb dD_commandValve_26 rfl (lv_at hl 0 rfl) ?_
      refine va_get (D := D) (ci := 0) (v := .ref (h 5)) (C := "BoilerDesk") (T := TD) (N := 13) hx hb hts inD hown hK hP 0 rfl rfl 4 (by decide) (hts _ q_276) (fun _ h9 => h9) rfl dD_commandValve_27 ?_
      refine lv_aload_n hx hb dD_commandValve_30 rfl (lv_at hl 0 rfl) ?_
      refine va_get (D := D) (ci := 0) (v := .ref (h 4)) (C := "BoilerDesk") (T := TD) (N := 13) hx hb hts inD hown hK hP 0 rfl rfl 3 (by decide) (hts _ q_275) (fun _ h9 => h9) rfl dD_commandValve_31 ?_
      refine va_get (D := D) (ci := 2) (v := .int (w0 30)) (C := "BoilerDesk$Machines") (T := TM) (N := 4) hx hb hts inM hown hK hP 4 rfl rfl 3 (by decide) (hts _ q_180) (fun _ h9 => h9) rfl dD_commandValve_34 ?_
      refine lv_if_eq (tgt := 48) hx hb dD_commandValve_37 (by decide) (fun c9 => absurd c9 c_3) (fun _ => ?_)
      refine lv_iload_n hx hb dD_commandValve_40 rfl (lv_at hl 1 rfl) ?_
      refine lv_if_ne (tgt := 48) hx hb dD_commandValve_41 (by decide) (fun _ => ?_) (fun c9 => absurd c9 c_1)
      refine lv_iconst (v := 0) hx hb dD_commandValve_48 (by decide) ?_
      refine kb_put (D := D) (wf := cw h) (w' := (up (up w0 33 0) 34 0)) (ci := 4) (v := .int 0) (ty := .boolean) (C := "BoilerDesk$Report") (T := TR) (N := 7) hx hb hts inR tyR tyR_ok nmR hown hK hP hD hS 5 rfl rfl 3 (by decide) (hts _ q_203) (fun _ h9 => h9) rfl (by decide +kernel) rfl rfl (Nat.le_of_ble_eq_true rfl) dD_commandValve_49 rfl (fun H locs hP hD hS => ?_)
      refine lv_aload_n hx hb dD_commandValve_52 rfl (lv_at hl 0 rfl) ?_
      refine va_get (D := D) (ci := 0) (v := .ref (h 4)) (C := "BoilerDesk") (T := TD) (N := 13) hx hb hts inD hown hK hP 0 rfl rfl 3 (by decide) (hts _ q_275) (fun _ h9 => h9) rfl dD_commandValve_53 ?_
      refine lv_iload_n hx hb dD_commandValve_56 rfl (lv_at hl 1 rfl) ?_
      refine kb_put (D := D) (wf := cw h) (w' := (up (up (up w0 33 0) 34 0) 30 a1)) (ci := 2) (v := .int a1) (ty := .boolean) (C := "BoilerDesk$Machines") (T := TM) (N := 4) hx hb hts inM tyM tyM_ok nmM hown hK hP hD hS 4 rfl rfl 3 (by decide) (hts _ q_180) (fun _ h9 => h9) rfl (by decide +kernel) (zb_n z1) (zb_f z1) (Nat.le_of_ble_eq_true rfl) dD_commandValve_57 rfl (fun H locs hP hD hS => ?_)
      exact kb_vret (wf := cw h) hx hb hr hlocks hK hP hD hS e.symm dD_commandValve_60
    · have e := e.trans (if_pos c_3)
      refine lv_iconst (v := 1) hx hb dD_commandValve_18 (by decide) ?_
      refine lv_goto (tgt := 23) hx hb dD_commandValve_19 (by decide) ?_
      refine kb_put (D := D) (wf := cw h) (w' := (up w0 33 1)) (ci := 4) (v := .int 1) (ty := .boolean) (C := "BoilerDesk$Report") (T := TR) (N := 7) hx hb hts inR tyR tyR_ok nmR hown hK hP hD hS 5 rfl rfl 2 (by decide) (hts _ q_201) (fun _ h9 => h9) rfl (by decide +kernel) rfl rfl (Nat.le_of_ble_eq_true rfl) dD_commandValve_23 rfl (fun H locs hP hD hS => ?_)
      refine lv_aload_n hx hb dD_commandValve_26 rfl (lv_at hl 0 rfl) ?_
      refine va_get (D := D) (ci := 0) (v := .ref (h 5)) (C := "BoilerDesk") (T := TD) (N := 13) hx hb hts inD hown hK hP 0 rfl rfl 4 (by decide) (hts _ q_276) (fun _ h9 => h9) rfl dD_commandValve_27 ?_
      refine lv_aload_n hx hb dD_commandValve_30 rfl (lv_at hl 0 rfl) ?_
      refine va_get (D := D) (ci := 0) (v := .ref (h 4)) (C := "BoilerDesk") (T := TD) (N := 13) hx hb hts inD hown hK hP 0 rfl rfl 3 (by decide) (hts _ q_275) (fun _ h9 => h9) rfl dD_commandValve_31 ?_
      refine va_get (D := D) (ci := 2) (v := .int (w0 30)) (C := "BoilerDesk$Machines") (T := TM) (N := 4) hx hb hts inM hown hK hP 4 rfl rfl 3 (by decide) (hts _ q_180) (fun _ h9 => h9) rfl dD_commandValve_34 ?_
      refine lv_if_eq (tgt := 48) hx hb dD_commandValve_37 (by decide) (fun _ => ?_) (fun c9 => absurd c_3 c9)
      refine lv_iconst (v := 0) hx hb dD_commandValve_48 (by decide) ?_
      refine kb_put (D := D) (wf := cw h) (w' := (up (up w0 33 1) 34 0)) (ci := 4) (v := .int 0) (ty := .boolean) (C := "BoilerDesk$Report") (T := TR) (N := 7) hx hb hts inR tyR tyR_ok nmR hown hK hP hD hS 5 rfl rfl 3 (by decide) (hts _ q_203) (fun _ h9 => h9) rfl (by decide +kernel) rfl rfl (Nat.le_of_ble_eq_true rfl) dD_commandValve_49 rfl (fun H locs hP hD hS => ?_)
      refine lv_aload_n hx hb dD_commandValve_52 rfl (lv_at hl 0 rfl) ?_
      refine va_get (D := D) (ci := 0) (v := .ref (h 4)) (C := "BoilerDesk") (T := TD) (N := 13) hx hb hts inD hown hK hP 0 rfl rfl 3 (by decide) (hts _ q_275) (fun _ h9 => h9) rfl dD_commandValve_53 ?_
      refine lv_iload_n hx hb dD_commandValve_56 rfl (lv_at hl 1 rfl) ?_
      refine kb_put (D := D) (wf := cw h) (w' := (up (up (up w0 33 1) 34 0) 30 a1)) (ci := 2) (v := .int a1) (ty := .boolean) (C := "BoilerDesk$Machines") (T := TM) (N := 4) hx hb hts inM tyM tyM_ok nmM hown hK hP hD hS 4 rfl rfl 3 (by decide) (hts _ q_180) (fun _ h9 => h9) rfl (by decide +kernel) (zb_n z1) (zb_f z1) (Nat.le_of_ble_eq_true rfl) dD_commandValve_57 rfl (fun H locs hP hD hS => ?_)
      exact kb_vret (wf := cw h) hx hb hr hlocks hK hP hD hS e.symm dD_commandValve_60
/-- BoilerDesk.commandPumps(I)V -/
def F_D_commandPumps (w0 : Nat → Int32) (a1 : Int32) : Nat → Int32 := (up (up (up w0 31 (a1 &&& ((w0 27) ^^^ ((-1) : Int32)))) 32 ((w0 27) &&& (a1 ^^^ ((-1) : Int32)))) 27 a1)
set_option maxHeartbeats 4000000 in
set_option maxRecDepth 100000 in
theorem c_D_commandPumps (l : Launch) (D : va_G) (h : Nat → Nat) (sz : Nat) (w0 : Nat → Int32) (a1 : Int32)  : Met l yD_commandPumps [.code yD_commandPumps cD_commandPumps 2 none] ({ frames := 0, cells := 0, slots := 0, locals := 0 }) (va_Pc [.ref (h 0), .int a1] (kb_B D [] (cw h) w0 sz)) (va_Qv (fun u' => u' = F_D_commandPumps w0 a1) (kb_E D [] (cw h) (va_A (cw h w0) sz)) (va_A (cw h w0) sz)) 0 0 (va_A (cw h w0) sz) := by
  refine kb_of (cc := cD_commandPumps) (maxL := 2) (ret := none) (QcA := fun A => (va_Qv (fun u' => u' = F_D_commandPumps w0 a1) (kb_E D [] (cw h) A) A)) (by decide) (Nat.le_of_ble_eq_true rfl) ?_
  intro p e s m below meth c A hx hb hr hlocks hml hown hts hA hN hK hP hD ls hl
  have hS : va_S A s.heap s.heap [] := va_S.rf
  have hl : lv_has ls 2 [(0, .ref (h 0)), (1, .int a1)] := hl
  have e : F_D_commandPumps w0 a1 = F_D_commandPumps w0 a1 := rfl
  refine lv_aload_n hx hb dD_commandPumps_0 rfl (lv_at hl 0 rfl) ?_
  refine va_get (D := D) (ci := 0) (v := .ref (h 5)) (C := "BoilerDesk") (T := TD) (N := 13) hx hb hts inD hown hK hP 0 rfl rfl 4 (by decide) (hts _ q_276) (fun _ h9 => h9) rfl dD_commandPumps_1 ?_
  refine lv_iload_n hx hb dD_commandPumps_4 rfl (lv_at hl 1 rfl) ?_
  refine lv_aload_n hx hb dD_commandPumps_5 rfl (lv_at hl 0 rfl) ?_
  refine va_get (D := D) (ci := 0) (v := .ref (h 4)) (C := "BoilerDesk") (T := TD) (N := 13) hx hb hts inD hown hK hP 0 rfl rfl 3 (by decide) (hts _ q_275) (fun _ h9 => h9) rfl dD_commandPumps_6 ?_
  refine va_get (D := D) (ci := 2) (v := .int (w0 27)) (C := "BoilerDesk$Machines") (T := TM) (N := 4) hx hb hts inM hown hK hP 4 rfl rfl 0 (by decide) (hts _ q_175) (fun _ h9 => h9) rfl dD_commandPumps_9 ?_
  refine lv_iconst (v := (-1)) hx hb dD_commandPumps_12 (by decide) ?_
  refine lv_ixor hx hb dD_commandPumps_13 ?_
  refine lv_iand hx hb dD_commandPumps_14 ?_
  refine kb_put (D := D) (wf := cw h) (w' := (up w0 31 (a1 &&& ((w0 27) ^^^ ((-1) : Int32))))) (ci := 4) (v := .int (a1 &&& ((w0 27) ^^^ ((-1) : Int32)))) (ty := .int) (C := "BoilerDesk$Report") (T := TR) (N := 7) hx hb hts inR tyR tyR_ok nmR hown hK hP hD hS 5 rfl rfl 0 (by decide) (hts _ q_197) (fun _ h9 => h9) rfl (by decide +kernel) rfl rfl (Nat.le_of_ble_eq_true rfl) dD_commandPumps_15 rfl (fun H locs hP hD hS => ?_)
  refine lv_aload_n hx hb dD_commandPumps_18 rfl (lv_at hl 0 rfl) ?_
  refine va_get (D := D) (ci := 0) (v := .ref (h 5)) (C := "BoilerDesk") (T := TD) (N := 13) hx hb hts inD hown hK hP 0 rfl rfl 4 (by decide) (hts _ q_276) (fun _ h9 => h9) rfl dD_commandPumps_19 ?_
  refine lv_aload_n hx hb dD_commandPumps_22 rfl (lv_at hl 0 rfl) ?_
  refine va_get (D := D) (ci := 0) (v := .ref (h 4)) (C := "BoilerDesk") (T := TD) (N := 13) hx hb hts inD hown hK hP 0 rfl rfl 3 (by decide) (hts _ q_275) (fun _ h9 => h9) rfl dD_commandPumps_23 ?_
  refine va_get (D := D) (ci := 2) (v := .int (w0 27)) (C := "BoilerDesk$Machines") (T := TM) (N := 4) hx hb hts inM hown hK hP 4 rfl rfl 0 (by decide) (hts _ q_175) (fun _ h9 => h9) rfl dD_commandPumps_26 ?_
  refine lv_iload_n hx hb dD_commandPumps_29 rfl (lv_at hl 1 rfl) ?_
  refine lv_iconst (v := (-1)) hx hb dD_commandPumps_30 (by decide) ?_
  refine lv_ixor hx hb dD_commandPumps_31 ?_
  refine lv_iand hx hb dD_commandPumps_32 ?_
  refine kb_put (D := D) (wf := cw h) (w' := (up (up w0 31 (a1 &&& ((w0 27) ^^^ ((-1) : Int32)))) 32 ((w0 27) &&& (a1 ^^^ ((-1) : Int32))))) (ci := 4) (v := .int ((w0 27) &&& (a1 ^^^ ((-1) : Int32)))) (ty := .int) (C := "BoilerDesk$Report") (T := TR) (N := 7) hx hb hts inR tyR tyR_ok nmR hown hK hP hD hS 5 rfl rfl 1 (by decide) (hts _ q_199) (fun _ h9 => h9) rfl (by decide +kernel) rfl rfl (Nat.le_of_ble_eq_true rfl) dD_commandPumps_33 rfl (fun H locs hP hD hS => ?_)
  refine lv_aload_n hx hb dD_commandPumps_36 rfl (lv_at hl 0 rfl) ?_
  refine va_get (D := D) (ci := 0) (v := .ref (h 4)) (C := "BoilerDesk") (T := TD) (N := 13) hx hb hts inD hown hK hP 0 rfl rfl 3 (by decide) (hts _ q_275) (fun _ h9 => h9) rfl dD_commandPumps_37 ?_
  refine lv_iload_n hx hb dD_commandPumps_40 rfl (lv_at hl 1 rfl) ?_
  refine kb_put (D := D) (wf := cw h) (w' := (up (up (up w0 31 (a1 &&& ((w0 27) ^^^ ((-1) : Int32)))) 32 ((w0 27) &&& (a1 ^^^ ((-1) : Int32)))) 27 a1)) (ci := 2) (v := .int a1) (ty := .int) (C := "BoilerDesk$Machines") (T := TM) (N := 4) hx hb hts inM tyM tyM_ok nmM hown hK hP hD hS 4 rfl rfl 0 (by decide) (hts _ q_175) (fun _ h9 => h9) rfl (by decide +kernel) rfl rfl (Nat.le_of_ble_eq_true rfl) dD_commandPumps_41 rfl (fun H locs hP hD hS => ?_)
  exact kb_vret (wf := cw h) hx hb hr hlocks hK hP hD hS e.symm dD_commandPumps_44
/-- BoilerDesk.turnOnGoodPumps()V -/
def F_D_turnOnGoodPumps (w0 : Nat → Int32)  : Nat → Int32 := (F_D_commandPumps w0 ((w0 27) ||| ((15 : Int32) &&& (((w0 25) >>> ((2 : Int32) &&& 31)) ^^^ ((-1) : Int32)))))
set_option maxHeartbeats 4000000 in
set_option maxRecDepth 100000 in
theorem c_D_turnOnGoodPumps (l : Launch) (D : va_G) (h : Nat → Nat) (sz : Nat) (w0 : Nat → Int32)   : Met l yD_turnOnGoodPumps [.code yD_turnOnGoodPumps cD_turnOnGoodPumps 2 none] ({ frames := 1, cells := 0, slots := 0, locals := 21 }) (va_Pc [.ref (h 0)] (kb_B D [] (cw h) w0 sz)) (va_Qv (fun u' => u' = F_D_turnOnGoodPumps w0) (kb_E D [] (cw h) (va_A (cw h w0) sz)) (va_A (cw h w0) sz)) 0 0 (va_A (cw h w0) sz) := by
  refine kb_of (cc := cD_turnOnGoodPumps) (maxL := 2) (ret := none) (QcA := fun A => (va_Qv (fun u' => u' = F_D_turnOnGoodPumps w0) (kb_E D [] (cw h) A) A)) (by decide) (Nat.le_of_ble_eq_true rfl) ?_
  intro p e s m below meth c A hx hb hr hlocks hml hown hts hA hN hK hP hD ls hl
  have hS : va_S A s.heap s.heap [] := va_S.rf
  have hl : lv_has ls 2 [(0, .ref (h 0))] := hl
  have e : F_D_turnOnGoodPumps w0 = F_D_turnOnGoodPumps w0 := rfl
  refine lv_bipush (v := 15) hx hb dD_turnOnGoodPumps_0 (by decide) ?_
  refine lv_aload_n hx hb dD_turnOnGoodPumps_2 rfl (lv_at hl 0 rfl) ?_
  refine va_get (D := D) (ci := 0) (v := .ref (h 3)) (C := "BoilerDesk") (T := TD) (N := 13) hx hb hts inD hown hK hP 0 rfl rfl 2 (by decide) (hts _ q_274) (fun _ h9 => h9) rfl dD_turnOnGoodPumps_3 ?_
  refine va_get (D := D) (ci := 6) (v := .int (w0 25)) (C := "BoilerDesk$Units") (T := TU) (N := 2) hx hb hts inU hown hK hP 3 rfl rfl 0 (by decide) (hts _ q_160) (fun _ h9 => h9) rfl dD_turnOnGoodPumps_6 ?_
  refine lv_iconst (v := 2) hx hb dD_turnOnGoodPumps_9 (by decide) ?_
  refine lv_ishr hx hb dD_turnOnGoodPumps_10 ?_
  refine lv_iconst (v := (-1)) hx hb dD_turnOnGoodPumps_11 (by decide) ?_
  refine lv_ixor hx hb dD_turnOnGoodPumps_12 ?_
  refine lv_iand hx hb dD_turnOnGoodPumps_13 ?_
  refine lv_istore_n (lv' := [(1, .int ((15 : Int32) &&& (((w0 25) >>> ((2 : Int32) &&& 31)) ^^^ ((-1) : Int32)))), (0, .ref (h 0))]) hx hb dD_turnOnGoodPumps_14 rfl hl (by decide) rfl (fun ls hl => ?_)
  refine lv_aload_n hx hb dD_turnOnGoodPumps_15 rfl (lv_at hl 1 rfl) ?_
  refine lv_aload_n hx hb dD_turnOnGoodPumps_16 rfl (lv_at hl 1 rfl) ?_
  refine va_get (D := D) (ci := 0) (v := .ref (h 4)) (C := "BoilerDesk") (T := TD) (N := 13) hx hb hts inD hown hK hP 0 rfl rfl 3 (by decide) (hts _ q_275) (fun _ h9 => h9) rfl dD_turnOnGoodPumps_17 ?_
  refine va_get (D := D) (ci := 2) (v := .int (w0 27)) (C := "BoilerDesk$Machines") (T := TM) (N := 4) hx hb hts inM hown hK hP 4 rfl rfl 0 (by decide) (hts _ q_175) (fun _ h9 => h9) rfl dD_turnOnGoodPumps_20 ?_
  refine lv_iload_n hx hb dD_turnOnGoodPumps_23 rfl (lv_at hl 0 rfl) ?_
  refine lv_ior hx hb dD_turnOnGoodPumps_24 ?_
  refine kb_callv (wf := cw h) (u := F_D_commandPumps w0 ((w0 27) ||| ((15 : Int32) &&& (((w0 25) >>> ((2 : Int32) &&& 31)) ^^^ ((-1) : Int32))))) (va_runV (As := [.int ((w0 27) ||| ((15 : Int32) &&& (((w0 25) >>> ((2 : Int32) &&& 31)) ^^^ ((-1) : Int32))))]) (rest := []) ⟨hx, hb, hml, hown, hts⟩ (c_D_commandPumps l D h _ w0 ((w0 27) ||| ((15 : Int32) &&& (((w0 25) >>> ((2 : Int32) &&& 31)) ^^^ ((-1) : Int32))))) (cwV 1 hts (gd_V q_601 q_603 q_19 q_33 q_604) rfl rfl rfl (by decide +kernel) ⟨Nat.le_of_ble_eq_true rfl, Nat.le_of_ble_eq_true rfl⟩) (kb_preV hN hK hP hD (va_recv hK hP (ci := 0) (q0 := 0) rfl rfl)) rfl rfl hl.1 rfl (lv_room (Nat.le_of_ble_eq_true rfl)) dD_turnOnGoodPumps_25 ⟨Nat.zero_le _, Nat.zero_le _⟩) hP hD hS hA (fun H locs hP hD hS => ?_)
  exact kb_vret (wf := cw h) hx hb hr hlocks hK hP hD hS e.symm dD_turnOnGoodPumps_28
/-- BoilerDesk.commandInInitial()V -/
def K_D_commandInInitial_55  (w : Nat → Int32)  : Nat → Int32 := (up w 37 (F_P_isNormalLevel w (w 14)))
def F_D_commandInInitial (w0 : Nat → Int32)  : Nat → Int32 := (if (w0 14) ≤ (w0 7) then (if (F_D_commandValve w0 (0 : Int32) 6) ≤ (F_D_commandValve w0 (0 : Int32) 14) then K_D_commandInInitial_55 (F_D_commandPumps (F_D_commandValve w0 (0 : Int32)) (0 : Int32)) else K_D_commandInInitial_55 (F_D_turnOnGoodPumps (F_D_commandValve w0 (0 : Int32)))) else (if (F_D_commandValve w0 (1 : Int32) 6) ≤ (F_D_commandValve w0 (1 : Int32) 14) then K_D_commandInInitial_55 (F_D_commandPumps (F_D_commandValve w0 (1 : Int32)) (0 : Int32)) else K_D_commandInInitial_55 (F_D_turnOnGoodPumps (F_D_commandValve w0 (1 : Int32)))))
set_option maxHeartbeats 4000000 in
set_option maxRecDepth 100000 in
theorem c_D_commandInInitial (l : Launch) (D : va_G) (h : Nat → Nat) (sz : Nat) (w0 : Nat → Int32)   : Met l yD_commandInInitial [.code yD_commandInInitial cD_commandInInitial 1 none] ({ frames := 2, cells := 0, slots := 0, locals := 43 }) (va_Pc [.ref (h 0)] (kb_B D [] (cw h) w0 sz)) (va_Qv (fun u' => u' = F_D_commandInInitial w0) (kb_E D [] (cw h) (va_A (cw h w0) sz)) (va_A (cw h w0) sz)) 0 0 (va_A (cw h w0) sz) := by
  refine kb_of (cc := cD_commandInInitial) (maxL := 1) (ret := none) (QcA := fun A => (va_Qv (fun u' => u' = F_D_commandInInitial w0) (kb_E D [] (cw h) A) A)) (by decide) (Nat.le_of_ble_eq_true rfl) ?_
  intro p e s m below meth c A hx hb hr hlocks hml hown hts hA hN hK hP hD ls hl
  have hS : va_S A s.heap s.heap [] := va_S.rf
  have hl : lv_has ls 1 [(0, .ref (h 0))] := hl
  have k_55 : ∀ (w : Nat → Int32) (H : Heap) (locs : List Loc) (ls : Array Slot), F_D_commandInInitial w0 = K_D_commandInInitial_55 w → va_P D vwCl (cw h w) H → va_D A (cw h w) → va_S A s.heap H locs → lv_has ls 1 [(0, .ref (h 0))] → W p l e ({ frames := 2, cells := 0, slots := 0, locals := 43 }) s m [.ref (h 0)].toArray below meth c H locs 0 0 (MQ below (va_Qv (fun u' => u' = F_D_commandInInitial w0) (kb_E D [] (cw h) A) A) [.ref (h 0)].toArray s 0 0 A) (F0 m 55 ls []) := by
      intro w H locs ls e hP hD hS hl
      refine lv_aload_n hx hb dD_commandInInitial_55 rfl (lv_at hl 0 rfl) ?_
      refine va_get (D := D) (ci := 0) (v := .ref (h 5)) (C := "BoilerDesk") (T := TD) (N := 13) hx hb hts inD hown hK hP 0 rfl rfl 4 (by decide) (hts _ q_276) (fun _ h9 => h9) rfl dD_commandInInitial_56 ?_
      refine lv_aload_n hx hb dD_commandInInitial_59 rfl (lv_at hl 0 rfl) ?_
      refine va_get (D := D) (ci := 0) (v := .ref (h 1)) (C := "BoilerDesk") (T := TD) (N := 13) hx hb hts inD hown hK hP 0 rfl rfl 0 (by decide) (hts _ q_272) (fun _ h9 => h9) rfl dD_commandInInitial_60 ?_
      refine lv_aload_n hx hb dD_commandInInitial_63 rfl (lv_at hl 0 rfl) ?_
      refine va_get (D := D) (ci := 0) (v := .ref (h 2)) (C := "BoilerDesk") (T := TD) (N := 13) hx hb hts inD hown hK hP 0 rfl rfl 1 (by decide) (hts _ q_273) (fun _ h9 => h9) rfl dD_commandInInitial_64 ?_
      refine va_get (D := D) (ci := 1) (v := .int (w 14)) (C := "BoilerDesk$Inbox") (T := TI) (N := 12) hx hb hts inI hown hK hP 2 rfl rfl 1 (by decide) (hts _ q_107) (fun _ h9 => h9) rfl dD_commandInInitial_67 ?_
      refine kb_calli (wf := cw h) (r := (F_P_isNormalLevel w (w 14))) (u := w) (va_runV (As := [.int (w 14)]) (rest := [.ref (h 5)]) ⟨hx, hb, hml, hown, hts⟩ (c_P_isNormalLevel l D h _ w (w 14)) (cwV 1 hts (gd_V q_568 q_569 q_570 q_34 q_571) rfl rfl rfl (by decide +kernel) ⟨Nat.le_of_ble_eq_true rfl, Nat.le_of_ble_eq_true rfl⟩) (kb_preV hN hK hP hD (va_recv hK hP (ci := 3) (q0 := 1) rfl rfl)) rfl rfl hl.1 rfl (lv_room (Nat.le_of_ble_eq_true rfl)) dD_commandInInitial_70 ⟨Nat.zero_le _, Nat.zero_le _⟩) hP hD hS hA (fun H locs hP hD hS => ?_)
      refine kb_put (D := D) (wf := cw h) (w' := (up w 37 (F_P_isNormalLevel w (w 14)))) (ci := 4) (v := .int (F_P_isNormalLevel w (w 14))) (ty := .boolean) (C := "BoilerDesk$Report") (T := TR) (N := 7) hx hb hts inR tyR tyR_ok nmR hown hK hP hD hS 5 rfl rfl 6 (by decide) (hts _ q_209) (fun _ h9 => h9) rfl (by decide +kernel) (zb_n (z_P_isNormalLevel w (w 14))) (zb_f (z_P_isNormalLevel w (w 14))) (Nat.le_of_ble_eq_true rfl) dD_commandInInitial_73 rfl (fun H locs hP hD hS => ?_)
      exact kb_vret (wf := cw h) hx hb hr hlocks hK hP hD hS e.symm dD_commandInInitial_76
  have e : F_D_commandInInitial w0 = F_D_commandInInitial w0 := rfl
  refine lv_aload_n hx hb dD_commandInInitial_0 rfl (lv_at hl 0 rfl) ?_
  refine lv_aload_n hx hb dD_commandInInitial_1 rfl (lv_at hl 0 rfl) ?_
  refine va_get (D := D) (ci := 0) (v := .ref (h 2)) (C := "BoilerDesk") (T := TD) (N := 13) hx hb hts inD hown hK hP 0 rfl rfl 1 (by decide) (hts _ q_273) (fun _ h9 => h9) rfl dD_commandInInitial_2 ?_
  refine va_get (D := D) (ci := 1) (v := .int (w0 14)) (C := "BoilerDesk$Inbox") (T := TI) (N := 12) hx hb hts inI hown hK hP 2 rfl rfl 1 (by decide) (hts _ q_107) (fun _ h9 => h9) rfl dD_commandInInitial_5 ?_
  refine lv_aload_n hx hb dD_commandInInitial_8 rfl (lv_at hl 0 rfl) ?_
  refine va_get (D := D) (ci := 0) (v := .ref (h 1)) (C := "BoilerDesk") (T := TD) (N := 13) hx hb hts inD hown hK hP 0 rfl rfl 0 (by decide) (hts _ q_272) (fun _ h9 => h9) rfl dD_commandInInitial_9 ?_
  refine va_get (D := D) (ci := 3) (v := .int (w0 7)) (C := "BoilerDesk$Plant") (T := TP) (N := 9) hx hb hts inP hown hK hP 1 rfl rfl 3 (by decide) (hts _ q_69) (fun _ h9 => h9) rfl dD_commandInInitial_12 ?_
  refine lv_icmp_le (tgt := 22) hx hb dD_commandInInitial_15 (by decide) (fun c_1 => ?_) (fun c_1 => ?_)
  · have e := e.trans (if_pos c_1)
    refine lv_iconst (v := 0) hx hb dD_commandInInitial_22 (by decide) ?_
    refine kb_callv (wf := cw h) (u := F_D_commandValve w0 (0 : Int32)) (va_runV (As := [.int 0]) (rest := []) ⟨hx, hb, hml, hown, hts⟩ (c_D_commandValve l D h _ w0 (0 : Int32) (by decide)) (cwV 1 hts (gd_V q_593 q_595 q_17 q_33 q_596) rfl rfl rfl (by decide +kernel) ⟨Nat.le_of_ble_eq_true rfl, Nat.le_of_ble_eq_true rfl⟩) (kb_preV hN hK hP hD (va_recv hK hP (ci := 0) (q0 := 0) rfl rfl)) rfl rfl hl.1 rfl (lv_room (Nat.le_of_ble_eq_true rfl)) dD_commandInInitial_23 ⟨Nat.zero_le _, Nat.zero_le _⟩) hP hD hS hA (fun H locs hP hD hS => ?_)
    refine lv_aload_n hx hb dD_commandInInitial_26 rfl (lv_at hl 0 rfl) ?_
    refine va_get (D := D) (ci := 0) (v := .ref (h 2)) (C := "BoilerDesk") (T := TD) (N := 13) hx hb hts inD hown hK hP 0 rfl rfl 1 (by decide) (hts _ q_273) (fun _ h9 => h9) rfl dD_commandInInitial_27 ?_
    refine va_get (D := D) (ci := 1) (v := .int (F_D_commandValve w0 (0 : Int32) 14)) (C := "BoilerDesk$Inbox") (T := TI) (N := 12) hx hb hts inI hown hK hP 2 rfl rfl 1 (by decide) (hts _ q_107) (fun _ h9 => h9) rfl dD_commandInInitial_30 ?_
    refine lv_aload_n hx hb dD_commandInInitial_33 rfl (lv_at hl 0 rfl) ?_
    refine va_get (D := D) (ci := 0) (v := .ref (h 1)) (C := "BoilerDesk") (T := TD) (N := 13) hx hb hts inD hown hK hP 0 rfl rfl 0 (by decide) (hts _ q_272) (fun _ h9 => h9) rfl dD_commandInInitial_34 ?_
    refine va_get (D := D) (ci := 3) (v := .int (F_D_commandValve w0 (0 : Int32) 6)) (C := "BoilerDesk$Plant") (T := TP) (N := 9) hx hb hts inP hown hK hP 1 rfl rfl 2 (by decide) (hts _ q_67) (fun _ h9 => h9) rfl dD_commandInInitial_37 ?_
    refine lv_icmp_ge (tgt := 50) hx hb dD_commandInInitial_40 (by decide) (fun c_2 => ?_) (fun c_2 => ?_)
    · have e := e.trans (if_pos c_2)
      refine lv_aload_n hx hb dD_commandInInitial_50 rfl (lv_at hl 0 rfl) ?_
      refine lv_iconst (v := 0) hx hb dD_commandInInitial_51 (by decide) ?_
      refine kb_callv (wf := cw h) (u := F_D_commandPumps (F_D_commandValve w0 (0 : Int32)) (0 : Int32)) (va_runV (As := [.int 0]) (rest := []) ⟨hx, hb, hml, hown, hts⟩ (c_D_commandPumps l D h _ (F_D_commandValve w0 (0 : Int32)) (0 : Int32)) (cwV 1 hts (gd_V q_601 q_603 q_19 q_33 q_604) rfl rfl rfl (by decide +kernel) ⟨Nat.le_of_ble_eq_true rfl, Nat.le_of_ble_eq_true rfl⟩) (kb_preV hN hK hP hD (va_recv hK hP (ci := 0) (q0 := 0) rfl rfl)) rfl rfl hl.1 rfl (lv_room (Nat.le_of_ble_eq_true rfl)) dD_commandInInitial_52 ⟨Nat.zero_le _, Nat.zero_le _⟩) hP hD hS hA (fun H locs hP hD hS => ?_)
      exact k_55 (F_D_commandPumps (F_D_commandValve w0 (0 : Int32)) (0 : Int32)) _ _ _ e hP hD hS (lv_sub hl [0] rfl)
    · have e := e.trans (if_neg c_2)
      refine lv_aload_n hx hb dD_commandInInitial_43 rfl (lv_at hl 0 rfl) ?_
      refine kb_callv (wf := cw h) (u := F_D_turnOnGoodPumps (F_D_commandValve w0 (0 : Int32))) (va_runV (As := []) (rest := []) ⟨hx, hb, hml, hown, hts⟩ (c_D_turnOnGoodPumps l D h _ (F_D_commandValve w0 (0 : Int32))) (cwV 0 hts (gd_V q_597 q_599 q_18 q_33 q_600) rfl rfl rfl (by decide +kernel) ⟨Nat.le_of_ble_eq_true rfl, Nat.le_of_ble_eq_true rfl⟩) (kb_preV hN hK hP hD (va_recv hK hP (ci := 0) (q0 := 0) rfl rfl)) rfl rfl hl.1 rfl (lv_room (Nat.le_of_ble_eq_true rfl)) dD_commandInInitial_44 ⟨Nat.zero_le _, Nat.zero_le _⟩) hP hD hS hA (fun H locs hP hD hS => ?_)
      refine lv_goto (tgt := 55) hx hb dD_commandInInitial_47 (by decide) ?_
      exact k_55 (F_D_turnOnGoodPumps (F_D_commandValve w0 (0 : Int32))) _ _ _ e hP hD hS (lv_sub hl [0] rfl)
  · have e := e.trans (if_neg c_1)
    refine lv_iconst (v := 1) hx hb dD_commandInInitial_18 (by decide) ?_
    refine lv_goto (tgt := 23) hx hb dD_commandInInitial_19 (by decide) ?_
    refine kb_callv (wf := cw h) (u := F_D_commandValve w0 (1 : Int32)) (va_runV (As := [.int 1]) (rest := []) ⟨hx, hb, hml, hown, hts⟩ (c_D_commandValve l D h _ w0 (1 : Int32) (by decide)) (cwV 1 hts (gd_V q_593 q_595 q_17 q_33 q_596) rfl rfl rfl (by decide +kernel) ⟨Nat.le_of_ble_eq_true rfl, Nat.le_of_ble_eq_true rfl⟩) (kb_preV hN hK hP hD (va_recv hK hP (ci := 0) (q0 := 0) rfl rfl)) rfl rfl hl.1 rfl (lv_room (Nat.le_of_ble_eq_true rfl)) dD_commandInInitial_23 ⟨Nat.zero_le _, Nat.zero_le _⟩) hP hD hS hA (fun H locs hP hD hS => ?_)
    refine lv_aload_n hx hb dD_commandInInitial_26 rfl (lv_at hl 0 rfl) ?_
    refine va_get (D := D) (ci := 0) (v := .ref (h 2)) (C := "BoilerDesk") (T := TD) (N := 13) hx hb hts inD hown hK hP 0 rfl rfl 1 (by decide) (hts _ q_273) (fun _ h9 => h9) rfl dD_commandInInitial_27 ?_
    refine va_get (D := D) (ci := 1) (v := .int (F_D_commandValve w0 (1 : Int32) 14)) (C := "BoilerDesk$Inbox") (T := TI) (N := 12) hx hb hts inI hown hK hP 2 rfl rfl 1 (by decide) (hts _ q_107) (fun _ h9 => h9) rfl dD_commandInInitial_30 ?_
    refine lv_aload_n hx hb dD_commandInInitial_33 rfl (lv_at hl 0 rfl) ?_
    refine va_get (D := D) (ci := 0) (v := .ref (h 1)) (C := "BoilerDesk") (T := TD) (N := 13) hx hb hts inD hown hK hP 0 rfl rfl 0 (by decide) (hts _ q_272) (fun _ h9 => h9) rfl dD_commandInInitial_34 ?_
    refine va_get (D := D) (ci := 3) (v := .int (F_D_commandValve w0 (1 : Int32) 6)) (C := "BoilerDesk$Plant") (T := TP) (N := 9) hx hb hts inP hown hK hP 1 rfl rfl 2 (by decide) (hts _ q_67) (fun _ h9 => h9) rfl dD_commandInInitial_37 ?_
    refine lv_icmp_ge (tgt := 50) hx hb dD_commandInInitial_40 (by decide) (fun c_3 => ?_) (fun c_3 => ?_)
    · have e := e.trans (if_pos c_3)
      refine lv_aload_n hx hb dD_commandInInitial_50 rfl (lv_at hl 0 rfl) ?_
      refine lv_iconst (v := 0) hx hb dD_commandInInitial_51 (by decide) ?_
      refine kb_callv (wf := cw h) (u := F_D_commandPumps (F_D_commandValve w0 (1 : Int32)) (0 : Int32)) (va_runV (As := [.int 0]) (rest := []) ⟨hx, hb, hml, hown, hts⟩ (c_D_commandPumps l D h _ (F_D_commandValve w0 (1 : Int32)) (0 : Int32)) (cwV 1 hts (gd_V q_601 q_603 q_19 q_33 q_604) rfl rfl rfl (by decide +kernel) ⟨Nat.le_of_ble_eq_true rfl, Nat.le_of_ble_eq_true rfl⟩) (kb_preV hN hK hP hD (va_recv hK hP (ci := 0) (q0 := 0) rfl rfl)) rfl rfl hl.1 rfl (lv_room (Nat.le_of_ble_eq_true rfl)) dD_commandInInitial_52 ⟨Nat.zero_le _, Nat.zero_le _⟩) hP hD hS hA (fun H locs hP hD hS => ?_)
      exact k_55 (F_D_commandPumps (F_D_commandValve w0 (1 : Int32)) (0 : Int32)) _ _ _ e hP hD hS (lv_sub hl [0] rfl)
    · have e := e.trans (if_neg c_3)
      refine lv_aload_n hx hb dD_commandInInitial_43 rfl (lv_at hl 0 rfl) ?_
      refine kb_callv (wf := cw h) (u := F_D_turnOnGoodPumps (F_D_commandValve w0 (1 : Int32))) (va_runV (As := []) (rest := []) ⟨hx, hb, hml, hown, hts⟩ (c_D_turnOnGoodPumps l D h _ (F_D_commandValve w0 (1 : Int32))) (cwV 0 hts (gd_V q_597 q_599 q_18 q_33 q_600) rfl rfl rfl (by decide +kernel) ⟨Nat.le_of_ble_eq_true rfl, Nat.le_of_ble_eq_true rfl⟩) (kb_preV hN hK hP hD (va_recv hK hP (ci := 0) (q0 := 0) rfl rfl)) rfl rfl hl.1 rfl (lv_room (Nat.le_of_ble_eq_true rfl)) dD_commandInInitial_44 ⟨Nat.zero_le _, Nat.zero_le _⟩) hP hD hS hA (fun H locs hP hD hS => ?_)
      refine lv_goto (tgt := 55) hx hb dD_commandInInitial_47 (by decide) ?_
      exact k_55 (F_D_turnOnGoodPumps (F_D_commandValve w0 (1 : Int32))) _ _ _ e hP hD hS (lv_sub hl [0] rfl)
/-- BoilerDesk.commandInOperation()V -/
def F_D_commandInOperation (w0 : Nat → Int32)  : Nat → Int32 := (if ((F_D_commandValve w0 (0 : Int32) 6) - (F_D_commandValve w0 (0 : Int32) 38)) ≤ (0 : Int32) then (if ((F_D_commandValve w0 (0 : Int32) 39) - (F_D_commandValve w0 (0 : Int32) 7)) ≤ (0 : Int32) then (F_D_commandValve w0 (0 : Int32)) else (F_D_commandPumps (F_D_commandValve w0 (0 : Int32)) (0 : Int32))) else (if ((F_D_commandValve w0 (0 : Int32) 6) - (F_D_commandValve w0 (0 : Int32) 38)) ≤ ((F_D_commandValve w0 (0 : Int32) 39) - (F_D_commandValve w0 (0 : Int32) 7)) then (if ((F_D_commandValve w0 (0 : Int32) 39) - (F_D_commandValve w0 (0 : Int32) 7)) ≤ (0 : Int32) then (F_D_commandValve w0 (0 : Int32)) else (F_D_commandPumps (F_D_commandValve w0 (0 : Int32)) (0 : Int32))) else (F_D_turnOnGoodPumps (F_D_commandValve w0 (0 : Int32)))))
set_option maxHeartbeats 4000000 in
set_option maxRecDepth 100000 in
theorem c_D_commandInOperation (l : Launch) (D : va_G) (h : Nat → Nat) (sz : Nat) (w0 : Nat → Int32)   : Met l yD_commandInOperation [.code yD_commandInOperation cD_commandInOperation 3 none] ({ frames := 2, cells := 0, slots := 0, locals := 42 }) (va_Pc [.ref (h 0)] (kb_B D [] (cw h) w0 sz)) (va_Qv (fun u' => u' = F_D_commandInOperation w0) (kb_E D [] (cw h) (va_A (cw h w0) sz)) (va_A (cw h w0) sz)) 0 0 (va_A (cw h w0) sz) := by
  refine kb_of (cc := cD_commandInOperation) (maxL := 3) (ret := none) (QcA := fun A => (va_Qv (fun u' => u' = F_D_commandInOperation w0) (kb_E D [] (cw h) A) A)) (by decide) (Nat.le_of_ble_eq_true rfl) ?_
  intro p e s m below meth c A hx hb hr hlocks hml hown hts hA hN hK hP hD ls hl
  have hS : va_S A s.heap s.heap [] := va_S.rf
  have hl : lv_has ls 3 [(0, .ref (h 0))] := hl
  have e : F_D_commandInOperation w0 = F_D_commandInOperation w0 := rfl
  refine lv_aload_n hx hb dD_commandInOperation_0 rfl (lv_at hl 0 rfl) ?_
  refine lv_iconst (v := 0) hx hb dD_commandInOperation_1 (by decide) ?_
  refine kb_callv (wf := cw h) (u := F_D_commandValve w0 (0 : Int32)) (va_runV (As := [.int 0]) (rest := []) ⟨hx, hb, hml, hown, hts⟩ (c_D_commandValve l D h _ w0 (0 : Int32) (by decide)) (cwV 1 hts (gd_V q_593 q_595 q_17 q_33 q_596) rfl rfl rfl (by decide +kernel) ⟨Nat.le_of_ble_eq_true rfl, Nat.le_of_ble_eq_true rfl⟩) (kb_preV hN hK hP hD (va_recv hK hP (ci := 0) (q0 := 0) rfl rfl)) rfl rfl hl.1 rfl (lv_room (Nat.le_of_ble_eq_true rfl)) dD_commandInOperation_2 ⟨Nat.zero_le _, Nat.zero_le _⟩) hP hD hS hA (fun H locs hP hD hS => ?_)
  refine lv_aload_n hx hb dD_commandInOperation_5 rfl (lv_at hl 0 rfl) ?_
  refine va_get (D := D) (ci := 0) (v := .ref (h 1)) (C := "BoilerDesk") (T := TD) (N := 13) hx hb hts inD hown hK hP 0 rfl rfl 0 (by decide) (hts _ q_272) (fun _ h9 => h9) rfl dD_commandInOperation_6 ?_
  refine va_get (D := D) (ci := 3) (v := .int (F_D_commandValve w0 (0 : Int32) 6)) (C := "BoilerDesk$Plant") (T := TP) (N := 9) hx hb hts inP hown hK hP 1 rfl rfl 2 (by decide) (hts _ q_67) (fun _ h9 => h9) rfl dD_commandInOperation_9 ?_
  refine lv_aload_n hx hb dD_commandInOperation_12 rfl (lv_at hl 0 rfl) ?_
  refine va_get (D := D) (ci := 0) (v := .ref (h 6)) (C := "BoilerDesk") (T := TD) (N := 13) hx hb hts inD hown hK hP 0 rfl rfl 5 (by decide) (hts _ q_277) (fun _ h9 => h9) rfl dD_commandInOperation_13 ?_
  refine va_get (D := D) (ci := 5) (v := .int (F_D_commandValve w0 (0 : Int32) 38)) (C := "BoilerDesk$Span") (T := TS) (N := 2) hx hb hts inS hown hK hP 6 rfl rfl 0 (by decide) (hts _ q_232) (fun _ h9 => h9) rfl dD_commandInOperation_16 ?_
  refine lv_isub hx hb dD_commandInOperation_19 ?_
  refine lv_istore_n (lv' := [(1, .int ((F_D_commandValve w0 (0 : Int32) 6) - (F_D_commandValve w0 (0 : Int32) 38))), (0, .ref (h 0))]) hx hb dD_commandInOperation_20 rfl hl (by decide) rfl (fun ls hl => ?_)
  refine lv_aload_n hx hb dD_commandInOperation_21 rfl (lv_at hl 1 rfl) ?_
  refine va_get (D := D) (ci := 0) (v := .ref (h 6)) (C := "BoilerDesk") (T := TD) (N := 13) hx hb hts inD hown hK hP 0 rfl rfl 5 (by decide) (hts _ q_277) (fun _ h9 => h9) rfl dD_commandInOperation_22 ?_
  refine va_get (D := D) (ci := 5) (v := .int (F_D_commandValve w0 (0 : Int32) 39)) (C := "BoilerDesk$Span") (T := TS) (N := 2) hx hb hts inS hown hK hP 6 rfl rfl 1 (by decide) (hts _ q_234) (fun _ h9 => h9) rfl dD_commandInOperation_25 ?_
  refine lv_aload_n hx hb dD_commandInOperation_28 rfl (lv_at hl 1 rfl) ?_
  refine va_get (D := D) (ci := 0) (v := .ref (h 1)) (C := "BoilerDesk") (T := TD) (N := 13) hx hb hts inD hown hK hP 0 rfl rfl 0 (by decide) (hts _ q_272) (fun _ h9 => h9) rfl dD_commandInOperation_29 ?_
  refine va_get (D := D) (ci := 3) (v := .int (F_D_commandValve w0 (0 : Int32) 7)) (C := "BoilerDesk$Plant") (T := TP) (N := 9) hx hb hts inP hown hK hP 1 rfl rfl 3 (by decide) (hts _ q_69) (fun _ h9 => h9) rfl dD_commandInOperation_32 ?_
  refine lv_isub hx hb dD_commandInOperation_35 ?_
  refine lv_istore_n (lv' := [(2, .int ((F_D_commandValve w0 (0 : Int32) 39) - (F_D_commandValve w0 (0 : Int32) 7))), (1, .int ((F_D_commandValve w0 (0 : Int32) 6) - (F_D_commandValve w0 (0 : Int32) 38))), (0, .ref (h 0))]) hx hb dD_commandInOperation_36 rfl hl (by decide) rfl (fun ls hl => ?_)
  refine lv_iload_n hx hb dD_commandInOperation_37 rfl (lv_at hl 1 rfl) ?_
  refine lv_if_le (tgt := 53) hx hb dD_commandInOperation_38 (by decide) (fun c_1 => ?_) (fun c_1 => ?_)
  · have e := e.trans (if_pos c_1)
    refine lv_iload_n hx hb dD_commandInOperation_53 rfl (lv_at hl 0 rfl) ?_
    refine lv_if_le (tgt := 62) hx hb dD_commandInOperation_54 (by decide) (fun c_2 => ?_) (fun c_2 => ?_)
    · have e := e.trans (if_pos c_2)
      exact kb_vret (wf := cw h) hx hb hr hlocks hK hP hD hS e.symm dD_commandInOperation_62
    · have e := e.trans (if_neg c_2)
      refine lv_aload_n hx hb dD_commandInOperation_57 rfl (lv_at hl 2 rfl) ?_
      refine lv_iconst (v := 0) hx hb dD_commandInOperation_58 (by decide) ?_
      refine kb_callv (wf := cw h) (u := F_D_commandPumps (F_D_commandValve w0 (0 : Int32)) (0 : Int32)) (va_runV (As := [.int 0]) (rest := []) ⟨hx, hb, hml, hown, hts⟩ (c_D_commandPumps l D h _ (F_D_commandValve w0 (0 : Int32)) (0 : Int32)) (cwV 1 hts (gd_V q_601 q_603 q_19 q_33 q_604) rfl rfl rfl (by decide +kernel) ⟨Nat.le_of_ble_eq_true rfl, Nat.le_of_ble_eq_true rfl⟩) (kb_preV hN hK hP hD (va_recv hK hP (ci := 0) (q0 := 0) rfl rfl)) rfl rfl hl.1 rfl (lv_room (Nat.le_of_ble_eq_true rfl)) dD_commandInOperation_59 ⟨Nat.zero_le _, Nat.zero_le _⟩) hP hD hS hA (fun H locs hP hD hS => ?_)
      exact kb_vret (wf := cw h) hx hb hr hlocks hK hP hD hS e.symm dD_commandInOperation_62
  · have e := e.trans (if_neg c_1)
    refine lv_iload_n hx hb dD_commandInOperation_41 rfl (lv_at hl 1 rfl) ?_
    refine lv_iload_n hx hb dD_commandInOperation_42 rfl (lv_at hl 0 rfl) ?_
    refine lv_icmp_le (tgt := 53) hx hb dD_commandInOperation_43 (by decide) (fun c_3 => ?_) (fun c_3 => ?_)
    · have e := e.trans (if_pos c_3)
      refine lv_iload_n hx hb dD_commandInOperation_53 rfl (lv_at hl 0 rfl) ?_
      refine lv_if_le (tgt := 62) hx hb dD_commandInOperation_54 (by decide) (fun c_4 => ?_) (fun c_4 => ?_)
      · have e := e.trans (if_pos c_4)
        exact kb_vret (wf := cw h) hx hb hr hlocks hK hP hD hS e.symm dD_commandInOperation_62
      · have e := e.trans (if_neg c_4)
        refine lv_aload_n hx hb dD_commandInOperation_57 rfl (lv_at hl 2 rfl) ?_
        refine lv_iconst (v := 0) hx hb dD_commandInOperation_58 (by decide) ?_
        refine kb_callv (wf := cw h) (u := F_D_commandPumps (F_D_commandValve w0 (0 : Int32)) (0 : Int32)) (va_runV (As := [.int 0]) (rest := []) ⟨hx, hb, hml, hown, hts⟩ (c_D_commandPumps l D h _ (F_D_commandValve w0 (0 : Int32)) (0 : Int32)) (cwV 1 hts (gd_V q_601 q_603 q_19 q_33 q_604) rfl rfl rfl (by decide +kernel) ⟨Nat.le_of_ble_eq_true rfl, Nat.le_of_ble_eq_true rfl⟩) (kb_preV hN hK hP hD (va_recv hK hP (ci := 0) (q0 := 0) rfl rfl)) rfl rfl hl.1 rfl (lv_room (Nat.le_of_ble_eq_true rfl)) dD_commandInOperation_59 ⟨Nat.zero_le _, Nat.zero_le _⟩) hP hD hS hA (fun H locs hP hD hS => ?_)
        exact kb_vret (wf := cw h) hx hb hr hlocks hK hP hD hS e.symm dD_commandInOperation_62
    · have e := e.trans (if_neg c_3)
      refine lv_aload_n hx hb dD_commandInOperation_46 rfl (lv_at hl 2 rfl) ?_
      refine kb_callv (wf := cw h) (u := F_D_turnOnGoodPumps (F_D_commandValve w0 (0 : Int32))) (va_runV (As := []) (rest := []) ⟨hx, hb, hml, hown, hts⟩ (c_D_turnOnGoodPumps l D h _ (F_D_commandValve w0 (0 : Int32))) (cwV 0 hts (gd_V q_597 q_599 q_18 q_33 q_600) rfl rfl rfl (by decide +kernel) ⟨Nat.le_of_ble_eq_true rfl, Nat.le_of_ble_eq_true rfl⟩) (kb_preV hN hK hP hD (va_recv hK hP (ci := 0) (q0 := 0) rfl rfl)) rfl rfl hl.1 rfl (lv_room (Nat.le_of_ble_eq_true rfl)) dD_commandInOperation_47 ⟨Nat.zero_le _, Nat.zero_le _⟩) hP hD hS hA (fun H locs hP hD hS => ?_)
      refine lv_goto (tgt := 62) hx hb dD_commandInOperation_50 (by decide) ?_
      exact kb_vret (wf := cw h) hx hb hr hlocks hK hP hD hS e.symm dD_commandInOperation_62
/-- BoilerDesk.giveCommands()V -/
def F_D_giveCommands (w0 : Nat → Int32)  : Nat → Int32 := (if (w0 0) = (0 : Int32) then (if (w0 3) = (0 : Int32) then w0 else (F_D_commandInInitial w0)) else (F_D_commandInOperation w0))
set_option maxHeartbeats 4000000 in
set_option maxRecDepth 100000 in
theorem c_D_giveCommands (l : Launch) (D : va_G) (h : Nat → Nat) (sz : Nat) (w0 : Nat → Int32)   : Met l yD_giveCommands [.code yD_giveCommands cD_giveCommands 1 none] ({ frames := 3, cells := 0, slots := 0, locals := 64 }) (va_Pc [.ref (h 0)] (kb_B D [] (cw h) w0 sz)) (va_Qv (fun u' => u' = F_D_giveCommands w0) (kb_E D [] (cw h) (va_A (cw h w0) sz)) (va_A (cw h w0) sz)) 0 0 (va_A (cw h w0) sz) := by
  refine kb_of (cc := cD_giveCommands) (maxL := 1) (ret := none) (QcA := fun A => (va_Qv (fun u' => u' = F_D_giveCommands w0) (kb_E D [] (cw h) A) A)) (by decide) (Nat.le_of_ble_eq_true rfl) ?_
  intro p e s m below meth c A hx hb hr hlocks hml hown hts hA hN hK hP hD ls hl
  have hS : va_S A s.heap s.heap [] := va_S.rf
  have hl : lv_has ls 1 [(0, .ref (h 0))] := hl
  have e : F_D_giveCommands w0 = F_D_giveCommands w0 := rfl
  refine lv_aload_n hx hb dD_giveCommands_0 rfl (lv_at hl 0 rfl) ?_
  refine va_get (D := D) (ci := 0) (v := .int (w0 0)) (C := "BoilerDesk") (T := TD) (N := 13) hx hb hts inD hown hK hP 0 rfl rfl 9 (by decide) (hts _ q_281) (fun _ h9 => h9) rfl dD_giveCommands_1 ?_
  refine lv_if_eq (tgt := 14) hx hb dD_giveCommands_4 (by decide) (fun c_1 => ?_) (fun c_1 => ?_)
  · have e := e.trans (if_pos c_1)
    refine lv_aload_n hx hb dD_giveCommands_14 rfl (lv_at hl 0 rfl) ?_
    refine va_get (D := D) (ci := 0) (v := .int (w0 3)) (C := "BoilerDesk") (T := TD) (N := 13) hx hb hts inD hown hK hP 0 rfl rfl 12 (by decide) (hts _ q_284) (fun _ h9 => h9) rfl dD_giveCommands_15 ?_
    refine lv_if_eq (tgt := 25) hx hb dD_giveCommands_18 (by decide) (fun c_2 => ?_) (fun c_2 => ?_)
    · have e := e.trans (if_pos c_2)
      exact kb_vret (wf := cw h) hx hb hr hlocks hK hP hD hS e.symm dD_giveCommands_25
    · have e := e.trans (if_neg c_2)
      refine lv_aload_n hx hb dD_giveCommands_21 rfl (lv_at hl 0 rfl) ?_
      refine kb_callv (wf := cw h) (u := F_D_commandInInitial w0) (va_runV (As := []) (rest := []) ⟨hx, hb, hml, hown, hts⟩ (c_D_commandInInitial l D h _ w0) (cwV 0 hts (gd_V q_605 q_607 q_20 q_33 q_608) rfl rfl rfl (by decide +kernel) ⟨Nat.le_of_ble_eq_true rfl, Nat.le_of_ble_eq_true rfl⟩) (kb_preV hN hK hP hD (va_recv hK hP (ci := 0) (q0 := 0) rfl rfl)) rfl rfl hl.1 rfl (lv_room (Nat.le_of_ble_eq_true rfl)) dD_giveCommands_22 ⟨Nat.zero_le _, Nat.zero_le _⟩) hP hD hS hA (fun H locs hP hD hS => ?_)
      exact kb_vret (wf := cw h) hx hb hr hlocks hK hP hD hS e.symm dD_giveCommands_25
  · have e := e.trans (if_neg c_1)
    refine lv_aload_n hx hb dD_giveCommands_7 rfl (lv_at hl 0 rfl) ?_
    refine kb_callv (wf := cw h) (u := F_D_commandInOperation w0) (va_runV (As := []) (rest := []) ⟨hx, hb, hml, hown, hts⟩ (c_D_commandInOperation l D h _ w0) (cwV 0 hts (gd_V q_589 q_591 q_16 q_33 q_592) rfl rfl rfl (by decide +kernel) ⟨Nat.le_of_ble_eq_true rfl, Nat.le_of_ble_eq_true rfl⟩) (kb_preV hN hK hP hD (va_recv hK hP (ci := 0) (q0 := 0) rfl rfl)) rfl rfl hl.1 rfl (lv_room (Nat.le_of_ble_eq_true rfl)) dD_giveCommands_8 ⟨Nat.zero_le _, Nat.zero_le _⟩) hP hD hS hA (fun H locs hP hD hS => ?_)
    refine lv_goto (tgt := 25) hx hb dD_giveCommands_11 (by decide) ?_
    exact kb_vret (wf := cw h) hx hb hr hlocks hK hP hD hS e.symm dD_giveCommands_25
/-- BoilerDesk.estimate()V -/
def K_D_estimate_56  (w : Nat → Int32)  : Nat → Int32 := (if (F_U_hasFailed w (1 : Int32)) = (0 : Int32) then (F_S_put_7 w (w 16) (w 16)) else (F_S_put_7 w (w 44) (w 45)))
def F_D_estimate (w0 : Nat → Int32)  : Nat → Int32 := (if (F_U_hasFailed w0 (0 : Int32)) = (0 : Int32) then K_D_estimate_56 (F_S_put_6 w0 (w0 14) (w0 14)) else K_D_estimate_56 (F_S_put_6 w0 (w0 42) (w0 43)))
set_option maxHeartbeats 4000000 in
set_option maxRecDepth 100000 in
theorem c_D_estimate (l : Launch) (D : va_G) (h : Nat → Nat) (sz : Nat) (w0 : Nat → Int32)   : Met l yD_estimate [.code yD_estimate cD_estimate 1 none] ({ frames := 2, cells := 0, slots := 0, locals := 42 }) (va_Pc [.ref (h 0)] (kb_B D [] (cw h) w0 sz)) (va_Qv (fun u' => u' = F_D_estimate w0) (kb_E D [] (cw h) (va_A (cw h w0) sz)) (va_A (cw h w0) sz)) 0 0 (va_A (cw h w0) sz) := by
  refine kb_of (cc := cD_estimate) (maxL := 1) (ret := none) (QcA := fun A => (va_Qv (fun u' => u' = F_D_estimate w0) (kb_E D [] (cw h) A) A)) (by decide) (Nat.le_of_ble_eq_true rfl) ?_
  intro p e s m below meth c A hx hb hr hlocks hml hown hts hA hN hK hP hD ls hl
  have hS : va_S A s.heap s.heap [] := va_S.rf
  have hl : lv_has ls 1 [(0, .ref (h 0))] := hl
  have k_56 : ∀ (w : Nat → Int32) (H : Heap) (locs : List Loc) (ls : Array Slot), F_D_estimate w0 = K_D_estimate_56 w → va_P D vwCl (cw h w) H → va_D A (cw h w) → va_S A s.heap H locs → lv_has ls 1 [(0, .ref (h 0))] → W p l e ({ frames := 2, cells := 0, slots := 0, locals := 42 }) s m [.ref (h 0)].toArray below meth c H locs 0 0 (MQ below (va_Qv (fun u' => u' = F_D_estimate w0) (kb_E D [] (cw h) A) A) [.ref (h 0)].toArray s 0 0 A) (F0 m 56 ls []) := by
      intro w H locs ls e hP hD hS hl
      refine lv_aload_n hx hb dD_estimate_56 rfl (lv_at hl 0 rfl) ?_
      refine va_get (D := D) (ci := 0) (v := .ref (h 3)) (C := "BoilerDesk") (T := TD) (N := 13) hx hb hts inD hown hK hP 0 rfl rfl 2 (by decide) (hts _ q_274) (fun _ h9 => h9) rfl dD_estimate_57 ?_
      refine lv_iconst (v := 1) hx hb dD_estimate_60 (by decide) ?_
      refine kb_calli (wf := cw h) (r := (F_U_hasFailed w (1 : Int32))) (u := w) (va_runV (As := [.int 1]) (rest := []) ⟨hx, hb, hml, hown, hts⟩ (c_U_hasFailed l D h _ w (1 : Int32)) (cwV 1 hts (gd_V q_476 q_477 q_478 q_36 q_479) rfl rfl rfl (by decide +kernel) ⟨Nat.le_of_ble_eq_true rfl, Nat.le_of_ble_eq_true rfl⟩) (kb_preV hN hK hP hD (va_recv hK hP (ci := 6) (q0 := 3) rfl rfl)) rfl rfl hl.1 rfl (lv_room (Nat.le_of_ble_eq_true rfl)) dD_estimate_61 ⟨Nat.zero_le _, Nat.zero_le _⟩) hP hD hS hA (fun H locs hP hD hS => ?_)
      refine lv_if_eq (tgt := 91) hx hb dD_estimate_64 (by decide) (fun c_1 => ?_) (fun c_1 => ?_)
      · have e := e.trans (if_pos c_1)
        refine lv_aload_n hx hb dD_estimate_91 rfl (lv_at hl 0 rfl) ?_
        refine va_get (D := D) (ci := 0) (v := .ref (h 7)) (C := "BoilerDesk") (T := TD) (N := 13) hx hb hts inD hown hK hP 0 rfl rfl 6 (by decide) (hts _ q_278) (fun _ h9 => h9) rfl dD_estimate_92 ?_
        refine lv_aload_n hx hb dD_estimate_95 rfl (lv_at hl 0 rfl) ?_
        refine va_get (D := D) (ci := 0) (v := .ref (h 2)) (C := "BoilerDesk") (T := TD) (N := 13) hx hb hts inD hown hK hP 0 rfl rfl 1 (by decide) (hts _ q_273) (fun _ h9 => h9) rfl dD_estimate_96 ?_
        refine va_get (D := D) (ci := 1) (v := .int (w 16)) (C := "BoilerDesk$Inbox") (T := TI) (N := 12) hx hb hts inI hown hK hP 2 rfl rfl 3 (by decide) (hts _ q_111) (fun _ h9 => h9) rfl dD_estimate_99 ?_
        refine lv_aload_n hx hb dD_estimate_102 rfl (lv_at hl 0 rfl) ?_
        refine va_get (D := D) (ci := 0) (v := .ref (h 2)) (C := "BoilerDesk") (T := TD) (N := 13) hx hb hts inD hown hK hP 0 rfl rfl 1 (by decide) (hts _ q_273) (fun _ h9 => h9) rfl dD_estimate_103 ?_
        refine va_get (D := D) (ci := 1) (v := .int (w 16)) (C := "BoilerDesk$Inbox") (T := TI) (N := 12) hx hb hts inI hown hK hP 2 rfl rfl 3 (by decide) (hts _ q_111) (fun _ h9 => h9) rfl dD_estimate_106 ?_
        refine kb_callv (wf := cw h) (u := F_S_put_7 w (w 16) (w 16)) (va_runV (As := [.int (w 16), .int (w 16)]) (rest := []) ⟨hx, hb, hml, hown, hts⟩ (c_S_put_7 l D h _ w (w 16) (w 16)) (cwV 2 hts (gd_V q_268 q_269 q_270 q_39 q_271) rfl rfl rfl (by decide +kernel) ⟨Nat.le_of_ble_eq_true rfl, Nat.le_of_ble_eq_true rfl⟩) (kb_preV hN hK hP hD (va_recv hK hP (ci := 5) (q0 := 7) rfl rfl)) rfl rfl hl.1 rfl (lv_room (Nat.le_of_ble_eq_true rfl)) dD_estimate_109 ⟨Nat.zero_le _, Nat.zero_le _⟩) hP hD hS hA (fun H locs hP hD hS => ?_)
        exact kb_vret (wf := cw h) hx hb hr hlocks hK hP hD hS e.symm dD_estimate_112
      · have e := e.trans (if_neg c_1)
        refine lv_aload_n hx hb dD_estimate_67 rfl (lv_at hl 0 rfl) ?_
        refine va_get (D := D) (ci := 0) (v := .ref (h 7)) (C := "BoilerDesk") (T := TD) (N := 13) hx hb hts inD hown hK hP 0 rfl rfl 6 (by decide) (hts _ q_278) (fun _ h9 => h9) rfl dD_estimate_68 ?_
        refine lv_aload_n hx hb dD_estimate_71 rfl (lv_at hl 0 rfl) ?_
        refine va_get (D := D) (ci := 0) (v := .ref (h 9)) (C := "BoilerDesk") (T := TD) (N := 13) hx hb hts inD hown hK hP 0 rfl rfl 8 (by decide) (hts _ q_280) (fun _ h9 => h9) rfl dD_estimate_72 ?_
        refine va_get (D := D) (ci := 5) (v := .int (w 44)) (C := "BoilerDesk$Span") (T := TS) (N := 2) hx hb hts inS hown hK hP 9 rfl rfl 0 (by decide) (hts _ q_232) (fun _ h9 => h9) rfl dD_estimate_75 ?_
        refine lv_aload_n hx hb dD_estimate_78 rfl (lv_at hl 0 rfl) ?_
        refine va_get (D := D) (ci := 0) (v := .ref (h 9)) (C := "BoilerDesk") (T := TD) (N := 13) hx hb hts inD hown hK hP 0 rfl rfl 8 (by decide) (hts _ q_280) (fun _ h9 => h9) rfl dD_estimate_79 ?_
        refine va_get (D := D) (ci := 5) (v := .int (w 45)) (C := "BoilerDesk$Span") (T := TS) (N := 2) hx hb hts inS hown hK hP 9 rfl rfl 1 (by decide) (hts _ q_234) (fun _ h9 => h9) rfl dD_estimate_82 ?_
        refine kb_callv (wf := cw h) (u := F_S_put_7 w (w 44) (w 45)) (va_runV (As := [.int (w 44), .int (w 45)]) (rest := []) ⟨hx, hb, hml, hown, hts⟩ (c_S_put_7 l D h _ w (w 44) (w 45)) (cwV 2 hts (gd_V q_268 q_269 q_270 q_39 q_271) rfl rfl rfl (by decide +kernel) ⟨Nat.le_of_ble_eq_true rfl, Nat.le_of_ble_eq_true rfl⟩) (kb_preV hN hK hP hD (va_recv hK hP (ci := 5) (q0 := 7) rfl rfl)) rfl rfl hl.1 rfl (lv_room (Nat.le_of_ble_eq_true rfl)) dD_estimate_85 ⟨Nat.zero_le _, Nat.zero_le _⟩) hP hD hS hA (fun H locs hP hD hS => ?_)
        refine lv_goto (tgt := 112) hx hb dD_estimate_88 (by decide) ?_
        exact kb_vret (wf := cw h) hx hb hr hlocks hK hP hD hS e.symm dD_estimate_112
  have e : F_D_estimate w0 = F_D_estimate w0 := rfl
  refine lv_aload_n hx hb dD_estimate_0 rfl (lv_at hl 0 rfl) ?_
  refine va_get (D := D) (ci := 0) (v := .ref (h 3)) (C := "BoilerDesk") (T := TD) (N := 13) hx hb hts inD hown hK hP 0 rfl rfl 2 (by decide) (hts _ q_274) (fun _ h9 => h9) rfl dD_estimate_1 ?_
  refine lv_iconst (v := 0) hx hb dD_estimate_4 (by decide) ?_
  refine kb_calli (wf := cw h) (r := (F_U_hasFailed w0 (0 : Int32))) (u := w0) (va_runV (As := [.int 0]) (rest := []) ⟨hx, hb, hml, hown, hts⟩ (c_U_hasFailed l D h _ w0 (0 : Int32)) (cwV 1 hts (gd_V q_476 q_477 q_478 q_36 q_479) rfl rfl rfl (by decide +kernel) ⟨Nat.le_of_ble_eq_true rfl, Nat.le_of_ble_eq_true rfl⟩) (kb_preV hN hK hP hD (va_recv hK hP (ci := 6) (q0 := 3) rfl rfl)) rfl rfl hl.1 rfl (lv_room (Nat.le_of_ble_eq_true rfl)) dD_estimate_5 ⟨Nat.zero_le _, Nat.zero_le _⟩) hP hD hS hA (fun H locs hP hD hS => ?_)
  refine lv_if_eq (tgt := 35) hx hb dD_estimate_8 (by decide) (fun c_2 => ?_) (fun c_2 => ?_)
  · have e := e.trans (if_pos c_2)
    refine lv_aload_n hx hb dD_estimate_35 rfl (lv_at hl 0 rfl) ?_
    refine va_get (D := D) (ci := 0) (v := .ref (h 6)) (C := "BoilerDesk") (T := TD) (N := 13) hx hb hts inD hown hK hP 0 rfl rfl 5 (by decide) (hts _ q_277) (fun _ h9 => h9) rfl dD_estimate_36 ?_
    refine lv_aload_n hx hb dD_estimate_39 rfl (lv_at hl 0 rfl) ?_
    refine va_get (D := D) (ci := 0) (v := .ref (h 2)) (C := "BoilerDesk") (T := TD) (N := 13) hx hb hts inD hown hK hP 0 rfl rfl 1 (by decide) (hts _ q_273) (fun _ h9 => h9) rfl dD_estimate_40 ?_
    refine va_get (D := D) (ci := 1) (v := .int (w0 14)) (C := "BoilerDesk$Inbox") (T := TI) (N := 12) hx hb hts inI hown hK hP 2 rfl rfl 1 (by decide) (hts _ q_107) (fun _ h9 => h9) rfl dD_estimate_43 ?_
    refine lv_aload_n hx hb dD_estimate_46 rfl (lv_at hl 0 rfl) ?_
    refine va_get (D := D) (ci := 0) (v := .ref (h 2)) (C := "BoilerDesk") (T := TD) (N := 13) hx hb hts inD hown hK hP 0 rfl rfl 1 (by decide) (hts _ q_273) (fun _ h9 => h9) rfl dD_estimate_47 ?_
    refine va_get (D := D) (ci := 1) (v := .int (w0 14)) (C := "BoilerDesk$Inbox") (T := TI) (N := 12) hx hb hts inI hown hK hP 2 rfl rfl 1 (by decide) (hts _ q_107) (fun _ h9 => h9) rfl dD_estimate_50 ?_
    refine kb_callv (wf := cw h) (u := F_S_put_6 w0 (w0 14) (w0 14)) (va_runV (As := [.int (w0 14), .int (w0 14)]) (rest := []) ⟨hx, hb, hml, hown, hts⟩ (c_S_put_6 l D h _ w0 (w0 14) (w0 14)) (cwV 2 hts (gd_V q_268 q_269 q_270 q_39 q_271) rfl rfl rfl (by decide +kernel) ⟨Nat.le_of_ble_eq_true rfl, Nat.le_of_ble_eq_true rfl⟩) (kb_preV hN hK hP hD (va_recv hK hP (ci := 5) (q0 := 6) rfl rfl)) rfl rfl hl.1 rfl (lv_room (Nat.le_of_ble_eq_true rfl)) dD_estimate_53 ⟨Nat.zero_le _, Nat.zero_le _⟩) hP hD hS hA (fun H locs hP hD hS => ?_)
    exact k_56 (F_S_put_6 w0 (w0 14) (w0 14)) _ _ _ e hP hD hS (lv_sub hl [0] rfl)
  · have e := e.trans (if_neg c_2)
    refine lv_aload_n hx hb dD_estimate_11 rfl (lv_at hl 0 rfl) ?_
    refine va_get (D := D) (ci := 0) (v := .ref (h 6)) (C := "BoilerDesk") (T := TD) (N := 13) hx hb hts inD hown hK hP 0 rfl rfl 5 (by decide) (hts _ q_277) (fun _ h9 => h9) rfl dD_estimate_12 ?_
    refine lv_aload_n hx hb dD_estimate_15 rfl (lv_at hl 0 rfl) ?_
    refine va_get (D := D) (ci := 0) (v := .ref (h 8)) (C := "BoilerDesk") (T := TD) (N := 13) hx hb hts inD hown hK hP 0 rfl rfl 7 (by decide) (hts _ q_279) (fun _ h9 => h9) rfl dD_estimate_16 ?_
    refine va_get (D := D) (ci := 5) (v := .int (w0 42)) (C := "BoilerDesk$Span") (T := TS) (N := 2) hx hb hts inS hown hK hP 8 rfl rfl 0 (by decide) (hts _ q_232) (fun _ h9 => h9) rfl dD_estimate_19 ?_
    refine lv_aload_n hx hb dD_estimate_22 rfl (lv_at hl 0 rfl) ?_
    refine va_get (D := D) (ci := 0) (v := .ref (h 8)) (C := "BoilerDesk") (T := TD) (N := 13) hx hb hts inD hown hK hP 0 rfl rfl 7 (by decide) (hts _ q_279) (fun _ h9 => h9) rfl dD_estimate_23 ?_
    refine va_get (D := D) (ci := 5) (v := .int (w0 43)) (C := "BoilerDesk$Span") (T := TS) (N := 2) hx hb hts inS hown hK hP 8 rfl rfl 1 (by decide) (hts _ q_234) (fun _ h9 => h9) rfl dD_estimate_26 ?_
    refine kb_callv (wf := cw h) (u := F_S_put_6 w0 (w0 42) (w0 43)) (va_runV (As := [.int (w0 42), .int (w0 43)]) (rest := []) ⟨hx, hb, hml, hown, hts⟩ (c_S_put_6 l D h _ w0 (w0 42) (w0 43)) (cwV 2 hts (gd_V q_268 q_269 q_270 q_39 q_271) rfl rfl rfl (by decide +kernel) ⟨Nat.le_of_ble_eq_true rfl, Nat.le_of_ble_eq_true rfl⟩) (kb_preV hN hK hP hD (va_recv hK hP (ci := 5) (q0 := 6) rfl rfl)) rfl rfl hl.1 rfl (lv_room (Nat.le_of_ble_eq_true rfl)) dD_estimate_29 ⟨Nat.zero_le _, Nat.zero_le _⟩) hP hD hS hA (fun H locs hP hD hS => ?_)
    refine lv_goto (tgt := 56) hx hb dD_estimate_32 (by decide) ?_
    exact k_56 (F_S_put_6 w0 (w0 42) (w0 43)) _ _ _ e hP hD hS (lv_sub hl [0] rfl)
end
section
/-- BoilerDesk.expectReadings(I)V -/
def F_D_expectReadings (w0 : Nat → Int32) (a1 : Int32) : Nat → Int32 := (if (w0 0) = (0 : Int32) then (F_S_put_8 (F_S_put_9 w0 (0 : Int32) (w0 9)) (0 : Int32) (F_S_put_9 w0 (0 : Int32) (w0 9) 4)) else (F_S_put_8 (F_S_put_9 w0 (if ((w0 40) - (w0 11)) < (0 : Int32) then (0 : Int32) else ((w0 40) - (w0 11))) (if (w0 9) < ((w0 41) + (w0 10)) then (w0 9) else ((w0 41) + (w0 10)))) (F_P_withinCapacity (F_S_put_9 w0 (if ((w0 40) - (w0 11)) < (0 : Int32) then (0 : Int32) else ((w0 40) - (w0 11))) (if (w0 9) < ((w0 41) + (w0 10)) then (w0 9) else ((w0 41) + (w0 10)))) (((F_S_put_9 w0 (if ((w0 40) - (w0 11)) < (0 : Int32) then (0 : Int32) else ((w0 40) - (w0 11))) (if (w0 9) < ((w0 41) + (w0 10)) then (w0 9) else ((w0 41) + (w0 10))) 38) - (if (F_S_put_9 w0 (if ((w0 40) - (w0 11)) < (0 : Int32) then (0 : Int32) else ((w0 40) - (w0 11))) (if (w0 9) < ((w0 41) + (w0 10)) then (w0 9) else ((w0 41) + (w0 10))) 41) < (F_S_put_9 w0 (if ((w0 40) - (w0 11)) < (0 : Int32) then (0 : Int32) else ((w0 40) - (w0 11))) (if (w0 9) < ((w0 41) + (w0 10)) then (w0 9) else ((w0 41) + (w0 10))) 45) then (F_S_put_9 w0 (if ((w0 40) - (w0 11)) < (0 : Int32) then (0 : Int32) else ((w0 40) - (w0 11))) (if (w0 9) < ((w0 41) + (w0 10)) then (w0 9) else ((w0 41) + (w0 10))) 45) else (F_S_put_9 w0 (if ((w0 40) - (w0 11)) < (0 : Int32) then (0 : Int32) else ((w0 40) - (w0 11))) (if (w0 9) < ((w0 41) + (w0 10)) then (w0 9) else ((w0 41) + (w0 10))) 41))) + (F_P_given (F_S_put_9 w0 (if ((w0 40) - (w0 11)) < (0 : Int32) then (0 : Int32) else ((w0 40) - (w0 11))) (if (w0 9) < ((w0 41) + (w0 10)) then (w0 9) else ((w0 41) + (w0 10)))) (F_M_pumpsSurelyGiving (F_S_put_9 w0 (if ((w0 40) - (w0 11)) < (0 : Int32) then (0 : Int32) else ((w0 40) - (w0 11))) (if (w0 9) < ((w0 41) + (w0 10)) then (w0 9) else ((w0 41) + (w0 10)))) a1)))) (F_P_withinCapacity (F_S_put_9 w0 (if ((w0 40) - (w0 11)) < (0 : Int32) then (0 : Int32) else ((w0 40) - (w0 11))) (if (w0 9) < ((w0 41) + (w0 10)) then (w0 9) else ((w0 41) + (w0 10)))) (((F_S_put_9 w0 (if ((w0 40) - (w0 11)) < (0 : Int32) then (0 : Int32) else ((w0 40) - (w0 11))) (if (w0 9) < ((w0 41) + (w0 10)) then (w0 9) else ((w0 41) + (w0 10))) 39) - (if (F_S_put_9 w0 (if ((w0 40) - (w0 11)) < (0 : Int32) then (0 : Int32) else ((w0 40) - (w0 11))) (if (w0 9) < ((w0 41) + (w0 10)) then (w0 9) else ((w0 41) + (w0 10))) 44) < (F_S_put_9 w0 (if ((w0 40) - (w0 11)) < (0 : Int32) then (0 : Int32) else ((w0 40) - (w0 11))) (if (w0 9) < ((w0 41) + (w0 10)) then (w0 9) else ((w0 41) + (w0 10))) 40) then (F_S_put_9 w0 (if ((w0 40) - (w0 11)) < (0 : Int32) then (0 : Int32) else ((w0 40) - (w0 11))) (if (w0 9) < ((w0 41) + (w0 10)) then (w0 9) else ((w0 41) + (w0 10))) 44) else (F_S_put_9 w0 (if ((w0 40) - (w0 11)) < (0 : Int32) then (0 : Int32) else ((w0 40) - (w0 11))) (if (w0 9) < ((w0 41) + (w0 10)) then (w0 9) else ((w0 41) + (w0 10))) 40))) + (F_P_given (F_S_put_9 w0 (if ((w0 40) - (w0 11)) < (0 : Int32) then (0 : Int32) else ((w0 40) - (w0 11))) (if (w0 9) < ((w0 41) + (w0 10)) then (w0 9) else ((w0 41) + (w0 10)))) ((15 : Int32) &&& ((F_M_pumpsSurelyIdle (F_S_put_9 w0 (if ((w0 40) - (w0 11)) < (0 : Int32) then (0 : Int32) else ((w0 40) - (w0 11))) (if (w0 9) < ((w0 41) + (w0 10)) then (w0 9) else ((w0 41) + (w0 10)))) a1) ^^^ ((-1) : Int32))))))))
set_option maxHeartbeats 4000000 in
set_option maxRecDepth 100000 in
theorem c_D_expectReadings (l : Launch) (D : va_G) (h : Nat → Nat) (sz : Nat) (w0 : Nat → Int32) (a1 : Int32)  : Met l yD_expectReadings [.code yD_expectReadings cD_expectReadings 6 none] ({ frames := 2, cells := 0, slots := 0, locals := 42 }) (va_Pc [.ref (h 0), .int a1] (kb_B D [] (cw h) w0 sz)) (va_Qv (fun u' => u' = F_D_expectReadings w0 a1) (kb_E D [] (cw h) (va_A (cw h w0) sz)) (va_A (cw h w0) sz)) 0 0 (va_A (cw h w0) sz) := by
  refine kb_of (cc := cD_expectReadings) (maxL := 6) (ret := none) (QcA := fun A => (va_Qv (fun u' => u' = F_D_expectReadings w0 a1) (kb_E D [] (cw h) A) A)) (by decide) (Nat.le_of_ble_eq_true rfl) ?_
  intro p e s m below meth c A hx hb hr hlocks hml hown hts hA hN hK hP hD ls hl
  have hS : va_S A s.heap s.heap [] := va_S.rf
  have hl : lv_has ls 6 [(0, .ref (h 0)), (1, .int a1)] := hl
  have e : F_D_expectReadings w0 a1 = F_D_expectReadings w0 a1 := rfl
  refine lv_aload_n hx hb dD_expectReadings_0 rfl (lv_at hl 0 rfl) ?_
  refine va_get (D := D) (ci := 0) (v := .int (w0 0)) (C := "BoilerDesk") (T := TD) (N := 13) hx hb hts inD hown hK hP 0 rfl rfl 9 (by decide) (hts _ q_281) (fun _ h9 => h9) rfl dD_expectReadings_1 ?_
  refine lv_if_ne (tgt := 38) hx hb dD_expectReadings_4 (by decide) (fun c_1 => ?_) (fun c_1 => ?_)
  · have e := e.trans (if_neg c_1)
    refine lv_aload_n hx hb dD_expectReadings_38 rfl (lv_at hl 0 rfl) ?_
    refine va_get (D := D) (ci := 0) (v := .ref (h 9)) (C := "BoilerDesk") (T := TD) (N := 13) hx hb hts inD hown hK hP 0 rfl rfl 8 (by decide) (hts _ q_280) (fun _ h9 => h9) rfl dD_expectReadings_39 ?_
    refine lv_aload_n hx hb dD_expectReadings_42 rfl (lv_at hl 0 rfl) ?_
    refine va_get (D := D) (ci := 0) (v := .ref (h 7)) (C := "BoilerDesk") (T := TD) (N := 13) hx hb hts inD hown hK hP 0 rfl rfl 6 (by decide) (hts _ q_278) (fun _ h9 => h9) rfl dD_expectReadings_43 ?_
    refine va_get (D := D) (ci := 5) (v := .int (w0 40)) (C := "BoilerDesk$Span") (T := TS) (N := 2) hx hb hts inS hown hK hP 7 rfl rfl 0 (by decide) (hts _ q_232) (fun _ h9 => h9) rfl dD_expectReadings_46 ?_
    refine lv_aload_n hx hb dD_expectReadings_49 rfl (lv_at hl 0 rfl) ?_
    refine va_get (D := D) (ci := 0) (v := .ref (h 1)) (C := "BoilerDesk") (T := TD) (N := 13) hx hb hts inD hown hK hP 0 rfl rfl 0 (by decide) (hts _ q_272) (fun _ h9 => h9) rfl dD_expectReadings_50 ?_
    refine va_get (D := D) (ci := 3) (v := .int (w0 11)) (C := "BoilerDesk$Plant") (T := TP) (N := 9) hx hb hts inP hown hK hP 1 rfl rfl 7 (by decide) (hts _ q_77) (fun _ h9 => h9) rfl dD_expectReadings_53 ?_
    refine lv_isub hx hb dD_expectReadings_56 ?_
    refine lv_iconst (v := 0) hx hb dD_expectReadings_57 (by decide) ?_
    refine va_mmax hx hb (hml.trans hl.1.symm) hown (hts _ q_506) (hts _ q_507) (hts _ q_46) (hts _ q_508) (Nat.le_of_ble_eq_true rfl) (Nat.le_of_ble_eq_true rfl) (Nat.zero_le _) (Nat.zero_le _) dD_expectReadings_58 ?_
    refine lv_aload_n hx hb dD_expectReadings_61 rfl (lv_at hl 0 rfl) ?_
    refine va_get (D := D) (ci := 0) (v := .ref (h 7)) (C := "BoilerDesk") (T := TD) (N := 13) hx hb hts inD hown hK hP 0 rfl rfl 6 (by decide) (hts _ q_278) (fun _ h9 => h9) rfl dD_expectReadings_62 ?_
    refine va_get (D := D) (ci := 5) (v := .int (w0 41)) (C := "BoilerDesk$Span") (T := TS) (N := 2) hx hb hts inS hown hK hP 7 rfl rfl 1 (by decide) (hts _ q_234) (fun _ h9 => h9) rfl dD_expectReadings_65 ?_
    refine lv_aload_n hx hb dD_expectReadings_68 rfl (lv_at hl 0 rfl) ?_
    refine va_get (D := D) (ci := 0) (v := .ref (h 1)) (C := "BoilerDesk") (T := TD) (N := 13) hx hb hts inD hown hK hP 0 rfl rfl 0 (by decide) (hts _ q_272) (fun _ h9 => h9) rfl dD_expectReadings_69 ?_
    refine va_get (D := D) (ci := 3) (v := .int (w0 10)) (C := "BoilerDesk$Plant") (T := TP) (N := 9) hx hb hts inP hown hK hP 1 rfl rfl 6 (by decide) (hts _ q_75) (fun _ h9 => h9) rfl dD_expectReadings_72 ?_
    refine lv_iadd hx hb dD_expectReadings_75 ?_
    refine lv_aload_n hx hb dD_expectReadings_76 rfl (lv_at hl 0 rfl) ?_
    refine va_get (D := D) (ci := 0) (v := .ref (h 1)) (C := "BoilerDesk") (T := TD) (N := 13) hx hb hts inD hown hK hP 0 rfl rfl 0 (by decide) (hts _ q_272) (fun _ h9 => h9) rfl dD_expectReadings_77 ?_
    refine va_get (D := D) (ci := 3) (v := .int (w0 9)) (C := "BoilerDesk$Plant") (T := TP) (N := 9) hx hb hts inP hown hK hP 1 rfl rfl 5 (by decide) (hts _ q_73) (fun _ h9 => h9) rfl dD_expectReadings_80 ?_
    refine va_mmin hx hb (hml.trans hl.1.symm) hown (hts _ q_509) (hts _ q_510) (hts _ q_46) (hts _ q_511) (Nat.le_of_ble_eq_true rfl) (Nat.le_of_ble_eq_true rfl) (Nat.zero_le _) (Nat.zero_le _) dD_expectReadings_83 ?_
    refine kb_callv (wf := cw h) (u := F_S_put_9 w0 (if ((w0 40) - (w0 11)) < (0 : Int32) then (0 : Int32) else ((w0 40) - (w0 11))) (if (w0 9) < ((w0 41) + (w0 10)) then (w0 9) else ((w0 41) + (w0 10)))) (va_runV (As := [.int (if ((w0 40) - (w0 11)) < (0 : Int32) then (0 : Int32) else ((w0 40) - (w0 11))), .int (if (w0 9) < ((w0 41) + (w0 10)) then (w0 9) else ((w0 41) + (w0 10)))]) (rest := []) ⟨hx, hb, hml, hown, hts⟩ (c_S_put_9 l D h _ w0 (if ((w0 40) - (w0 11)) < (0 : Int32) then (0 : Int32) else ((w0 40) - (w0 11))) (if (w0 9) < ((w0 41) + (w0 10)) then (w0 9) else ((w0 41) + (w0 10)))) (cwV 2 hts (gd_V q_268 q_269 q_270 q_39 q_271) rfl rfl rfl (by decide +kernel) ⟨Nat.le_of_ble_eq_true rfl, Nat.le_of_ble_eq_true rfl⟩) (kb_preV hN hK hP hD (va_recv hK hP (ci := 5) (q0 := 9) rfl rfl)) rfl rfl hl.1 rfl (lv_room (Nat.le_of_ble_eq_true rfl)) dD_expectReadings_86 ⟨Nat.zero_le _, Nat.zero_le _⟩) hP hD hS hA (fun H locs hP hD hS => ?_)
    refine lv_aload_n hx hb dD_expectReadings_89 rfl (lv_at hl 0 rfl) ?_
    refine va_get (D := D) (ci := 0) (v := .ref (h 7)) (C := "BoilerDesk") (T := TD) (N := 13) hx hb hts inD hown hK hP 0 rfl rfl 6 (by decide) (hts _ q_278) (fun _ h9 => h9) rfl dD_expectReadings_90 ?_
    refine va_get (D := D) (ci := 5) (v := .int (F_S_put_9 w0 (if ((w0 40) - (w0 11)) < (0 : Int32) then (0 : Int32) else ((w0 40) - (w0 11))) (if (w0 9) < ((w0 41) + (w0 10)) then (w0 9) else ((w0 41) + (w0 10))) 41)) (C := "BoilerDesk$Span") (T := TS) (N := 2) hx hb hts inS hown hK hP 7 rfl rfl 1 (by decide) (hts _ q_234) (fun _ h9 => h9) rfl dD_expectReadings_93 ?_
    refine lv_aload_n hx hb dD_expectReadings_96 rfl (lv_at hl 0 rfl) ?_
    refine va_get (D := D) (ci := 0) (v := .ref (h 9)) (C := "BoilerDesk") (T := TD) (N := 13) hx hb hts inD hown hK hP 0 rfl rfl 8 (by decide) (hts _ q_280) (fun _ h9 => h9) rfl dD_expectReadings_97 ?_
    refine va_get (D := D) (ci := 5) (v := .int (F_S_put_9 w0 (if ((w0 40) - (w0 11)) < (0 : Int32) then (0 : Int32) else ((w0 40) - (w0 11))) (if (w0 9) < ((w0 41) + (w0 10)) then (w0 9) else ((w0 41) + (w0 10))) 45)) (C := "BoilerDesk$Span") (T := TS) (N := 2) hx hb hts inS hown hK hP 9 rfl rfl 1 (by decide) (hts _ q_234) (fun _ h9 => h9) rfl dD_expectReadings_100 ?_
    refine va_mmax hx hb (hml.trans hl.1.symm) hown (hts _ q_506) (hts _ q_507) (hts _ q_46) (hts _ q_508) (Nat.le_of_ble_eq_true rfl) (Nat.le_of_ble_eq_true rfl) (Nat.zero_le _) (Nat.zero_le _) dD_expectReadings_103 ?_
    refine lv_istore_n (lv' := [(2, .int (if (F_S_put_9 w0 (if ((w0 40) - (w0 11)) < (0 : Int32) then (0 : Int32) else ((w0 40) - (w0 11))) (if (w0 9) < ((w0 41) + (w0 10)) then (w0 9) else ((w0 41) + (w0 10))) 41) < (F_S_put_9 w0 (if ((w0 40) - (w0 11)) < (0 : Int32) then (0 : Int32) else ((w0 40) - (w0 11))) (if (w0 9) < ((w0 41) + (w0 10)) then (w0 9) else ((w0 41) + (w0 10))) 45) then (F_S_put_9 w0 (if ((w0 40) - (w0 11)) < (0 : Int32) then (0 : Int32) else ((w0 40) - (w0 11))) (if (w0 9) < ((w0 41) + (w0 10)) then (w0 9) else ((w0 41) + (w0 10))) 45) else (F_S_put_9 w0 (if ((w0 40) - (w0 11)) < (0 : Int32) then (0 : Int32) else ((w0 40) - (w0 11))) (if (w0 9) < ((w0 41) + (w0 10)) then (w0 9) else ((w0 41) + (w0 10))) 41))), (0, .ref (h 0)), (1, .int a1)]) hx hb dD_expectReadings_106 rfl hl (by decide) rfl (fun ls hl => ?_)
    refine lv_aload_n hx hb dD_expectReadings_107 rfl (lv_at hl 1 rfl) ?_
    refine va_get (D := D) (ci := 0) (v := .ref (h 7)) (C := "BoilerDesk") (T := TD) (N := 13) hx hb hts inD hown hK hP 0 rfl rfl 6 (by decide) (hts _ q_278) (fun _ h9 => h9) rfl dD_expectReadings_108 ?_
    refine va_get (D := D) (ci := 5) (v := .int (F_S_put_9 w0 (if ((w0 40) - (w0 11)) < (0 : Int32) then (0 : Int32) else ((w0 40) - (w0 11))) (if (w0 9) < ((w0 41) + (w0 10)) then (w0 9) else ((w0 41) + (w0 10))) 40)) (C := "BoilerDesk$Span") (T := TS) (N := 2) hx hb hts inS hown hK hP 7 rfl rfl 0 (by decide) (hts _ q_232) (fun _ h9 => h9) rfl dD_expectReadings_111 ?_
    refine lv_aload_n hx hb dD_expectReadings_114 rfl (lv_at hl 1 rfl) ?_
    refine va_get (D := D) (ci := 0) (v := .ref (h 9)) (C := "BoilerDesk") (T := TD) (N := 13) hx hb hts inD hown hK hP 0 rfl rfl 8 (by decide) (hts _ q_280) (fun _ h9 => h9) rfl dD_expectReadings_115 ?_
    refine va_get (D := D) (ci := 5) (v := .int (F_S_put_9 w0 (if ((w0 40) - (w0 11)) < (0 : Int32) then (0 : Int32) else ((w0 40) - (w0 11))) (if (w0 9) < ((w0 41) + (w0 10)) then (w0 9) else ((w0 41) + (w0 10))) 44)) (C := "BoilerDesk$Span") (T := TS) (N := 2) hx hb hts inS hown hK hP 9 rfl rfl 0 (by decide) (hts _ q_232) (fun _ h9 => h9) rfl dD_expectReadings_118 ?_
    refine va_mmin hx hb (hml.trans hl.1.symm) hown (hts _ q_509) (hts _ q_510) (hts _ q_46) (hts _ q_511) (Nat.le_of_ble_eq_true rfl) (Nat.le_of_ble_eq_true rfl) (Nat.zero_le _) (Nat.zero_le _) dD_expectReadings_121 ?_
    refine lv_istore_n (lv' := [(3, .int (if (F_S_put_9 w0 (if ((w0 40) - (w0 11)) < (0 : Int32) then (0 : Int32) else ((w0 40) - (w0 11))) (if (w0 9) < ((w0 41) + (w0 10)) then (w0 9) else ((w0 41) + (w0 10))) 44) < (F_S_put_9 w0 (if ((w0 40) - (w0 11)) < (0 : Int32) then (0 : Int32) else ((w0 40) - (w0 11))) (if (w0 9) < ((w0 41) + (w0 10)) then (w0 9) else ((w0 41) + (w0 10))) 40) then (F_S_put_9 w0 (if ((w0 40) - (w0 11)) < (0 : Int32) then (0 : Int32) else ((w0 40) - (w0 11))) (if (w0 9) < ((w0 41) + (w0 10)) then (w0 9) else ((w0 41) + (w0 10))) 44) else (F_S_put_9 w0 (if ((w0 40) - (w0 11)) < (0 : Int32) then (0 : Int32) else ((w0 40) - (w0 11))) (if (w0 9) < ((w0 41) + (w0 10)) then (w0 9) else ((w0 41) + (w0 10))) 40))), (2, .int (if (F_S_put_9 w0 (if ((w0 40) - (w0 11)) < (0 : Int32) then (0 : Int32) else ((w0 40) - (w0 11))) (if (w0 9) < ((w0 41) + (w0 10)) then (w0 9) else ((w0 41) + (w0 10))) 41) < (F_S_put_9 w0 (if ((w0 40) - (w0 11)) < (0 : Int32) then (0 : Int32) else ((w0 40) - (w0 11))) (if (w0 9) < ((w0 41) + (w0 10)) then (w0 9) else ((w0 41) + (w0 10))) 45) then (F_S_put_9 w0 (if ((w0 40) - (w0 11)) < (0 : Int32) then (0 : Int32) else ((w0 40) - (w0 11))) (if (w0 9) < ((w0 41) + (w0 10)) then (w0 9) else ((w0 41) + (w0 10))) 45) else (F_S_put_9 w0 (if ((w0 40) - (w0 11)) < (0 : Int32) then (0 : Int32) else ((w0 40) - (w0 11))) (if (w0 9) < ((w0 41) + (w0 10)) then (w0 9) else ((w0 41) + (w0 10))) 41))), (0, .ref (h 0)), (1, .int a1)]) hx hb dD_expectReadings_124 rfl hl (by decide) rfl (fun ls hl => ?_)
    refine lv_aload_n hx hb dD_expectReadings_125 rfl (lv_at hl 2 rfl) ?_
    refine va_get (D := D) (ci := 0) (v := .ref (h 4)) (C := "BoilerDesk") (T := TD) (N := 13) hx hb hts inD hown hK hP 0 rfl rfl 3 (by decide) (hts _ q_275) (fun _ h9 => h9) rfl dD_expectReadings_126 ?_
    refine lv_iload_n hx hb dD_expectReadings_129 rfl (lv_at hl 3 rfl) ?_
    refine kb_calli (wf := cw h) (r := (F_M_pumpsSurelyGiving (F_S_put_9 w0 (if ((w0 40) - (w0 11)) < (0 : Int32) then (0 : Int32) else ((w0 40) - (w0 11))) (if (w0 9) < ((w0 41) + (w0 10)) then (w0 9) else ((w0 41) + (w0 10)))) a1)) (u := (F_S_put_9 w0 (if ((w0 40) - (w0 11)) < (0 : Int32) then (0 : Int32) else ((w0 40) - (w0 11))) (if (w0 9) < ((w0 41) + (w0 10)) then (w0 9) else ((w0 41) + (w0 10))))) (va_runV (As := [.int a1]) (rest := []) ⟨hx, hb, hml, hown, hts⟩ (c_M_pumpsSurelyGiving l D h _ (F_S_put_9 w0 (if ((w0 40) - (w0 11)) < (0 : Int32) then (0 : Int32) else ((w0 40) - (w0 11))) (if (w0 9) < ((w0 41) + (w0 10)) then (w0 9) else ((w0 41) + (w0 10)))) a1) (cwV 1 hts (gd_V q_512 q_513 q_514 q_37 q_515) rfl rfl rfl (by decide +kernel) ⟨Nat.le_of_ble_eq_true rfl, Nat.le_of_ble_eq_true rfl⟩) (kb_preV hN hK hP hD (va_recv hK hP (ci := 2) (q0 := 4) rfl rfl)) rfl rfl hl.1 rfl (lv_room (Nat.le_of_ble_eq_true rfl)) dD_expectReadings_130 ⟨Nat.zero_le _, Nat.zero_le _⟩) hP hD hS hA (fun H locs hP hD hS => ?_)
    refine lv_istore (lv' := [(4, .int (F_M_pumpsSurelyGiving (F_S_put_9 w0 (if ((w0 40) - (w0 11)) < (0 : Int32) then (0 : Int32) else ((w0 40) - (w0 11))) (if (w0 9) < ((w0 41) + (w0 10)) then (w0 9) else ((w0 41) + (w0 10)))) a1)), (3, .int (if (F_S_put_9 w0 (if ((w0 40) - (w0 11)) < (0 : Int32) then (0 : Int32) else ((w0 40) - (w0 11))) (if (w0 9) < ((w0 41) + (w0 10)) then (w0 9) else ((w0 41) + (w0 10))) 44) < (F_S_put_9 w0 (if ((w0 40) - (w0 11)) < (0 : Int32) then (0 : Int32) else ((w0 40) - (w0 11))) (if (w0 9) < ((w0 41) + (w0 10)) then (w0 9) else ((w0 41) + (w0 10))) 40) then (F_S_put_9 w0 (if ((w0 40) - (w0 11)) < (0 : Int32) then (0 : Int32) else ((w0 40) - (w0 11))) (if (w0 9) < ((w0 41) + (w0 10)) then (w0 9) else ((w0 41) + (w0 10))) 44) else (F_S_put_9 w0 (if ((w0 40) - (w0 11)) < (0 : Int32) then (0 : Int32) else ((w0 40) - (w0 11))) (if (w0 9) < ((w0 41) + (w0 10)) then (w0 9) else ((w0 41) + (w0 10))) 40))), (2, .int (if (F_S_put_9 w0 (if ((w0 40) - (w0 11)) < (0 : Int32) then (0 : Int32) else ((w0 40) - (w0 11))) (if (w0 9) < ((w0 41) + (w0 10)) then (w0 9) else ((w0 41) + (w0 10))) 41) < (F_S_put_9 w0 (if ((w0 40) - (w0 11)) < (0 : Int32) then (0 : Int32) else ((w0 40) - (w0 11))) (if (w0 9) < ((w0 41) + (w0 10)) then (w0 9) else ((w0 41) + (w0 10))) 45) then (F_S_put_9 w0 (if ((w0 40) - (w0 11)) < (0 : Int32) then (0 : Int32) else ((w0 40) - (w0 11))) (if (w0 9) < ((w0 41) + (w0 10)) then (w0 9) else ((w0 41) + (w0 10))) 45) else (F_S_put_9 w0 (if ((w0 40) - (w0 11)) < (0 : Int32) then (0 : Int32) else ((w0 40) - (w0 11))) (if (w0 9) < ((w0 41) + (w0 10)) then (w0 9) else ((w0 41) + (w0 10))) 41))), (0, .ref (h 0)), (1, .int a1)]) hx hb dD_expectReadings_133 hl (by decide) rfl (fun ls hl => ?_)
    refine lv_bipush (v := 15) hx hb dD_expectReadings_135 (by decide) ?_
    refine lv_aload_n hx hb dD_expectReadings_137 rfl (lv_at hl 3 rfl) ?_
    refine va_get (D := D) (ci := 0) (v := .ref (h 4)) (C := "BoilerDesk") (T := TD) (N := 13) hx hb hts inD hown hK hP 0 rfl rfl 3 (by decide) (hts _ q_275) (fun _ h9 => h9) rfl dD_expectReadings_138 ?_
    refine lv_iload_n hx hb dD_expectReadings_141 rfl (lv_at hl 4 rfl) ?_
    refine kb_calli (wf := cw h) (r := (F_M_pumpsSurelyIdle (F_S_put_9 w0 (if ((w0 40) - (w0 11)) < (0 : Int32) then (0 : Int32) else ((w0 40) - (w0 11))) (if (w0 9) < ((w0 41) + (w0 10)) then (w0 9) else ((w0 41) + (w0 10)))) a1)) (u := (F_S_put_9 w0 (if ((w0 40) - (w0 11)) < (0 : Int32) then (0 : Int32) else ((w0 40) - (w0 11))) (if (w0 9) < ((w0 41) + (w0 10)) then (w0 9) else ((w0 41) + (w0 10))))) (va_runV (As := [.int a1]) (rest := [.int 15]) ⟨hx, hb, hml, hown, hts⟩ (c_M_pumpsSurelyIdle l D h _ (F_S_put_9 w0 (if ((w0 40) - (w0 11)) < (0 : Int32) then (0 : Int32) else ((w0 40) - (w0 11))) (if (w0 9) < ((w0 41) + (w0 10)) then (w0 9) else ((w0 41) + (w0 10)))) a1) (cwV 1 hts (gd_V q_519 q_520 q_521 q_37 q_522) rfl rfl rfl (by decide +kernel) ⟨Nat.le_of_ble_eq_true rfl, Nat.le_of_ble_eq_true rfl⟩) (kb_preV hN hK hP hD (va_recv hK hP (ci := 2) (q0 := 4) rfl rfl)) rfl rfl hl.1 rfl (lv_room (Nat.le_of_ble_eq_true rfl)) dD_expectReadings_142 ⟨Nat.zero_le _, Nat.zero_le _⟩) hP hD hS hA (fun H locs hP hD hS => ?_)
    refine lv_iconst (v := (-1)) hx hb dD_expectReadings_145 (by decide) ?_
    refine lv_ixor hx hb dD_expectReadings_146 ?_
    refine lv_iand hx hb dD_expectReadings_147 ?_
    refine lv_istore (lv' := [(5, .int ((15 : Int32) &&& ((F_M_pumpsSurelyIdle (F_S_put_9 w0 (if ((w0 40) - (w0 11)) < (0 : Int32) then (0 : Int32) else ((w0 40) - (w0 11))) (if (w0 9) < ((w0 41) + (w0 10)) then (w0 9) else ((w0 41) + (w0 10)))) a1) ^^^ ((-1) : Int32)))), (4, .int (F_M_pumpsSurelyGiving (F_S_put_9 w0 (if ((w0 40) - (w0 11)) < (0 : Int32) then (0 : Int32) else ((w0 40) - (w0 11))) (if (w0 9) < ((w0 41) + (w0 10)) then (w0 9) else ((w0 41) + (w0 10)))) a1)), (3, .int (if (F_S_put_9 w0 (if ((w0 40) - (w0 11)) < (0 : Int32) then (0 : Int32) else ((w0 40) - (w0 11))) (if (w0 9) < ((w0 41) + (w0 10)) then (w0 9) else ((w0 41) + (w0 10))) 44) < (F_S_put_9 w0 (if ((w0 40) - (w0 11)) < (0 : Int32) then (0 : Int32) else ((w0 40) - (w0 11))) (if (w0 9) < ((w0 41) + (w0 10)) then (w0 9) else ((w0 41) + (w0 10))) 40) then (F_S_put_9 w0 (if ((w0 40) - (w0 11)) < (0 : Int32) then (0 : Int32) else ((w0 40) - (w0 11))) (if (w0 9) < ((w0 41) + (w0 10)) then (w0 9) else ((w0 41) + (w0 10))) 44) else (F_S_put_9 w0 (if ((w0 40) - (w0 11)) < (0 : Int32) then (0 : Int32) else ((w0 40) - (w0 11))) (if (w0 9) < ((w0 41) + (w0 10)) then (w0 9) else ((w0 41) + (w0 10))) 40))), (2, .int (if (F_S_put_9 w0 (if ((w0 40) - (w0 11)) < (0 : Int32) then (0 : Int32) else ((w0 40) - (w0 11))) (if (w0 9) < ((w0 41) + (w0 10)) then (w0 9) else ((w0 41) + (w0 10))) 41) < (F_S_put_9 w0 (if ((w0 40) - (w0 11)) < (0 : Int32) then (0 : Int32) else ((w0 40) - (w0 11))) (if (w0 9) < ((w0 41) + (w0 10)) then (w0 9) else ((w0 41) + (w0 10))) 45) then (F_S_put_9 w0 (if ((w0 40) - (w0 11)) < (0 : Int32) then (0 : Int32) else ((w0 40) - (w0 11))) (if (w0 9) < ((w0 41) + (w0 10)) then (w0 9) else ((w0 41) + (w0 10))) 45) else (F_S_put_9 w0 (if ((w0 40) - (w0 11)) < (0 : Int32) then (0 : Int32) else ((w0 40) - (w0 11))) (if (w0 9) < ((w0 41) + (w0 10)) then (w0 9) else ((w0 41) + (w0 10))) 41))), (0, .ref (h 0)), (1, .int a1)]) hx hb dD_expectReadings_148 hl (by decide) rfl (fun ls hl => ?_)
    refine lv_aload_n hx hb dD_expectReadings_150 rfl (lv_at hl 4 rfl) ?_
    refine va_get (D := D) (ci := 0) (v := .ref (h 8)) (C := "BoilerDesk") (T := TD) (N := 13) hx hb hts inD hown hK hP 0 rfl rfl 7 (by decide) (hts _ q_279) (fun _ h9 => h9) rfl dD_expectReadings_151 ?_
    refine lv_aload_n hx hb dD_expectReadings_154 rfl (lv_at hl 4 rfl) ?_
    refine va_get (D := D) (ci := 0) (v := .ref (h 1)) (C := "BoilerDesk") (T := TD) (N := 13) hx hb hts inD hown hK hP 0 rfl rfl 0 (by decide) (hts _ q_272) (fun _ h9 => h9) rfl dD_expectReadings_155 ?_
    refine lv_aload_n hx hb dD_expectReadings_158 rfl (lv_at hl 4 rfl) ?_
    refine va_get (D := D) (ci := 0) (v := .ref (h 6)) (C := "BoilerDesk") (T := TD) (N := 13) hx hb hts inD hown hK hP 0 rfl rfl 5 (by decide) (hts _ q_277) (fun _ h9 => h9) rfl dD_expectReadings_159 ?_
    refine va_get (D := D) (ci := 5) (v := .int (F_S_put_9 w0 (if ((w0 40) - (w0 11)) < (0 : Int32) then (0 : Int32) else ((w0 40) - (w0 11))) (if (w0 9) < ((w0 41) + (w0 10)) then (w0 9) else ((w0 41) + (w0 10))) 38)) (C := "BoilerDesk$Span") (T := TS) (N := 2) hx hb hts inS hown hK hP 6 rfl rfl 0 (by decide) (hts _ q_232) (fun _ h9 => h9) rfl dD_expectReadings_162 ?_
    refine lv_iload_n hx hb dD_expectReadings_165 rfl (lv_at hl 3 rfl) ?_
    refine lv_isub hx hb dD_expectReadings_166 ?_
    refine lv_aload_n hx hb dD_expectReadings_167 rfl (lv_at hl 4 rfl) ?_
    refine va_get (D := D) (ci := 0) (v := .ref (h 1)) (C := "BoilerDesk") (T := TD) (N := 13) hx hb hts inD hown hK hP 0 rfl rfl 0 (by decide) (hts _ q_272) (fun _ h9 => h9) rfl dD_expectReadings_168 ?_
    refine lv_iload hx hb dD_expectReadings_171 (lv_at hl 1 rfl) ?_
    refine kb_calli (wf := cw h) (r := (F_P_given (F_S_put_9 w0 (if ((w0 40) - (w0 11)) < (0 : Int32) then (0 : Int32) else ((w0 40) - (w0 11))) (if (w0 9) < ((w0 41) + (w0 10)) then (w0 9) else ((w0 41) + (w0 10)))) (F_M_pumpsSurelyGiving (F_S_put_9 w0 (if ((w0 40) - (w0 11)) < (0 : Int32) then (0 : Int32) else ((w0 40) - (w0 11))) (if (w0 9) < ((w0 41) + (w0 10)) then (w0 9) else ((w0 41) + (w0 10)))) a1))) (u := (F_S_put_9 w0 (if ((w0 40) - (w0 11)) < (0 : Int32) then (0 : Int32) else ((w0 40) - (w0 11))) (if (w0 9) < ((w0 41) + (w0 10)) then (w0 9) else ((w0 41) + (w0 10))))) (va_runV (As := [.int (F_M_pumpsSurelyGiving (F_S_put_9 w0 (if ((w0 40) - (w0 11)) < (0 : Int32) then (0 : Int32) else ((w0 40) - (w0 11))) (if (w0 9) < ((w0 41) + (w0 10)) then (w0 9) else ((w0 41) + (w0 10)))) a1)]) (rest := [.int ((F_S_put_9 w0 (if ((w0 40) - (w0 11)) < (0 : Int32) then (0 : Int32) else ((w0 40) - (w0 11))) (if (w0 9) < ((w0 41) + (w0 10)) then (w0 9) else ((w0 41) + (w0 10))) 38) - (if (F_S_put_9 w0 (if ((w0 40) - (w0 11)) < (0 : Int32) then (0 : Int32) else ((w0 40) - (w0 11))) (if (w0 9) < ((w0 41) + (w0 10)) then (w0 9) else ((w0 41) + (w0 10))) 41) < (F_S_put_9 w0 (if ((w0 40) - (w0 11)) < (0 : Int32) then (0 : Int32) else ((w0 40) - (w0 11))) (if (w0 9) < ((w0 41) + (w0 10)) then (w0 9) else ((w0 41) + (w0 10))) 45) then (F_S_put_9 w0 (if ((w0 40) - (w0 11)) < (0 : Int32) then (0 : Int32) else ((w0 40) - (w0 11))) (if (w0 9) < ((w0 41) + (w0 10)) then (w0 9) else ((w0 41) + (w0 10))) 45) else (F_S_put_9 w0 (if ((w0 40) - (w0 11)) < (0 : Int32) then (0 : Int32) else ((w0 40) - (w0 11))) (if (w0 9) < ((w0 41) + (w0 10)) then (w0 9) else ((w0 41) + (w0 10))) 41))), .ref (h 1), .ref (h 8)]) ⟨hx, hb, hml, hown, hts⟩ (c_P_given l D h _ (F_S_put_9 w0 (if ((w0 40) - (w0 11)) < (0 : Int32) then (0 : Int32) else ((w0 40) - (w0 11))) (if (w0 9) < ((w0 41) + (w0 10)) then (w0 9) else ((w0 41) + (w0 10)))) (F_M_pumpsSurelyGiving (F_S_put_9 w0 (if ((w0 40) - (w0 11)) < (0 : Int32) then (0 : Int32) else ((w0 40) - (w0 11))) (if (w0 9) < ((w0 41) + (w0 10)) then (w0 9) else ((w0 41) + (w0 10)))) a1)) (cwV 1 hts (gd_V q_523 q_524 q_525 q_34 q_526) rfl rfl rfl (by decide +kernel) ⟨Nat.le_of_ble_eq_true rfl, Nat.le_of_ble_eq_true rfl⟩) (kb_preV hN hK hP hD (va_recv hK hP (ci := 3) (q0 := 1) rfl rfl)) rfl rfl hl.1 rfl (lv_room (Nat.le_of_ble_eq_true rfl)) dD_expectReadings_173 ⟨Nat.zero_le _, Nat.zero_le _⟩) hP hD hS hA (fun H locs hP hD hS => ?_)
    refine lv_iadd hx hb dD_expectReadings_176 ?_
    refine kb_calli (wf := cw h) (r := (F_P_withinCapacity (F_S_put_9 w0 (if ((w0 40) - (w0 11)) < (0 : Int32) then (0 : Int32) else ((w0 40) - (w0 11))) (if (w0 9) < ((w0 41) + (w0 10)) then (w0 9) else ((w0 41) + (w0 10)))) (((F_S_put_9 w0 (if ((w0 40) - (w0 11)) < (0 : Int32) then (0 : Int32) else ((w0 40) - (w0 11))) (if (w0 9) < ((w0 41) + (w0 10)) then (w0 9) else ((w0 41) + (w0 10))) 38) - (if (F_S_put_9 w0 (if ((w0 40) - (w0 11)) < (0 : Int32) then (0 : Int32) else ((w0 40) - (w0 11))) (if (w0 9) < ((w0 41) + (w0 10)) then (w0 9) else ((w0 41) + (w0 10))) 41) < (F_S_put_9 w0 (if ((w0 40) - (w0 11)) < (0 : Int32) then (0 : Int32) else ((w0 40) - (w0 11))) (if (w0 9) < ((w0 41) + (w0 10)) then (w0 9) else ((w0 41) + (w0 10))) 45) then (F_S_put_9 w0 (if ((w0 40) - (w0 11)) < (0 : Int32) then (0 : Int32) else ((w0 40) - (w0 11))) (if (w0 9) < ((w0 41) + (w0 10)) then (w0 9) else ((w0 41) + (w0 10))) 45) else (F_S_put_9 w0 (if ((w0 40) - (w0 11)) < (0 : Int32) then (0 : Int32) else ((w0 40) - (w0 11))) (if (w0 9) < ((w0 41) + (w0 10)) then (w0 9) else ((w0 41) + (w0 10))) 41))) + (F_P_given (F_S_put_9 w0 (if ((w0 40) - (w0 11)) < (0 : Int32) then (0 : Int32) else ((w0 40) - (w0 11))) (if (w0 9) < ((w0 41) + (w0 10)) then (w0 9) else ((w0 41) + (w0 10)))) (F_M_pumpsSurelyGiving (F_S_put_9 w0 (if ((w0 40) - (w0 11)) < (0 : Int32) then (0 : Int32) else ((w0 40) - (w0 11))) (if (w0 9) < ((w0 41) + (w0 10)) then (w0 9) else ((w0 41) + (w0 10)))) a1))))) (u := (F_S_put_9 w0 (if ((w0 40) - (w0 11)) < (0 : Int32) then (0 : Int32) else ((w0 40) - (w0 11))) (if (w0 9) < ((w0 41) + (w0 10)) then (w0 9) else ((w0 41) + (w0 10))))) (va_runV (As := [.int (((F_S_put_9 w0 (if ((w0 40) - (w0 11)) < (0 : Int32) then (0 : Int32) else ((w0 40) - (w0 11))) (if (w0 9) < ((w0 41) + (w0 10)) then (w0 9) else ((w0 41) + (w0 10))) 38) - (if (F_S_put_9 w0 (if ((w0 40) - (w0 11)) < (0 : Int32) then (0 : Int32) else ((w0 40) - (w0 11))) (if (w0 9) < ((w0 41) + (w0 10)) then (w0 9) else ((w0 41) + (w0 10))) 41) < (F_S_put_9 w0 (if ((w0 40) - (w0 11)) < (0 : Int32) then (0 : Int32) else ((w0 40) - (w0 11))) (if (w0 9) < ((w0 41) + (w0 10)) then (w0 9) else ((w0 41) + (w0 10))) 45) then (F_S_put_9 w0 (if ((w0 40) - (w0 11)) < (0 : Int32) then (0 : Int32) else ((w0 40) - (w0 11))) (if (w0 9) < ((w0 41) + (w0 10)) then (w0 9) else ((w0 41) + (w0 10))) 45) else (F_S_put_9 w0 (if ((w0 40) - (w0 11)) < (0 : Int32) then (0 : Int32) else ((w0 40) - (w0 11))) (if (w0 9) < ((w0 41) + (w0 10)) then (w0 9) else ((w0 41) + (w0 10))) 41))) + (F_P_given (F_S_put_9 w0 (if ((w0 40) - (w0 11)) < (0 : Int32) then (0 : Int32) else ((w0 40) - (w0 11))) (if (w0 9) < ((w0 41) + (w0 10)) then (w0 9) else ((w0 41) + (w0 10)))) (F_M_pumpsSurelyGiving (F_S_put_9 w0 (if ((w0 40) - (w0 11)) < (0 : Int32) then (0 : Int32) else ((w0 40) - (w0 11))) (if (w0 9) < ((w0 41) + (w0 10)) then (w0 9) else ((w0 41) + (w0 10)))) a1)))]) (rest := [.ref (h 8)]) ⟨hx, hb, hml, hown, hts⟩ (c_P_withinCapacity l D h _ (F_S_put_9 w0 (if ((w0 40) - (w0 11)) < (0 : Int32) then (0 : Int32) else ((w0 40) - (w0 11))) (if (w0 9) < ((w0 41) + (w0 10)) then (w0 9) else ((w0 41) + (w0 10)))) (((F_S_put_9 w0 (if ((w0 40) - (w0 11)) < (0 : Int32) then (0 : Int32) else ((w0 40) - (w0 11))) (if (w0 9) < ((w0 41) + (w0 10)) then (w0 9) else ((w0 41) + (w0 10))) 38) - (if (F_S_put_9 w0 (if ((w0 40) - (w0 11)) < (0 : Int32) then (0 : Int32) else ((w0 40) - (w0 11))) (if (w0 9) < ((w0 41) + (w0 10)) then (w0 9) else ((w0 41) + (w0 10))) 41) < (F_S_put_9 w0 (if ((w0 40) - (w0 11)) < (0 : Int32) then (0 : Int32) else ((w0 40) - (w0 11))) (if (w0 9) < ((w0 41) + (w0 10)) then (w0 9) else ((w0 41) + (w0 10))) 45) then (F_S_put_9 w0 (if ((w0 40) - (w0 11)) < (0 : Int32) then (0 : Int32) else ((w0 40) - (w0 11))) (if (w0 9) < ((w0 41) + (w0 10)) then (w0 9) else ((w0 41) + (w0 10))) 45) else (F_S_put_9 w0 (if ((w0 40) - (w0 11)) < (0 : Int32) then (0 : Int32) else ((w0 40) - (w0 11))) (if (w0 9) < ((w0 41) + (w0 10)) then (w0 9) else ((w0 41) + (w0 10))) 41))) + (F_P_given (F_S_put_9 w0 (if ((w0 40) - (w0 11)) < (0 : Int32) then (0 : Int32) else ((w0 40) - (w0 11))) (if (w0 9) < ((w0 41) + (w0 10)) then (w0 9) else ((w0 41) + (w0 10)))) (F_M_pumpsSurelyGiving (F_S_put_9 w0 (if ((w0 40) - (w0 11)) < (0 : Int32) then (0 : Int32) else ((w0 40) - (w0 11))) (if (w0 9) < ((w0 41) + (w0 10)) then (w0 9) else ((w0 41) + (w0 10)))) a1)))) (cwV 1 hts (gd_V q_533 q_534 q_535 q_34 q_536) rfl rfl rfl (by decide +kernel) ⟨Nat.le_of_ble_eq_true rfl, Nat.le_of_ble_eq_true rfl⟩) (kb_preV hN hK hP hD (va_recv hK hP (ci := 3) (q0 := 1) rfl rfl)) rfl rfl hl.1 rfl (lv_room (Nat.le_of_ble_eq_true rfl)) dD_expectReadings_177 ⟨Nat.zero_le _, Nat.zero_le _⟩) hP hD hS hA (fun H locs hP hD hS => ?_)
    refine lv_aload_n hx hb dD_expectReadings_180 rfl (lv_at hl 4 rfl) ?_
    refine va_get (D := D) (ci := 0) (v := .ref (h 1)) (C := "BoilerDesk") (T := TD) (N := 13) hx hb hts inD hown hK hP 0 rfl rfl 0 (by decide) (hts _ q_272) (fun _ h9 => h9) rfl dD_expectReadings_181 ?_
    refine lv_aload_n hx hb dD_expectReadings_184 rfl (lv_at hl 4 rfl) ?_
    refine va_get (D := D) (ci := 0) (v := .ref (h 6)) (C := "BoilerDesk") (T := TD) (N := 13) hx hb hts inD hown hK hP 0 rfl rfl 5 (by decide) (hts _ q_277) (fun _ h9 => h9) rfl dD_expectReadings_185 ?_
    refine va_get (D := D) (ci := 5) (v := .int (F_S_put_9 w0 (if ((w0 40) - (w0 11)) < (0 : Int32) then (0 : Int32) else ((w0 40) - (w0 11))) (if (w0 9) < ((w0 41) + (w0 10)) then (w0 9) else ((w0 41) + (w0 10))) 39)) (C := "BoilerDesk$Span") (T := TS) (N := 2) hx hb hts inS hown hK hP 6 rfl rfl 1 (by decide) (hts _ q_234) (fun _ h9 => h9) rfl dD_expectReadings_188 ?_
    refine lv_iload_n hx hb dD_expectReadings_191 rfl (lv_at hl 2 rfl) ?_
    refine lv_isub hx hb dD_expectReadings_192 ?_
    refine lv_aload_n hx hb dD_expectReadings_193 rfl (lv_at hl 4 rfl) ?_
    refine va_get (D := D) (ci := 0) (v := .ref (h 1)) (C := "BoilerDesk") (T := TD) (N := 13) hx hb hts inD hown hK hP 0 rfl rfl 0 (by decide) (hts _ q_272) (fun _ h9 => h9) rfl dD_expectReadings_194 ?_
    refine lv_iload hx hb dD_expectReadings_197 (lv_at hl 0 rfl) ?_
    refine kb_calli (wf := cw h) (r := (F_P_given (F_S_put_9 w0 (if ((w0 40) - (w0 11)) < (0 : Int32) then (0 : Int32) else ((w0 40) - (w0 11))) (if (w0 9) < ((w0 41) + (w0 10)) then (w0 9) else ((w0 41) + (w0 10)))) ((15 : Int32) &&& ((F_M_pumpsSurelyIdle (F_S_put_9 w0 (if ((w0 40) - (w0 11)) < (0 : Int32) then (0 : Int32) else ((w0 40) - (w0 11))) (if (w0 9) < ((w0 41) + (w0 10)) then (w0 9) else ((w0 41) + (w0 10)))) a1) ^^^ ((-1) : Int32))))) (u := (F_S_put_9 w0 (if ((w0 40) - (w0 11)) < (0 : Int32) then (0 : Int32) else ((w0 40) - (w0 11))) (if (w0 9) < ((w0 41) + (w0 10)) then (w0 9) else ((w0 41) + (w0 10))))) (va_runV (As := [.int ((15 : Int32) &&& ((F_M_pumpsSurelyIdle (F_S_put_9 w0 (if ((w0 40) - (w0 11)) < (0 : Int32) then (0 : Int32) else ((w0 40) - (w0 11))) (if (w0 9) < ((w0 41) + (w0 10)) then (w0 9) else ((w0 41) + (w0 10)))) a1) ^^^ ((-1) : Int32)))]) (rest := [.int ((F_S_put_9 w0 (if ((w0 40) - (w0 11)) < (0 : Int32) then (0 : Int32) else ((w0 40) - (w0 11))) (if (w0 9) < ((w0 41) + (w0 10)) then (w0 9) else ((w0 41) + (w0 10))) 39) - (if (F_S_put_9 w0 (if ((w0 40) - (w0 11)) < (0 : Int32) then (0 : Int32) else ((w0 40) - (w0 11))) (if (w0 9) < ((w0 41) + (w0 10)) then (w0 9) else ((w0 41) + (w0 10))) 44) < (F_S_put_9 w0 (if ((w0 40) - (w0 11)) < (0 : Int32) then (0 : Int32) else ((w0 40) - (w0 11))) (if (w0 9) < ((w0 41) + (w0 10)) then (w0 9) else ((w0 41) + (w0 10))) 40) then (F_S_put_9 w0 (if ((w0 40) - (w0 11)) < (0 : Int32) then (0 : Int32) else ((w0 40) - (w0 11))) (if (w0 9) < ((w0 41) + (w0 10)) then (w0 9) else ((w0 41) + (w0 10))) 44) else (F_S_put_9 w0 (if ((w0 40) - (w0 11)) < (0 : Int32) then (0 : Int32) else ((w0 40) - (w0 11))) (if (w0 9) < ((w0 41) + (w0 10)) then (w0 9) else ((w0 41) + (w0 10))) 40))), .ref (h 1), .int (F_P_withinCapacity (F_S_put_9 w0 (if ((w0 40) - (w0 11)) < (0 : Int32) then (0 : Int32) else ((w0 40) - (w0 11))) (if (w0 9) < ((w0 41) + (w0 10)) then (w0 9) else ((w0 41) + (w0 10)))) (((F_S_put_9 w0 (if ((w0 40) - (w0 11)) < (0 : Int32) then (0 : Int32) else ((w0 40) - (w0 11))) (if (w0 9) < ((w0 41) + (w0 10)) then (w0 9) else ((w0 41) + (w0 10))) 38) - (if (F_S_put_9 w0 (if ((w0 40) - (w0 11)) < (0 : Int32) then (0 : Int32) else ((w0 40) - (w0 11))) (if (w0 9) < ((w0 41) + (w0 10)) then (w0 9) else ((w0 41) + (w0 10))) 41) < (F_S_put_9 w0 (if ((w0 40) - (w0 11)) < (0 : Int32) then (0 : Int32) else ((w0 40) - (w0 11))) (if (w0 9) < ((w0 41) + (w0 10)) then (w0 9) else ((w0 41) + (w0 10))) 45) then (F_S_put_9 w0 (if ((w0 40) - (w0 11)) < (0 : Int32) then (0 : Int32) else ((w0 40) - (w0 11))) (if (w0 9) < ((w0 41) + (w0 10)) then (w0 9) else ((w0 41) + (w0 10))) 45) else (F_S_put_9 w0 (if ((w0 40) - (w0 11)) < (0 : Int32) then (0 : Int32) else ((w0 40) - (w0 11))) (if (w0 9) < ((w0 41) + (w0 10)) then (w0 9) else ((w0 41) + (w0 10))) 41))) + (F_P_given (F_S_put_9 w0 (if ((w0 40) - (w0 11)) < (0 : Int32) then (0 : Int32) else ((w0 40) - (w0 11))) (if (w0 9) < ((w0 41) + (w0 10)) then (w0 9) else ((w0 41) + (w0 10)))) (F_M_pumpsSurelyGiving (F_S_put_9 w0 (if ((w0 40) - (w0 11)) < (0 : Int32) then (0 : Int32) else ((w0 40) - (w0 11))) (if (w0 9) < ((w0 41) + (w0 10)) then (w0 9) else ((w0 41) + (w0 10)))) a1)))), .ref (h 8)]) ⟨hx, hb, hml, hown, hts⟩ (c_P_given l D h _ (F_S_put_9 w0 (if ((w0 40) - (w0 11)) < (0 : Int32) then (0 : Int32) else ((w0 40) - (w0 11))) (if (w0 9) < ((w0 41) + (w0 10)) then (w0 9) else ((w0 41) + (w0 10)))) ((15 : Int32) &&& ((F_M_pumpsSurelyIdle (F_S_put_9 w0 (if ((w0 40) - (w0 11)) < (0 : Int32) then (0 : Int32) else ((w0 40) - (w0 11))) (if (w0 9) < ((w0 41) + (w0 10)) then (w0 9) else ((w0 41) + (w0 10)))) a1) ^^^ ((-1) : Int32)))) (cwV 1 hts (gd_V q_523 q_524 q_525 q_34 q_526) rfl rfl rfl (by decide +kernel) ⟨Nat.le_of_ble_eq_true rfl, Nat.le_of_ble_eq_true rfl⟩) (kb_preV hN hK hP hD (va_recv hK hP (ci := 3) (q0 := 1) rfl rfl)) rfl rfl hl.1 rfl (lv_room (Nat.le_of_ble_eq_true rfl)) dD_expectReadings_199 ⟨Nat.zero_le _, Nat.zero_le _⟩) hP hD hS hA (fun H locs hP hD hS => ?_)
    refine lv_iadd hx hb dD_expectReadings_202 ?_
    refine kb_calli (wf := cw h) (r := (F_P_withinCapacity (F_S_put_9 w0 (if ((w0 40) - (w0 11)) < (0 : Int32) then (0 : Int32) else ((w0 40) - (w0 11))) (if (w0 9) < ((w0 41) + (w0 10)) then (w0 9) else ((w0 41) + (w0 10)))) (((F_S_put_9 w0 (if ((w0 40) - (w0 11)) < (0 : Int32) then (0 : Int32) else ((w0 40) - (w0 11))) (if (w0 9) < ((w0 41) + (w0 10)) then (w0 9) else ((w0 41) + (w0 10))) 39) - (if (F_S_put_9 w0 (if ((w0 40) - (w0 11)) < (0 : Int32) then (0 : Int32) else ((w0 40) - (w0 11))) (if (w0 9) < ((w0 41) + (w0 10)) then (w0 9) else ((w0 41) + (w0 10))) 44) < (F_S_put_9 w0 (if ((w0 40) - (w0 11)) < (0 : Int32) then (0 : Int32) else ((w0 40) - (w0 11))) (if (w0 9) < ((w0 41) + (w0 10)) then (w0 9) else ((w0 41) + (w0 10))) 40) then (F_S_put_9 w0 (if ((w0 40) - (w0 11)) < (0 : Int32) then (0 : Int32) else ((w0 40) - (w0 11))) (if (w0 9) < ((w0 41) + (w0 10)) then (w0 9) else ((w0 41) + (w0 10))) 44) else (F_S_put_9 w0 (if ((w0 40) - (w0 11)) < (0 : Int32) then (0 : Int32) else ((w0 40) - (w0 11))) (if (w0 9) < ((w0 41) + (w0 10)) then (w0 9) else ((w0 41) + (w0 10))) 40))) + (F_P_given (F_S_put_9 w0 (if ((w0 40) - (w0 11)) < (0 : Int32) then (0 : Int32) else ((w0 40) - (w0 11))) (if (w0 9) < ((w0 41) + (w0 10)) then (w0 9) else ((w0 41) + (w0 10)))) ((15 : Int32) &&& ((F_M_pumpsSurelyIdle (F_S_put_9 w0 (if ((w0 40) - (w0 11)) < (0 : Int32) then (0 : Int32) else ((w0 40) - (w0 11))) (if (w0 9) < ((w0 41) + (w0 10)) then (w0 9) else ((w0 41) + (w0 10)))) a1) ^^^ ((-1) : Int32))))))) (u := (F_S_put_9 w0 (if ((w0 40) - (w0 11)) < (0 : Int32) then (0 : Int32) else ((w0 40) - (w0 11))) (if (w0 9) < ((w0 41) + (w0 10)) then (w0 9) else ((w0 41) + (w0 10))))) (va_runV (As := [.int (((F_S_put_9 w0 (if ((w0 40) - (w0 11)) < (0 : Int32) then (0 : Int32) else ((w0 40) - (w0 11))) (if (w0 9) < ((w0 41) + (w0 10)) then (w0 9) else ((w0 41) + (w0 10))) 39) - (if (F_S_put_9 w0 (if ((w0 40) - (w0 11)) < (0 : Int32) then (0 : Int32) else ((w0 40) - (w0 11))) (if (w0 9) < ((w0 41) + (w0 10)) then (w0 9) else ((w0 41) + (w0 10))) 44) < (F_S_put_9 w0 (if ((w0 40) - (w0 11)) < (0 : Int32) then (0 : Int32) else ((w0 40) - (w0 11))) (if (w0 9) < ((w0 41) + (w0 10)) then (w0 9) else ((w0 41) + (w0 10))) 40) then (F_S_put_9 w0 (if ((w0 40) - (w0 11)) < (0 : Int32) then (0 : Int32) else ((w0 40) - (w0 11))) (if (w0 9) < ((w0 41) + (w0 10)) then (w0 9) else ((w0 41) + (w0 10))) 44) else (F_S_put_9 w0 (if ((w0 40) - (w0 11)) < (0 : Int32) then (0 : Int32) else ((w0 40) - (w0 11))) (if (w0 9) < ((w0 41) + (w0 10)) then (w0 9) else ((w0 41) + (w0 10))) 40))) + (F_P_given (F_S_put_9 w0 (if ((w0 40) - (w0 11)) < (0 : Int32) then (0 : Int32) else ((w0 40) - (w0 11))) (if (w0 9) < ((w0 41) + (w0 10)) then (w0 9) else ((w0 41) + (w0 10)))) ((15 : Int32) &&& ((F_M_pumpsSurelyIdle (F_S_put_9 w0 (if ((w0 40) - (w0 11)) < (0 : Int32) then (0 : Int32) else ((w0 40) - (w0 11))) (if (w0 9) < ((w0 41) + (w0 10)) then (w0 9) else ((w0 41) + (w0 10)))) a1) ^^^ ((-1) : Int32)))))]) (rest := [.int (F_P_withinCapacity (F_S_put_9 w0 (if ((w0 40) - (w0 11)) < (0 : Int32) then (0 : Int32) else ((w0 40) - (w0 11))) (if (w0 9) < ((w0 41) + (w0 10)) then (w0 9) else ((w0 41) + (w0 10)))) (((F_S_put_9 w0 (if ((w0 40) - (w0 11)) < (0 : Int32) then (0 : Int32) else ((w0 40) - (w0 11))) (if (w0 9) < ((w0 41) + (w0 10)) then (w0 9) else ((w0 41) + (w0 10))) 38) - (if (F_S_put_9 w0 (if ((w0 40) - (w0 11)) < (0 : Int32) then (0 : Int32) else ((w0 40) - (w0 11))) (if (w0 9) < ((w0 41) + (w0 10)) then (w0 9) else ((w0 41) + (w0 10))) 41) < (F_S_put_9 w0 (if ((w0 40) - (w0 11)) < (0 : Int32) then (0 : Int32) else ((w0 40) - (w0 11))) (if (w0 9) < ((w0 41) + (w0 10)) then (w0 9) else ((w0 41) + (w0 10))) 45) then (F_S_put_9 w0 (if ((w0 40) - (w0 11)) < (0 : Int32) then (0 : Int32) else ((w0 40) - (w0 11))) (if (w0 9) < ((w0 41) + (w0 10)) then (w0 9) else ((w0 41) + (w0 10))) 45) else (F_S_put_9 w0 (if ((w0 40) - (w0 11)) < (0 : Int32) then (0 : Int32) else ((w0 40) - (w0 11))) (if (w0 9) < ((w0 41) + (w0 10)) then (w0 9) else ((w0 41) + (w0 10))) 41))) + (F_P_given (F_S_put_9 w0 (if ((w0 40) - (w0 11)) < (0 : Int32) then (0 : Int32) else ((w0 40) - (w0 11))) (if (w0 9) < ((w0 41) + (w0 10)) then (w0 9) else ((w0 41) + (w0 10)))) (F_M_pumpsSurelyGiving (F_S_put_9 w0 (if ((w0 40) - (w0 11)) < (0 : Int32) then (0 : Int32) else ((w0 40) - (w0 11))) (if (w0 9) < ((w0 41) + (w0 10)) then (w0 9) else ((w0 41) + (w0 10)))) a1)))), .ref (h 8)]) ⟨hx, hb, hml, hown, hts⟩ (c_P_withinCapacity l D h _ (F_S_put_9 w0 (if ((w0 40) - (w0 11)) < (0 : Int32) then (0 : Int32) else ((w0 40) - (w0 11))) (if (w0 9) < ((w0 41) + (w0 10)) then (w0 9) else ((w0 41) + (w0 10)))) (((F_S_put_9 w0 (if ((w0 40) - (w0 11)) < (0 : Int32) then (0 : Int32) else ((w0 40) - (w0 11))) (if (w0 9) < ((w0 41) + (w0 10)) then (w0 9) else ((w0 41) + (w0 10))) 39) - (if (F_S_put_9 w0 (if ((w0 40) - (w0 11)) < (0 : Int32) then (0 : Int32) else ((w0 40) - (w0 11))) (if (w0 9) < ((w0 41) + (w0 10)) then (w0 9) else ((w0 41) + (w0 10))) 44) < (F_S_put_9 w0 (if ((w0 40) - (w0 11)) < (0 : Int32) then (0 : Int32) else ((w0 40) - (w0 11))) (if (w0 9) < ((w0 41) + (w0 10)) then (w0 9) else ((w0 41) + (w0 10))) 40) then (F_S_put_9 w0 (if ((w0 40) - (w0 11)) < (0 : Int32) then (0 : Int32) else ((w0 40) - (w0 11))) (if (w0 9) < ((w0 41) + (w0 10)) then (w0 9) else ((w0 41) + (w0 10))) 44) else (F_S_put_9 w0 (if ((w0 40) - (w0 11)) < (0 : Int32) then (0 : Int32) else ((w0 40) - (w0 11))) (if (w0 9) < ((w0 41) + (w0 10)) then (w0 9) else ((w0 41) + (w0 10))) 40))) + (F_P_given (F_S_put_9 w0 (if ((w0 40) - (w0 11)) < (0 : Int32) then (0 : Int32) else ((w0 40) - (w0 11))) (if (w0 9) < ((w0 41) + (w0 10)) then (w0 9) else ((w0 41) + (w0 10)))) ((15 : Int32) &&& ((F_M_pumpsSurelyIdle (F_S_put_9 w0 (if ((w0 40) - (w0 11)) < (0 : Int32) then (0 : Int32) else ((w0 40) - (w0 11))) (if (w0 9) < ((w0 41) + (w0 10)) then (w0 9) else ((w0 41) + (w0 10)))) a1) ^^^ ((-1) : Int32)))))) (cwV 1 hts (gd_V q_533 q_534 q_535 q_34 q_536) rfl rfl rfl (by decide +kernel) ⟨Nat.le_of_ble_eq_true rfl, Nat.le_of_ble_eq_true rfl⟩) (kb_preV hN hK hP hD (va_recv hK hP (ci := 3) (q0 := 1) rfl rfl)) rfl rfl hl.1 rfl (lv_room (Nat.le_of_ble_eq_true rfl)) dD_expectReadings_203 ⟨Nat.zero_le _, Nat.zero_le _⟩) hP hD hS hA (fun H locs hP hD hS => ?_)
    refine kb_callv (wf := cw h) (u := F_S_put_8 (F_S_put_9 w0 (if ((w0 40) - (w0 11)) < (0 : Int32) then (0 : Int32) else ((w0 40) - (w0 11))) (if (w0 9) < ((w0 41) + (w0 10)) then (w0 9) else ((w0 41) + (w0 10)))) (F_P_withinCapacity (F_S_put_9 w0 (if ((w0 40) - (w0 11)) < (0 : Int32) then (0 : Int32) else ((w0 40) - (w0 11))) (if (w0 9) < ((w0 41) + (w0 10)) then (w0 9) else ((w0 41) + (w0 10)))) (((F_S_put_9 w0 (if ((w0 40) - (w0 11)) < (0 : Int32) then (0 : Int32) else ((w0 40) - (w0 11))) (if (w0 9) < ((w0 41) + (w0 10)) then (w0 9) else ((w0 41) + (w0 10))) 38) - (if (F_S_put_9 w0 (if ((w0 40) - (w0 11)) < (0 : Int32) then (0 : Int32) else ((w0 40) - (w0 11))) (if (w0 9) < ((w0 41) + (w0 10)) then (w0 9) else ((w0 41) + (w0 10))) 41) < (F_S_put_9 w0 (if ((w0 40) - (w0 11)) < (0 : Int32) then (0 : Int32) else ((w0 40) - (w0 11))) (if (w0 9) < ((w0 41) + (w0 10)) then (w0 9) else ((w0 41) + (w0 10))) 45) then (F_S_put_9 w0 (if ((w0 40) - (w0 11)) < (0 : Int32) then (0 : Int32) else ((w0 40) - (w0 11))) (if (w0 9) < ((w0 41) + (w0 10)) then (w0 9) else ((w0 41) + (w0 10))) 45) else (F_S_put_9 w0 (if ((w0 40) - (w0 11)) < (0 : Int32) then (0 : Int32) else ((w0 40) - (w0 11))) (if (w0 9) < ((w0 41) + (w0 10)) then (w0 9) else ((w0 41) + (w0 10))) 41))) + (F_P_given (F_S_put_9 w0 (if ((w0 40) - (w0 11)) < (0 : Int32) then (0 : Int32) else ((w0 40) - (w0 11))) (if (w0 9) < ((w0 41) + (w0 10)) then (w0 9) else ((w0 41) + (w0 10)))) (F_M_pumpsSurelyGiving (F_S_put_9 w0 (if ((w0 40) - (w0 11)) < (0 : Int32) then (0 : Int32) else ((w0 40) - (w0 11))) (if (w0 9) < ((w0 41) + (w0 10)) then (w0 9) else ((w0 41) + (w0 10)))) a1)))) (F_P_withinCapacity (F_S_put_9 w0 (if ((w0 40) - (w0 11)) < (0 : Int32) then (0 : Int32) else ((w0 40) - (w0 11))) (if (w0 9) < ((w0 41) + (w0 10)) then (w0 9) else ((w0 41) + (w0 10)))) (((F_S_put_9 w0 (if ((w0 40) - (w0 11)) < (0 : Int32) then (0 : Int32) else ((w0 40) - (w0 11))) (if (w0 9) < ((w0 41) + (w0 10)) then (w0 9) else ((w0 41) + (w0 10))) 39) - (if (F_S_put_9 w0 (if ((w0 40) - (w0 11)) < (0 : Int32) then (0 : Int32) else ((w0 40) - (w0 11))) (if (w0 9) < ((w0 41) + (w0 10)) then (w0 9) else ((w0 41) + (w0 10))) 44) < (F_S_put_9 w0 (if ((w0 40) - (w0 11)) < (0 : Int32) then (0 : Int32) else ((w0 40) - (w0 11))) (if (w0 9) < ((w0 41) + (w0 10)) then (w0 9) else ((w0 41) + (w0 10))) 40) then (F_S_put_9 w0 (if ((w0 40) - (w0 11)) < (0 : Int32) then (0 : Int32) else ((w0 40) - (w0 11))) (if (w0 9) < ((w0 41) + (w0 10)) then (w0 9) else ((w0 41) + (w0 10))) 44) else (F_S_put_9 w0 (if ((w0 40) - (w0 11)) < (0 : Int32) then (0 : Int32) else ((w0 40) - (w0 11))) (if (w0 9) < ((w0 41) + (w0 10)) then (w0 9) else ((w0 41) + (w0 10))) 40))) + (F_P_given (F_S_put_9 w0 (if ((w0 40) - (w0 11)) < (0 : Int32) then (0 : Int32) else ((w0 40) - (w0 11))) (if (w0 9) < ((w0 41) + (w0 10)) then (w0 9) else ((w0 41) + (w0 10)))) ((15 : Int32) &&& ((F_M_pumpsSurelyIdle (F_S_put_9 w0 (if ((w0 40) - (w0 11)) < (0 : Int32) then (0 : Int32) else ((w0 40) - (w0 11))) (if (w0 9) < ((w0 41) + (w0 10)) then (w0 9) else ((w0 41) + (w0 10)))) a1) ^^^ ((-1) : Int32))))))) (va_runV (As := [.int (F_P_withinCapacity (F_S_put_9 w0 (if ((w0 40) - (w0 11)) < (0 : Int32) then (0 : Int32) else ((w0 40) - (w0 11))) (if (w0 9) < ((w0 41) + (w0 10)) then (w0 9) else ((w0 41) + (w0 10)))) (((F_S_put_9 w0 (if ((w0 40) - (w0 11)) < (0 : Int32) then (0 : Int32) else ((w0 40) - (w0 11))) (if (w0 9) < ((w0 41) + (w0 10)) then (w0 9) else ((w0 41) + (w0 10))) 38) - (if (F_S_put_9 w0 (if ((w0 40) - (w0 11)) < (0 : Int32) then (0 : Int32) else ((w0 40) - (w0 11))) (if (w0 9) < ((w0 41) + (w0 10)) then (w0 9) else ((w0 41) + (w0 10))) 41) < (F_S_put_9 w0 (if ((w0 40) - (w0 11)) < (0 : Int32) then (0 : Int32) else ((w0 40) - (w0 11))) (if (w0 9) < ((w0 41) + (w0 10)) then (w0 9) else ((w0 41) + (w0 10))) 45) then (F_S_put_9 w0 (if ((w0 40) - (w0 11)) < (0 : Int32) then (0 : Int32) else ((w0 40) - (w0 11))) (if (w0 9) < ((w0 41) + (w0 10)) then (w0 9) else ((w0 41) + (w0 10))) 45) else (F_S_put_9 w0 (if ((w0 40) - (w0 11)) < (0 : Int32) then (0 : Int32) else ((w0 40) - (w0 11))) (if (w0 9) < ((w0 41) + (w0 10)) then (w0 9) else ((w0 41) + (w0 10))) 41))) + (F_P_given (F_S_put_9 w0 (if ((w0 40) - (w0 11)) < (0 : Int32) then (0 : Int32) else ((w0 40) - (w0 11))) (if (w0 9) < ((w0 41) + (w0 10)) then (w0 9) else ((w0 41) + (w0 10)))) (F_M_pumpsSurelyGiving (F_S_put_9 w0 (if ((w0 40) - (w0 11)) < (0 : Int32) then (0 : Int32) else ((w0 40) - (w0 11))) (if (w0 9) < ((w0 41) + (w0 10)) then (w0 9) else ((w0 41) + (w0 10)))) a1)))), .int (F_P_withinCapacity (F_S_put_9 w0 (if ((w0 40) - (w0 11)) < (0 : Int32) then (0 : Int32) else ((w0 40) - (w0 11))) (if (w0 9) < ((w0 41) + (w0 10)) then (w0 9) else ((w0 41) + (w0 10)))) (((F_S_put_9 w0 (if ((w0 40) - (w0 11)) < (0 : Int32) then (0 : Int32) else ((w0 40) - (w0 11))) (if (w0 9) < ((w0 41) + (w0 10)) then (w0 9) else ((w0 41) + (w0 10))) 39) - (if (F_S_put_9 w0 (if ((w0 40) - (w0 11)) < (0 : Int32) then (0 : Int32) else ((w0 40) - (w0 11))) (if (w0 9) < ((w0 41) + (w0 10)) then (w0 9) else ((w0 41) + (w0 10))) 44) < (F_S_put_9 w0 (if ((w0 40) - (w0 11)) < (0 : Int32) then (0 : Int32) else ((w0 40) - (w0 11))) (if (w0 9) < ((w0 41) + (w0 10)) then (w0 9) else ((w0 41) + (w0 10))) 40) then (F_S_put_9 w0 (if ((w0 40) - (w0 11)) < (0 : Int32) then (0 : Int32) else ((w0 40) - (w0 11))) (if (w0 9) < ((w0 41) + (w0 10)) then (w0 9) else ((w0 41) + (w0 10))) 44) else (F_S_put_9 w0 (if ((w0 40) - (w0 11)) < (0 : Int32) then (0 : Int32) else ((w0 40) - (w0 11))) (if (w0 9) < ((w0 41) + (w0 10)) then (w0 9) else ((w0 41) + (w0 10))) 40))) + (F_P_given (F_S_put_9 w0 (if ((w0 40) - (w0 11)) < (0 : Int32) then (0 : Int32) else ((w0 40) - (w0 11))) (if (w0 9) < ((w0 41) + (w0 10)) then (w0 9) else ((w0 41) + (w0 10)))) ((15 : Int32) &&& ((F_M_pumpsSurelyIdle (F_S_put_9 w0 (if ((w0 40) - (w0 11)) < (0 : Int32) then (0 : Int32) else ((w0 40) - (w0 11))) (if (w0 9) < ((w0 41) + (w0 10)) then (w0 9) else ((w0 41) + (w0 10)))) a1) ^^^ ((-1) : Int32))))))]) (rest := []) ⟨hx, hb, hml, hown, hts⟩ (c_S_put_8 l D h _ (F_S_put_9 w0 (if ((w0 40) - (w0 11)) < (0 : Int32) then (0 : Int32) else ((w0 40) - (w0 11))) (if (w0 9) < ((w0 41) + (w0 10)) then (w0 9) else ((w0 41) + (w0 10)))) (F_P_withinCapacity (F_S_put_9 w0 (if ((w0 40) - (w0 11)) < (0 : Int32) then (0 : Int32) else ((w0 40) - (w0 11))) (if (w0 9) < ((w0 41) + (w0 10)) then (w0 9) else ((w0 41) + (w0 10)))) (((F_S_put_9 w0 (if ((w0 40) - (w0 11)) < (0 : Int32) then (0 : Int32) else ((w0 40) - (w0 11))) (if (w0 9) < ((w0 41) + (w0 10)) then (w0 9) else ((w0 41) + (w0 10))) 38) - (if (F_S_put_9 w0 (if ((w0 40) - (w0 11)) < (0 : Int32) then (0 : Int32) else ((w0 40) - (w0 11))) (if (w0 9) < ((w0 41) + (w0 10)) then (w0 9) else ((w0 41) + (w0 10))) 41) < (F_S_put_9 w0 (if ((w0 40) - (w0 11)) < (0 : Int32) then (0 : Int32) else ((w0 40) - (w0 11))) (if (w0 9) < ((w0 41) + (w0 10)) then (w0 9) else ((w0 41) + (w0 10))) 45) then (F_S_put_9 w0 (if ((w0 40) - (w0 11)) < (0 : Int32) then (0 : Int32) else ((w0 40) - (w0 11))) (if (w0 9) < ((w0 41) + (w0 10)) then (w0 9) else ((w0 41) + (w0 10))) 45) else (F_S_put_9 w0 (if ((w0 40) - (w0 11)) < (0 : Int32) then (0 : Int32) else ((w0 40) - (w0 11))) (if (w0 9) < ((w0 41) + (w0 10)) then (w0 9) else ((w0 41) + (w0 10))) 41))) + (F_P_given (F_S_put_9 w0 (if ((w0 40) - (w0 11)) < (0 : Int32) then (0 : Int32) else ((w0 40) - (w0 11))) (if (w0 9) < ((w0 41) + (w0 10)) then (w0 9) else ((w0 41) + (w0 10)))) (F_M_pumpsSurelyGiving (F_S_put_9 w0 (if ((w0 40) - (w0 11)) < (0 : Int32) then (0 : Int32) else ((w0 40) - (w0 11))) (if (w0 9) < ((w0 41) + (w0 10)) then (w0 9) else ((w0 41) + (w0 10)))) a1)))) (F_P_withinCapacity (F_S_put_9 w0 (if ((w0 40) - (w0 11)) < (0 : Int32) then (0 : Int32) else ((w0 40) - (w0 11))) (if (w0 9) < ((w0 41) + (w0 10)) then (w0 9) else ((w0 41) + (w0 10)))) (((F_S_put_9 w0 (if ((w0 40) - (w0 11)) < (0 : Int32) then (0 : Int32) else ((w0 40) - (w0 11))) (if (w0 9) < ((w0 41) + (w0 10)) then (w0 9) else ((w0 41) + (w0 10))) 39) - (if (F_S_put_9 w0 (if ((w0 40) - (w0 11)) < (0 : Int32) then (0 : Int32) else ((w0 40) - (w0 11))) (if (w0 9) < ((w0 41) + (w0 10)) then (w0 9) else ((w0 41) + (w0 10))) 44) < (F_S_put_9 w0 (if ((w0 40) - (w0 11)) < (0 : Int32) then (0 : Int32) else ((w0 40) - (w0 11))) (if (w0 9) < ((w0 41) + (w0 10)) then (w0 9) else ((w0 41) + (w0 10))) 40) then (F_S_put_9 w0 (if ((w0 40) - (w0 11)) < (0 : Int32) then (0 : Int32) else ((w0 40) - (w0 11))) (if (w0 9) < ((w0 41) + (w0 10)) then (w0 9) else ((w0 41) + (w0 10))) 44) else (F_S_put_9 w0 (if ((w0 40) - (w0 11)) < (0 : Int32) then (0 : Int32) else ((w0 40) - (w0 11))) (if (w0 9) < ((w0 41) + (w0 10)) then (w0 9) else ((w0 41) + (w0 10))) 40))) + (F_P_given (F_S_put_9 w0 (if ((w0 40) - (w0 11)) < (0 : Int32) then (0 : Int32) else ((w0 40) - (w0 11))) (if (w0 9) < ((w0 41) + (w0 10)) then (w0 9) else ((w0 41) + (w0 10)))) ((15 : Int32) &&& ((F_M_pumpsSurelyIdle (F_S_put_9 w0 (if ((w0 40) - (w0 11)) < (0 : Int32) then (0 : Int32) else ((w0 40) - (w0 11))) (if (w0 9) < ((w0 41) + (w0 10)) then (w0 9) else ((w0 41) + (w0 10)))) a1) ^^^ ((-1) : Int32))))))) (cwV 2 hts (gd_V q_268 q_269 q_270 q_39 q_271) rfl rfl rfl (by decide +kernel) ⟨Nat.le_of_ble_eq_true rfl, Nat.le_of_ble_eq_true rfl⟩) (kb_preV hN hK hP hD (va_recv hK hP (ci := 5) (q0 := 8) rfl rfl)) rfl rfl hl.1 rfl (lv_room (Nat.le_of_ble_eq_true rfl)) dD_expectReadings_206 ⟨Nat.zero_le _, Nat.zero_le _⟩) hP hD hS hA (fun H locs hP hD hS => ?_)
    exact kb_vret (wf := cw h) hx hb hr hlocks hK hP hD hS e.symm dD_expectReadings_209
  · have e := e.trans (if_pos c_1)
    refine lv_aload_n hx hb dD_expectReadings_7 rfl (lv_at hl 0 rfl) ?_
    refine va_get (D := D) (ci := 0) (v := .ref (h 9)) (C := "BoilerDesk") (T := TD) (N := 13) hx hb hts inD hown hK hP 0 rfl rfl 8 (by decide) (hts _ q_280) (fun _ h9 => h9) rfl dD_expectReadings_8 ?_
    refine lv_iconst (v := 0) hx hb dD_expectReadings_11 (by decide) ?_
    refine lv_aload_n hx hb dD_expectReadings_12 rfl (lv_at hl 0 rfl) ?_
    refine va_get (D := D) (ci := 0) (v := .ref (h 1)) (C := "BoilerDesk") (T := TD) (N := 13) hx hb hts inD hown hK hP 0 rfl rfl 0 (by decide) (hts _ q_272) (fun _ h9 => h9) rfl dD_expectReadings_13 ?_
    refine va_get (D := D) (ci := 3) (v := .int (w0 9)) (C := "BoilerDesk$Plant") (T := TP) (N := 9) hx hb hts inP hown hK hP 1 rfl rfl 5 (by decide) (hts _ q_73) (fun _ h9 => h9) rfl dD_expectReadings_16 ?_
    refine kb_callv (wf := cw h) (u := F_S_put_9 w0 (0 : Int32) (w0 9)) (va_runV (As := [.int 0, .int (w0 9)]) (rest := []) ⟨hx, hb, hml, hown, hts⟩ (c_S_put_9 l D h _ w0 (0 : Int32) (w0 9)) (cwV 2 hts (gd_V q_268 q_269 q_270 q_39 q_271) rfl rfl rfl (by decide +kernel) ⟨Nat.le_of_ble_eq_true rfl, Nat.le_of_ble_eq_true rfl⟩) (kb_preV hN hK hP hD (va_recv hK hP (ci := 5) (q0 := 9) rfl rfl)) rfl rfl hl.1 rfl (lv_room (Nat.le_of_ble_eq_true rfl)) dD_expectReadings_19 ⟨Nat.zero_le _, Nat.zero_le _⟩) hP hD hS hA (fun H locs hP hD hS => ?_)
    refine lv_aload_n hx hb dD_expectReadings_22 rfl (lv_at hl 0 rfl) ?_
    refine va_get (D := D) (ci := 0) (v := .ref (h 8)) (C := "BoilerDesk") (T := TD) (N := 13) hx hb hts inD hown hK hP 0 rfl rfl 7 (by decide) (hts _ q_279) (fun _ h9 => h9) rfl dD_expectReadings_23 ?_
    refine lv_iconst (v := 0) hx hb dD_expectReadings_26 (by decide) ?_
    refine lv_aload_n hx hb dD_expectReadings_27 rfl (lv_at hl 0 rfl) ?_
    refine va_get (D := D) (ci := 0) (v := .ref (h 1)) (C := "BoilerDesk") (T := TD) (N := 13) hx hb hts inD hown hK hP 0 rfl rfl 0 (by decide) (hts _ q_272) (fun _ h9 => h9) rfl dD_expectReadings_28 ?_
    refine va_get (D := D) (ci := 3) (v := .int (F_S_put_9 w0 (0 : Int32) (w0 9) 4)) (C := "BoilerDesk$Plant") (T := TP) (N := 9) hx hb hts inP hown hK hP 1 rfl rfl 0 (by decide) (hts _ q_63) (fun _ h9 => h9) rfl dD_expectReadings_31 ?_
    refine kb_callv (wf := cw h) (u := F_S_put_8 (F_S_put_9 w0 (0 : Int32) (w0 9)) (0 : Int32) (F_S_put_9 w0 (0 : Int32) (w0 9) 4)) (va_runV (As := [.int 0, .int (F_S_put_9 w0 (0 : Int32) (w0 9) 4)]) (rest := []) ⟨hx, hb, hml, hown, hts⟩ (c_S_put_8 l D h _ (F_S_put_9 w0 (0 : Int32) (w0 9)) (0 : Int32) (F_S_put_9 w0 (0 : Int32) (w0 9) 4)) (cwV 2 hts (gd_V q_268 q_269 q_270 q_39 q_271) rfl rfl rfl (by decide +kernel) ⟨Nat.le_of_ble_eq_true rfl, Nat.le_of_ble_eq_true rfl⟩) (kb_preV hN hK hP hD (va_recv hK hP (ci := 5) (q0 := 8) rfl rfl)) rfl rfl hl.1 rfl (lv_room (Nat.le_of_ble_eq_true rfl)) dD_expectReadings_34 ⟨Nat.zero_le _, Nat.zero_le _⟩) hP hD hS hA (fun H locs hP hD hS => ?_)
    exact kb_vret (wf := cw h) hx hb hr hlocks hK hP hD hS e.symm dD_expectReadings_37
/-- BoilerDesk.takeRepairs()V -/
def K_D_takeRepairs_2  : Nat → Nat → (Nat → Int32) → (Nat → Int32)
  | 0, _, w => w
  | n + 1, i, w => (if (w 0) = (4 : Int32) then w else (if (F_D_hasBit (w 23) (nI i)) = (0 : Int32) then K_D_takeRepairs_2 n (i + 1) w else (if (F_U_hasFailed w (nI i)) = (0 : Int32) then K_D_takeRepairs_2 n (i + 1) (F_D_stopUnlessInitial w) else K_D_takeRepairs_2 n (i + 1) (up (F_U_repair w (nI i)) 36 (F_D_withBit (F_U_repair w (nI i) 36) (nI i) (1 : Int32))))))
def F_D_takeRepairs (w0 : Nat → Int32)  : Nat → Int32 := K_D_takeRepairs_2 10 0 w0
set_option maxHeartbeats 4000000 in
set_option maxRecDepth 100000 in
theorem c_D_takeRepairs (l : Launch) (D : va_G) (h : Nat → Nat) (sz : Nat) (w0 : Nat → Int32)   : Met l yD_takeRepairs [.code yD_takeRepairs cD_takeRepairs 2 none] ({ frames := 2, cells := 0, slots := 0, locals := 43 }) (va_Pc [.ref (h 0)] (kb_B D [] (cw h) w0 sz)) (va_Qv (fun u' => u' = F_D_takeRepairs w0) (kb_E D [] (cw h) (va_A (cw h w0) sz)) (va_A (cw h w0) sz)) 0 0 (va_A (cw h w0) sz) := by
  refine kb_of (cc := cD_takeRepairs) (maxL := 2) (ret := none) (QcA := fun A => (va_Qv (fun u' => u' = F_D_takeRepairs w0) (kb_E D [] (cw h) A) A)) (by decide) (Nat.le_of_ble_eq_true rfl) ?_
  intro p e s m below meth c A hx hb hr hlocks hml hown hts hA hN hK hP hD ls hl
  have hS : va_S A s.heap s.heap [] := va_S.rf
  have hl : lv_has ls 2 [(0, .ref (h 0))] := hl
  have k_2 : ∀ (n i : Nat) (w : Nat → Int32) (H : Heap) (locs : List Loc) (ls : Array Slot), i + n = 10 → F_D_takeRepairs w0 = K_D_takeRepairs_2 n i w → va_P D vwCl (cw h w) H → va_D A (cw h w) → va_S A s.heap H locs → lv_has ls 2 [(0, .ref (h 0)), (1, .int (nI i))] → W p l e ({ frames := 2, cells := 0, slots := 0, locals := 43 }) s m [.ref (h 0)].toArray below meth c H locs 0 0 (MQ below (va_Qv (fun u' => u' = F_D_takeRepairs w0) (kb_E D [] (cw h) A) A) [.ref (h 0)].toArray s 0 0 A) (F0 m 2 ls []) := by
    intro n
    induction n with
    | zero =>
      intro i w H locs ls hin e hP hD hS hl
      obtain rfl : i = 10 := by omega
      refine lv_iload_n hx hb dD_takeRepairs_2 rfl (lv_at hl 1 rfl) ?_
      refine lv_bipush (v := 10) hx hb dD_takeRepairs_3 (by decide) ?_
      refine lv_icmp_ge (tgt := 84) hx hb dD_takeRepairs_5 (by decide) (fun _ => ?_) (fun c9 => absurd (by decide) c9)
      exact kb_vret (wf := cw h) hx hb hr hlocks hK hP hD hS e.symm dD_takeRepairs_84
    | succ n ih =>
      intro i w H locs ls hin e hP hD hS hl
      refine lv_iload_n hx hb dD_takeRepairs_2 rfl (lv_at hl 1 rfl) ?_
      refine lv_bipush (v := 10) hx hb dD_takeRepairs_3 (by decide) ?_
      refine lv_icmp_ge (tgt := 84) hx hb dD_takeRepairs_5 (by decide) (fun c9 => absurd c9 (nI_ge (b := 10) (by omega) (by decide))) (fun _ => ?_)
      refine lv_aload_n hx hb dD_takeRepairs_8 rfl (lv_at hl 0 rfl) ?_
      refine va_get (D := D) (ci := 0) (v := .int (w 0)) (C := "BoilerDesk") (T := TD) (N := 13) hx hb hts inD hown hK hP 0 rfl rfl 9 (by decide) (hts _ q_281) (fun _ h9 => h9) rfl dD_takeRepairs_9 ?_
      refine lv_iconst (v := 4) hx hb dD_takeRepairs_12 (by decide) ?_
      refine lv_icmp_eq (tgt := 84) hx hb dD_takeRepairs_13 (by decide) (fun c_1 => ?_) (fun c_1 => ?_)
      · have e := e.trans (if_pos c_1)
        exact kb_vret (wf := cw h) hx hb hr hlocks hK hP hD hS e.symm dD_takeRepairs_84
      · have e := e.trans (if_neg c_1)
        refine lv_aload_n hx hb dD_takeRepairs_16 rfl (lv_at hl 0 rfl) ?_
        refine va_get (D := D) (ci := 0) (v := .ref (h 2)) (C := "BoilerDesk") (T := TD) (N := 13) hx hb hts inD hown hK hP 0 rfl rfl 1 (by decide) (hts _ q_273) (fun _ h9 => h9) rfl dD_takeRepairs_17 ?_
        refine va_get (D := D) (ci := 1) (v := .int (w 23)) (C := "BoilerDesk$Inbox") (T := TI) (N := 12) hx hb hts inI hown hK hP 2 rfl rfl 10 (by decide) (hts _ q_125) (fun _ h9 => h9) rfl dD_takeRepairs_20 ?_
        refine lv_iload_n hx hb dD_takeRepairs_23 rfl (lv_at hl 1 rfl) ?_
        refine kb_call0 (r := (F_D_hasBit (w 23) (nI i))) (va_runS (As := [.int (w 23), .int (nI i)]) (rest := []) ⟨hx, hb, hml, hown, hts⟩ (c_D_hasBit l D _ (w 23) (nI i)) (va_cwS 2 hts (gd_S q_473 q_474 q_33 q_475) rfl rfl rfl (by decide +kernel) ⟨Nat.le_of_ble_eq_true rfl, Nat.le_of_ble_eq_true rfl⟩) (kb_pre0 hN hK) rfl rfl hl.1 rfl (lv_room (Nat.le_of_ble_eq_true rfl)) dD_takeRepairs_24 ⟨Nat.zero_le _, Nat.zero_le _⟩) hP hS hA (fun H locs hP hS => ?_)
        refine lv_if_ne (tgt := 33) hx hb dD_takeRepairs_27 (by decide) (fun c_2 => ?_) (fun c_2 => ?_)
        · have e := e.trans (if_neg c_2)
          refine lv_aload_n hx hb dD_takeRepairs_33 rfl (lv_at hl 0 rfl) ?_
          refine va_get (D := D) (ci := 0) (v := .ref (h 3)) (C := "BoilerDesk") (T := TD) (N := 13) hx hb hts inD hown hK hP 0 rfl rfl 2 (by decide) (hts _ q_274) (fun _ h9 => h9) rfl dD_takeRepairs_34 ?_
          refine lv_iload_n hx hb dD_takeRepairs_37 rfl (lv_at hl 1 rfl) ?_
          refine kb_calli (wf := cw h) (r := (F_U_hasFailed w (nI i))) (u := w) (va_runV (As := [.int (nI i)]) (rest := []) ⟨hx, hb, hml, hown, hts⟩ (c_U_hasFailed l D h _ w (nI i)) (cwV 1 hts (gd_V q_476 q_477 q_478 q_36 q_479) rfl rfl rfl (by decide +kernel) ⟨Nat.le_of_ble_eq_true rfl, Nat.le_of_ble_eq_true rfl⟩) (kb_preV hN hK hP hD (va_recv hK hP (ci := 6) (q0 := 3) rfl rfl)) rfl rfl hl.1 rfl (lv_room (Nat.le_of_ble_eq_true rfl)) dD_takeRepairs_38 ⟨Nat.zero_le _, Nat.zero_le _⟩) hP hD hS hA (fun H locs hP hD hS => ?_)
          refine lv_if_eq (tgt := 74) hx hb dD_takeRepairs_41 (by decide) (fun c_3 => ?_) (fun c_3 => ?_)
          · have e := e.trans (if_pos c_3)
            refine lv_aload_n hx hb dD_takeRepairs_74 rfl (lv_at hl 0 rfl) ?_
            refine kb_callv (wf := cw h) (u := F_D_stopUnlessInitial w) (va_runV (As := []) (rest := []) ⟨hx, hb, hml, hown, hts⟩ (c_D_stopUnlessInitial l D h _ w) (cwV 0 hts (gd_V q_486 q_488 q_5 q_33 q_489) rfl rfl rfl (by decide +kernel) ⟨Nat.le_of_ble_eq_true rfl, Nat.le_of_ble_eq_true rfl⟩) (kb_preV hN hK hP hD (va_recv hK hP (ci := 0) (q0 := 0) rfl rfl)) rfl rfl hl.1 rfl (lv_room (Nat.le_of_ble_eq_true rfl)) dD_takeRepairs_75 ⟨Nat.zero_le _, Nat.zero_le _⟩) hP hD hS hA (fun H locs hP hD hS => ?_)
            refine lv_iinc (v := (nI (i + 1))) (lv' := [(1, .int (nI (i + 1))), (0, .ref (h 0))]) hx hb dD_takeRepairs_78 hl (k := 1) rfl (nI_1 i) (by decide) rfl (fun ls hl => ?_)
            refine lv_goto (tgt := 2) hx hb dD_takeRepairs_81 (by decide) ?_
            exact ih (i + 1) (F_D_stopUnlessInitial w) _ _ _ (by omega) e hP hD hS (lv_sub hl [1, 0] rfl)
          · have e := e.trans (if_neg c_3)
            refine lv_aload_n hx hb dD_takeRepairs_44 rfl (lv_at hl 0 rfl) ?_
            refine va_get (D := D) (ci := 0) (v := .ref (h 3)) (C := "BoilerDesk") (T := TD) (N := 13) hx hb hts inD hown hK hP 0 rfl rfl 2 (by decide) (hts _ q_274) (fun _ h9 => h9) rfl dD_takeRepairs_45 ?_
            refine lv_iload_n hx hb dD_takeRepairs_48 rfl (lv_at hl 1 rfl) ?_
            refine kb_callv (wf := cw h) (u := F_U_repair w (nI i)) (va_runV (As := [.int (nI i)]) (rest := []) ⟨hx, hb, hml, hown, hts⟩ (c_U_repair l D h _ w (nI i)) (cwV 1 hts (gd_V q_481 q_482 q_483 q_36 q_484) rfl rfl rfl (by decide +kernel) ⟨Nat.le_of_ble_eq_true rfl, Nat.le_of_ble_eq_true rfl⟩) (kb_preV hN hK hP hD (va_recv hK hP (ci := 6) (q0 := 3) rfl rfl)) rfl rfl hl.1 rfl (lv_room (Nat.le_of_ble_eq_true rfl)) dD_takeRepairs_49 ⟨Nat.zero_le _, Nat.zero_le _⟩) hP hD hS hA (fun H locs hP hD hS => ?_)
            refine lv_aload_n hx hb dD_takeRepairs_52 rfl (lv_at hl 0 rfl) ?_
            refine va_get (D := D) (ci := 0) (v := .ref (h 5)) (C := "BoilerDesk") (T := TD) (N := 13) hx hb hts inD hown hK hP 0 rfl rfl 4 (by decide) (hts _ q_276) (fun _ h9 => h9) rfl dD_takeRepairs_53 ?_
            refine lv_aload_n hx hb dD_takeRepairs_56 rfl (lv_at hl 0 rfl) ?_
            refine va_get (D := D) (ci := 0) (v := .ref (h 5)) (C := "BoilerDesk") (T := TD) (N := 13) hx hb hts inD hown hK hP 0 rfl rfl 4 (by decide) (hts _ q_276) (fun _ h9 => h9) rfl dD_takeRepairs_57 ?_
            refine va_get (D := D) (ci := 4) (v := .int (F_U_repair w (nI i) 36)) (C := "BoilerDesk$Report") (T := TR) (N := 7) hx hb hts inR hown hK hP 5 rfl rfl 5 (by decide) (hts _ q_207) (fun _ h9 => h9) rfl dD_takeRepairs_60 ?_
            refine lv_iload_n hx hb dD_takeRepairs_63 rfl (lv_at hl 1 rfl) ?_
            refine lv_iconst (v := 1) hx hb dD_takeRepairs_64 (by decide) ?_
            refine kb_call0 (r := (F_D_withBit (F_U_repair w (nI i) 36) (nI i) (1 : Int32))) (va_runS (As := [.int (F_U_repair w (nI i) 36), .int (nI i), .int 1]) (rest := [.ref (h 5)]) ⟨hx, hb, hml, hown, hts⟩ (c_D_withBit l D _ (F_U_repair w (nI i) 36) (nI i) (1 : Int32) (by decide)) (va_cwS 3 hts (gd_S q_414 q_415 q_33 q_416) rfl rfl rfl (by decide +kernel) ⟨Nat.le_of_ble_eq_true rfl, Nat.le_of_ble_eq_true rfl⟩) (kb_pre0 hN hK) rfl rfl hl.1 rfl (lv_room (Nat.le_of_ble_eq_true rfl)) dD_takeRepairs_65 ⟨Nat.zero_le _, Nat.zero_le _⟩) hP hS hA (fun H locs hP hS => ?_)
            refine kb_put (D := D) (wf := cw h) (w' := (up (F_U_repair w (nI i)) 36 (F_D_withBit (F_U_repair w (nI i) 36) (nI i) (1 : Int32)))) (ci := 4) (v := .int (F_D_withBit (F_U_repair w (nI i) 36) (nI i) (1 : Int32))) (ty := .int) (C := "BoilerDesk$Report") (T := TR) (N := 7) hx hb hts inR tyR tyR_ok nmR hown hK hP hD hS 5 rfl rfl 5 (by decide) (hts _ q_207) (fun _ h9 => h9) rfl (by decide +kernel) rfl rfl (Nat.le_of_ble_eq_true rfl) dD_takeRepairs_68 rfl (fun H locs hP hD hS => ?_)
            refine lv_goto (tgt := 78) hx hb dD_takeRepairs_71 (by decide) ?_
            refine lv_iinc (v := (nI (i + 1))) (lv' := [(1, .int (nI (i + 1))), (0, .ref (h 0))]) hx hb dD_takeRepairs_78 hl (k := 1) rfl (nI_1 i) (by decide) rfl (fun ls hl => ?_)
            refine lv_goto (tgt := 2) hx hb dD_takeRepairs_81 (by decide) ?_
            exact ih (i + 1) (up (F_U_repair w (nI i)) 36 (F_D_withBit (F_U_repair w (nI i) 36) (nI i) (1 : Int32))) _ _ _ (by omega) e hP hD hS (lv_sub hl [1, 0] rfl)
        · have e := e.trans (if_pos c_2)
          refine lv_goto (tgt := 78) hx hb dD_takeRepairs_30 (by decide) ?_
          refine lv_iinc (v := (nI (i + 1))) (lv' := [(1, .int (nI (i + 1))), (0, .ref (h 0))]) hx hb dD_takeRepairs_78 hl (k := 1) rfl (nI_1 i) (by decide) rfl (fun ls hl => ?_)
          refine lv_goto (tgt := 2) hx hb dD_takeRepairs_81 (by decide) ?_
          exact ih (i + 1) w _ _ _ (by omega) e hP hD hS (lv_sub hl [1, 0] rfl)
  have e : F_D_takeRepairs w0 = F_D_takeRepairs w0 := rfl
  refine lv_iconst (v := 0) hx hb dD_takeRepairs_0 (by decide) ?_
  refine lv_istore_n (lv' := [(1, .int 0), (0, .ref (h 0))]) hx hb dD_takeRepairs_1 rfl hl (by decide) rfl (fun ls hl => ?_)
  exact k_2 10 0 w0 _ _ _ (by omega) e hP hD hS (lv_sub hl [1, 0] rfl)
/-- BoilerDesk.takeAcknowledgements()V -/
def K_D_takeAcknowledgements_2  : Nat → Nat → (Nat → Int32) → (Nat → Int32)
  | 0, _, w => w
  | n + 1, i, w => (if (w 0) = (4 : Int32) then w else (if (F_D_hasBit (w 24) (nI i)) = (0 : Int32) then K_D_takeAcknowledgements_2 n (i + 1) w else (if (F_U_awaitsAcknowledgement w (nI i)) = (0 : Int32) then K_D_takeAcknowledgements_2 n (i + 1) (F_D_stopUnlessInitial w) else K_D_takeAcknowledgements_2 n (i + 1) (F_U_acknowledge w (nI i)))))
def F_D_takeAcknowledgements (w0 : Nat → Int32)  : Nat → Int32 := K_D_takeAcknowledgements_2 10 0 w0
set_option maxHeartbeats 4000000 in
set_option maxRecDepth 100000 in
theorem c_D_takeAcknowledgements (l : Launch) (D : va_G) (h : Nat → Nat) (sz : Nat) (w0 : Nat → Int32)   : Met l yD_takeAcknowledgements [.code yD_takeAcknowledgements cD_takeAcknowledgements 2 none] ({ frames := 2, cells := 0, slots := 0, locals := 43 }) (va_Pc [.ref (h 0)] (kb_B D [] (cw h) w0 sz)) (va_Qv (fun u' => u' = F_D_takeAcknowledgements w0) (kb_E D [] (cw h) (va_A (cw h w0) sz)) (va_A (cw h w0) sz)) 0 0 (va_A (cw h w0) sz) := by
  refine kb_of (cc := cD_takeAcknowledgements) (maxL := 2) (ret := none) (QcA := fun A => (va_Qv (fun u' => u' = F_D_takeAcknowledgements w0) (kb_E D [] (cw h) A) A)) (by decide) (Nat.le_of_ble_eq_true rfl) ?_
  intro p e s m below meth c A hx hb hr hlocks hml hown hts hA hN hK hP hD ls hl
  have hS : va_S A s.heap s.heap [] := va_S.rf
  have hl : lv_has ls 2 [(0, .ref (h 0))] := hl
  have k_2 : ∀ (n i : Nat) (w : Nat → Int32) (H : Heap) (locs : List Loc) (ls : Array Slot), i + n = 10 → F_D_takeAcknowledgements w0 = K_D_takeAcknowledgements_2 n i w → va_P D vwCl (cw h w) H → va_D A (cw h w) → va_S A s.heap H locs → lv_has ls 2 [(0, .ref (h 0)), (1, .int (nI i))] → W p l e ({ frames := 2, cells := 0, slots := 0, locals := 43 }) s m [.ref (h 0)].toArray below meth c H locs 0 0 (MQ below (va_Qv (fun u' => u' = F_D_takeAcknowledgements w0) (kb_E D [] (cw h) A) A) [.ref (h 0)].toArray s 0 0 A) (F0 m 2 ls []) := by
    intro n
    induction n with
    | zero =>
      intro i w H locs ls hin e hP hD hS hl
      obtain rfl : i = 10 := by omega
      refine lv_iload_n hx hb dD_takeAcknowledgements_2 rfl (lv_at hl 1 rfl) ?_
      refine lv_bipush (v := 10) hx hb dD_takeAcknowledgements_3 (by decide) ?_
      refine lv_icmp_ge (tgt := 65) hx hb dD_takeAcknowledgements_5 (by decide) (fun _ => ?_) (fun c9 => absurd (by decide) c9)
      exact kb_vret (wf := cw h) hx hb hr hlocks hK hP hD hS e.symm dD_takeAcknowledgements_65
    | succ n ih =>
      intro i w H locs ls hin e hP hD hS hl
      refine lv_iload_n hx hb dD_takeAcknowledgements_2 rfl (lv_at hl 1 rfl) ?_
      refine lv_bipush (v := 10) hx hb dD_takeAcknowledgements_3 (by decide) ?_
      refine lv_icmp_ge (tgt := 65) hx hb dD_takeAcknowledgements_5 (by decide) (fun c9 => absurd c9 (nI_ge (b := 10) (by omega) (by decide))) (fun _ => ?_)
      refine lv_aload_n hx hb dD_takeAcknowledgements_8 rfl (lv_at hl 0 rfl) ?_
      refine va_get (D := D) (ci := 0) (v := .int (w 0)) (C := "BoilerDesk") (T := TD) (N := 13) hx hb hts inD hown hK hP 0 rfl rfl 9 (by decide) (hts _ q_281) (fun _ h9 => h9) rfl dD_takeAcknowledgements_9 ?_
      refine lv_iconst (v := 4) hx hb dD_takeAcknowledgements_12 (by decide) ?_
      refine lv_icmp_eq (tgt := 65) hx hb dD_takeAcknowledgements_13 (by decide) (fun c_1 => ?_) (fun c_1 => ?_)
      · have e := e.trans (if_pos c_1)
        exact kb_vret (wf := cw h) hx hb hr hlocks hK hP hD hS e.symm dD_takeAcknowledgements_65
      · have e := e.trans (if_neg c_1)
        refine lv_aload_n hx hb dD_takeAcknowledgements_16 rfl (lv_at hl 0 rfl) ?_
        refine va_get (D := D) (ci := 0) (v := .ref (h 2)) (C := "BoilerDesk") (T := TD) (N := 13) hx hb hts inD hown hK hP 0 rfl rfl 1 (by decide) (hts _ q_273) (fun _ h9 => h9) rfl dD_takeAcknowledgements_17 ?_
        refine va_get (D := D) (ci := 1) (v := .int (w 24)) (C := "BoilerDesk$Inbox") (T := TI) (N := 12) hx hb hts inI hown hK hP 2 rfl rfl 11 (by decide) (hts _ q_127) (fun _ h9 => h9) rfl dD_takeAcknowledgements_20 ?_
        refine lv_iload_n hx hb dD_takeAcknowledgements_23 rfl (lv_at hl 1 rfl) ?_
        refine kb_call0 (r := (F_D_hasBit (w 24) (nI i))) (va_runS (As := [.int (w 24), .int (nI i)]) (rest := []) ⟨hx, hb, hml, hown, hts⟩ (c_D_hasBit l D _ (w 24) (nI i)) (va_cwS 2 hts (gd_S q_473 q_474 q_33 q_475) rfl rfl rfl (by decide +kernel) ⟨Nat.le_of_ble_eq_true rfl, Nat.le_of_ble_eq_true rfl⟩) (kb_pre0 hN hK) rfl rfl hl.1 rfl (lv_room (Nat.le_of_ble_eq_true rfl)) dD_takeAcknowledgements_24 ⟨Nat.zero_le _, Nat.zero_le _⟩) hP hS hA (fun H locs hP hS => ?_)
        refine lv_if_ne (tgt := 33) hx hb dD_takeAcknowledgements_27 (by decide) (fun c_2 => ?_) (fun c_2 => ?_)
        · have e := e.trans (if_neg c_2)
          refine lv_aload_n hx hb dD_takeAcknowledgements_33 rfl (lv_at hl 0 rfl) ?_
          refine va_get (D := D) (ci := 0) (v := .ref (h 3)) (C := "BoilerDesk") (T := TD) (N := 13) hx hb hts inD hown hK hP 0 rfl rfl 2 (by decide) (hts _ q_274) (fun _ h9 => h9) rfl dD_takeAcknowledgements_34 ?_
          refine lv_iload_n hx hb dD_takeAcknowledgements_37 rfl (lv_at hl 1 rfl) ?_
          refine kb_calli (wf := cw h) (r := (F_U_awaitsAcknowledgement w (nI i))) (u := w) (va_runV (As := [.int (nI i)]) (rest := []) ⟨hx, hb, hml, hown, hts⟩ (c_U_awaitsAcknowledgement l D h _ w (nI i)) (cwV 1 hts (gd_V q_494 q_495 q_496 q_36 q_497) rfl rfl rfl (by decide +kernel) ⟨Nat.le_of_ble_eq_true rfl, Nat.le_of_ble_eq_true rfl⟩) (kb_preV hN hK hP hD (va_recv hK hP (ci := 6) (q0 := 3) rfl rfl)) rfl rfl hl.1 rfl (lv_room (Nat.le_of_ble_eq_true rfl)) dD_takeAcknowledgements_38 ⟨Nat.zero_le _, Nat.zero_le _⟩) hP hD hS hA (fun H locs hP hD hS => ?_)
          refine lv_if_eq (tgt := 55) hx hb dD_takeAcknowledgements_41 (by decide) (fun c_3 => ?_) (fun c_3 => ?_)
          · have e := e.trans (if_pos c_3)
            refine lv_aload_n hx hb dD_takeAcknowledgements_55 rfl (lv_at hl 0 rfl) ?_
            refine kb_callv (wf := cw h) (u := F_D_stopUnlessInitial w) (va_runV (As := []) (rest := []) ⟨hx, hb, hml, hown, hts⟩ (c_D_stopUnlessInitial l D h _ w) (cwV 0 hts (gd_V q_486 q_488 q_5 q_33 q_489) rfl rfl rfl (by decide +kernel) ⟨Nat.le_of_ble_eq_true rfl, Nat.le_of_ble_eq_true rfl⟩) (kb_preV hN hK hP hD (va_recv hK hP (ci := 0) (q0 := 0) rfl rfl)) rfl rfl hl.1 rfl (lv_room (Nat.le_of_ble_eq_true rfl)) dD_takeAcknowledgements_56 ⟨Nat.zero_le _, Nat.zero_le _⟩) hP hD hS hA (fun H locs hP hD hS => ?_)
            refine lv_iinc (v := (nI (i + 1))) (lv' := [(1, .int (nI (i + 1))), (0, .ref (h 0))]) hx hb dD_takeAcknowledgements_59 hl (k := 1) rfl (nI_1 i) (by decide) rfl (fun ls hl => ?_)
            refine lv_goto (tgt := 2) hx hb dD_takeAcknowledgements_62 (by decide) ?_
            exact ih (i + 1) (F_D_stopUnlessInitial w) _ _ _ (by omega) e hP hD hS (lv_sub hl [1, 0] rfl)
          · have e := e.trans (if_neg c_3)
            refine lv_aload_n hx hb dD_takeAcknowledgements_44 rfl (lv_at hl 0 rfl) ?_
            refine va_get (D := D) (ci := 0) (v := .ref (h 3)) (C := "BoilerDesk") (T := TD) (N := 13) hx hb hts inD hown hK hP 0 rfl rfl 2 (by decide) (hts _ q_274) (fun _ h9 => h9) rfl dD_takeAcknowledgements_45 ?_
            refine lv_iload_n hx hb dD_takeAcknowledgements_48 rfl (lv_at hl 1 rfl) ?_
            refine kb_callv (wf := cw h) (u := F_U_acknowledge w (nI i)) (va_runV (As := [.int (nI i)]) (rest := []) ⟨hx, hb, hml, hown, hts⟩ (c_U_acknowledge l D h _ w (nI i)) (cwV 1 hts (gd_V q_498 q_499 q_500 q_36 q_501) rfl rfl rfl (by decide +kernel) ⟨Nat.le_of_ble_eq_true rfl, Nat.le_of_ble_eq_true rfl⟩) (kb_preV hN hK hP hD (va_recv hK hP (ci := 6) (q0 := 3) rfl rfl)) rfl rfl hl.1 rfl (lv_room (Nat.le_of_ble_eq_true rfl)) dD_takeAcknowledgements_49 ⟨Nat.zero_le _, Nat.zero_le _⟩) hP hD hS hA (fun H locs hP hD hS => ?_)
            refine lv_goto (tgt := 59) hx hb dD_takeAcknowledgements_52 (by decide) ?_
            refine lv_iinc (v := (nI (i + 1))) (lv' := [(1, .int (nI (i + 1))), (0, .ref (h 0))]) hx hb dD_takeAcknowledgements_59 hl (k := 1) rfl (nI_1 i) (by decide) rfl (fun ls hl => ?_)
            refine lv_goto (tgt := 2) hx hb dD_takeAcknowledgements_62 (by decide) ?_
            exact ih (i + 1) (F_U_acknowledge w (nI i)) _ _ _ (by omega) e hP hD hS (lv_sub hl [1, 0] rfl)
        · have e := e.trans (if_pos c_2)
          refine lv_goto (tgt := 59) hx hb dD_takeAcknowledgements_30 (by decide) ?_
          refine lv_iinc (v := (nI (i + 1))) (lv' := [(1, .int (nI (i + 1))), (0, .ref (h 0))]) hx hb dD_takeAcknowledgements_59 hl (k := 1) rfl (nI_1 i) (by decide) rfl (fun ls hl => ?_)
          refine lv_goto (tgt := 2) hx hb dD_takeAcknowledgements_62 (by decide) ?_
          exact ih (i + 1) w _ _ _ (by omega) e hP hD hS (lv_sub hl [1, 0] rfl)
  have e : F_D_takeAcknowledgements w0 = F_D_takeAcknowledgements w0 := rfl
  refine lv_iconst (v := 0) hx hb dD_takeAcknowledgements_0 (by decide) ?_
  refine lv_istore_n (lv' := [(1, .int 0), (0, .ref (h 0))]) hx hb dD_takeAcknowledgements_1 rfl hl (by decide) rfl (fun ls hl => ?_)
  exact k_2 10 0 w0 _ _ _ (by omega) e hP hD hS (lv_sub hl [1, 0] rfl)
/-- BoilerDesk.detectFailures()V -/
def K_D_detectFailures_91  : Nat → Nat → (Nat → Int32) → (Nat → Int32)
  | 0, _, w => w
  | n + 1, i, w => (if (F_U_hasFailed w ((2 : Int32) + (nI i))) = (0 : Int32) then (if (F_D_isToldWrongly w (nI i)) = (0 : Int32) then K_D_detectFailures_91 n (i + 1) w else K_D_detectFailures_91 n (i + 1) (F_D_detect w ((6 : Int32) + (nI i)))) else K_D_detectFailures_91 n (i + 1) w)
def K_D_detectFailures_46  : Nat → Nat → (Nat → Int32) → (Nat → Int32)
  | 0, _, w => K_D_detectFailures_91 4 0 w
  | n + 1, i, w => (if (F_D_hasBit (w 18) (nI i)) = (F_D_hasBit (w 27) (nI i)) then K_D_detectFailures_46 n (i + 1) w else K_D_detectFailures_46 n (i + 1) (F_D_detect w ((2 : Int32) + (nI i))))
def K_D_detectFailures_44  (w : Nat → Int32)  : Nat → Int32 := K_D_detectFailures_46 4 0 w
def K_D_detectFailures_22  (w : Nat → Int32)  : Nat → Int32 := (if (F_S_holds_9 w (w 16)) = (0 : Int32) then K_D_detectFailures_44 (F_D_detect w (1 : Int32)) else K_D_detectFailures_44 w)
def F_D_detectFailures (w0 : Nat → Int32)  : Nat → Int32 := (if (F_S_holds_8 w0 (w0 14)) = (0 : Int32) then K_D_detectFailures_22 (F_D_detect w0 (0 : Int32)) else K_D_detectFailures_22 w0)
set_option maxHeartbeats 4000000 in
set_option maxRecDepth 100000 in
theorem c_D_detectFailures (l : Launch) (D : va_G) (h : Nat → Nat) (sz : Nat) (w0 : Nat → Int32)   : Met l yD_detectFailures [.code yD_detectFailures cD_detectFailures 2 none] ({ frames := 3, cells := 0, slots := 0, locals := 64 }) (va_Pc [.ref (h 0)] (kb_B D [] (cw h) w0 sz)) (va_Qv (fun u' => u' = F_D_detectFailures w0) (kb_E D [] (cw h) (va_A (cw h w0) sz)) (va_A (cw h w0) sz)) 0 0 (va_A (cw h w0) sz) := by
  refine kb_of (cc := cD_detectFailures) (maxL := 2) (ret := none) (QcA := fun A => (va_Qv (fun u' => u' = F_D_detectFailures w0) (kb_E D [] (cw h) A) A)) (by decide) (Nat.le_of_ble_eq_true rfl) ?_
  intro p e s m below meth c A hx hb hr hlocks hml hown hts hA hN hK hP hD ls hl
  have hS : va_S A s.heap s.heap [] := va_S.rf
  have hl : lv_has ls 2 [(0, .ref (h 0))] := hl
  have k_91 : ∀ (n i : Nat) (w : Nat → Int32) (H : Heap) (locs : List Loc) (ls : Array Slot), i + n = 4 → F_D_detectFailures w0 = K_D_detectFailures_91 n i w → va_P D vwCl (cw h w) H → va_D A (cw h w) → va_S A s.heap H locs → lv_has ls 2 [(0, .ref (h 0)), (1, .int (nI i))] → W p l e ({ frames := 3, cells := 0, slots := 0, locals := 64 }) s m [.ref (h 0)].toArray below meth c H locs 0 0 (MQ below (va_Qv (fun u' => u' = F_D_detectFailures w0) (kb_E D [] (cw h) A) A) [.ref (h 0)].toArray s 0 0 A) (F0 m 91 ls []) := by
    intro n
    induction n with
    | zero =>
      intro i w H locs ls hin e hP hD hS hl
      obtain rfl : i = 4 := by omega
      refine lv_iload_n hx hb dD_detectFailures_91 rfl (lv_at hl 1 rfl) ?_
      refine lv_iconst (v := 4) hx hb dD_detectFailures_92 (by decide) ?_
      refine lv_icmp_ge (tgt := 131) hx hb dD_detectFailures_93 (by decide) (fun _ => ?_) (fun c9 => absurd (by decide) c9)
      exact kb_vret (wf := cw h) hx hb hr hlocks hK hP hD hS e.symm dD_detectFailures_131
    | succ n ih =>
      intro i w H locs ls hin e hP hD hS hl
      refine lv_iload_n hx hb dD_detectFailures_91 rfl (lv_at hl 1 rfl) ?_
      refine lv_iconst (v := 4) hx hb dD_detectFailures_92 (by decide) ?_
      refine lv_icmp_ge (tgt := 131) hx hb dD_detectFailures_93 (by decide) (fun c9 => absurd c9 (nI_ge (b := 4) (by omega) (by decide))) (fun _ => ?_)
      refine lv_aload_n hx hb dD_detectFailures_96 rfl (lv_at hl 0 rfl) ?_
      refine va_get (D := D) (ci := 0) (v := .ref (h 3)) (C := "BoilerDesk") (T := TD) (N := 13) hx hb hts inD hown hK hP 0 rfl rfl 2 (by decide) (hts _ q_274) (fun _ h9 => h9) rfl dD_detectFailures_97 ?_
      refine lv_iconst (v := 2) hx hb dD_detectFailures_100 (by decide) ?_
      refine lv_iload_n hx hb dD_detectFailures_101 rfl (lv_at hl 1 rfl) ?_
      refine lv_iadd hx hb dD_detectFailures_102 ?_
      refine kb_calli (wf := cw h) (r := (F_U_hasFailed w ((2 : Int32) + (nI i)))) (u := w) (va_runV (As := [.int ((2 : Int32) + (nI i))]) (rest := []) ⟨hx, hb, hml, hown, hts⟩ (c_U_hasFailed l D h _ w ((2 : Int32) + (nI i))) (cwV 1 hts (gd_V q_476 q_477 q_478 q_36 q_479) rfl rfl rfl (by decide +kernel) ⟨Nat.le_of_ble_eq_true rfl, Nat.le_of_ble_eq_true rfl⟩) (kb_preV hN hK hP hD (va_recv hK hP (ci := 6) (q0 := 3) rfl rfl)) rfl rfl hl.1 rfl (lv_room (Nat.le_of_ble_eq_true rfl)) dD_detectFailures_103 ⟨Nat.zero_le _, Nat.zero_le _⟩) hP hD hS hA (fun H locs hP hD hS => ?_)
      refine lv_if_ne (tgt := 125) hx hb dD_detectFailures_106 (by decide) (fun c_1 => ?_) (fun c_1 => ?_)
      · have e := e.trans (if_neg c_1)
        refine lv_iinc (v := (nI (i + 1))) (lv' := [(1, .int (nI (i + 1))), (0, .ref (h 0))]) hx hb dD_detectFailures_125 hl (k := 1) rfl (nI_1 i) (by decide) rfl (fun ls hl => ?_)
        refine lv_goto (tgt := 91) hx hb dD_detectFailures_128 (by decide) ?_
        exact ih (i + 1) w _ _ _ (by omega) e hP hD hS (lv_sub hl [1, 0] rfl)
      · have e := e.trans (if_pos c_1)
        refine lv_aload_n hx hb dD_detectFailures_109 rfl (lv_at hl 0 rfl) ?_
        refine lv_iload_n hx hb dD_detectFailures_110 rfl (lv_at hl 1 rfl) ?_
        refine kb_calli (wf := cw h) (r := (F_D_isToldWrongly w (nI i))) (u := w) (va_runV (As := [.int (nI i)]) (rest := []) ⟨hx, hb, hml, hown, hts⟩ (c_D_isToldWrongly l D h _ w (nI i)) (cwV 1 hts (gd_V q_556 q_558 q_10 q_33 q_559) rfl rfl rfl (by decide +kernel) ⟨Nat.le_of_ble_eq_true rfl, Nat.le_of_ble_eq_true rfl⟩) (kb_preV hN hK hP hD (va_recv hK hP (ci := 0) (q0 := 0) rfl rfl)) rfl rfl hl.1 rfl (lv_room (Nat.le_of_ble_eq_true rfl)) dD_detectFailures_111 ⟨Nat.zero_le _, Nat.zero_le _⟩) hP hD hS hA (fun H locs hP hD hS => ?_)
        refine lv_if_eq (tgt := 125) hx hb dD_detectFailures_114 (by decide) (fun c_2 => ?_) (fun c_2 => ?_)
        · have e := e.trans (if_pos c_2)
          refine lv_iinc (v := (nI (i + 1))) (lv' := [(1, .int (nI (i + 1))), (0, .ref (h 0))]) hx hb dD_detectFailures_125 hl (k := 1) rfl (nI_1 i) (by decide) rfl (fun ls hl => ?_)
          refine lv_goto (tgt := 91) hx hb dD_detectFailures_128 (by decide) ?_
          exact ih (i + 1) w _ _ _ (by omega) e hP hD hS (lv_sub hl [1, 0] rfl)
        · have e := e.trans (if_neg c_2)
          refine lv_aload_n hx hb dD_detectFailures_117 rfl (lv_at hl 0 rfl) ?_
          refine lv_bipush (v := 6) hx hb dD_detectFailures_118 (by decide) ?_
          refine lv_iload_n hx hb dD_detectFailures_120 rfl (lv_at hl 1 rfl) ?_
          refine lv_iadd hx hb dD_detectFailures_121 ?_
          refine kb_callv (wf := cw h) (u := F_D_detect w ((6 : Int32) + (nI i))) (va_runV (As := [.int ((6 : Int32) + (nI i))]) (rest := []) ⟨hx, hb, hml, hown, hts⟩ (c_D_detect l D h _ w ((6 : Int32) + (nI i))) (cwV 1 hts (gd_V q_548 q_550 q_9 q_33 q_551) rfl rfl rfl (by decide +kernel) ⟨Nat.le_of_ble_eq_true rfl, Nat.le_of_ble_eq_true rfl⟩) (kb_preV hN hK hP hD (va_recv hK hP (ci := 0) (q0 := 0) rfl rfl)) rfl rfl hl.1 rfl (lv_room (Nat.le_of_ble_eq_true rfl)) dD_detectFailures_122 ⟨Nat.zero_le _, Nat.zero_le _⟩) hP hD hS hA (fun H locs hP hD hS => ?_)
          refine lv_iinc (v := (nI (i + 1))) (lv' := [(1, .int (nI (i + 1))), (0, .ref (h 0))]) hx hb dD_detectFailures_125 hl (k := 1) rfl (nI_1 i) (by decide) rfl (fun ls hl => ?_)
          refine lv_goto (tgt := 91) hx hb dD_detectFailures_128 (by decide) ?_
          exact ih (i + 1) (F_D_detect w ((6 : Int32) + (nI i))) _ _ _ (by omega) e hP hD hS (lv_sub hl [1, 0] rfl)
  have k_46 : ∀ (n i : Nat) (w : Nat → Int32) (H : Heap) (locs : List Loc) (ls : Array Slot), i + n = 4 → F_D_detectFailures w0 = K_D_detectFailures_46 n i w → va_P D vwCl (cw h w) H → va_D A (cw h w) → va_S A s.heap H locs → lv_has ls 2 [(0, .ref (h 0)), (1, .int (nI i))] → W p l e ({ frames := 3, cells := 0, slots := 0, locals := 64 }) s m [.ref (h 0)].toArray below meth c H locs 0 0 (MQ below (va_Qv (fun u' => u' = F_D_detectFailures w0) (kb_E D [] (cw h) A) A) [.ref (h 0)].toArray s 0 0 A) (F0 m 46 ls []) := by
    intro n
    induction n with
    | zero =>
      intro i w H locs ls hin e hP hD hS hl
      obtain rfl : i = 4 := by omega
      refine lv_iload_n hx hb dD_detectFailures_46 rfl (lv_at hl 1 rfl) ?_
      refine lv_iconst (v := 4) hx hb dD_detectFailures_47 (by decide) ?_
      refine lv_icmp_ge (tgt := 89) hx hb dD_detectFailures_48 (by decide) (fun _ => ?_) (fun c9 => absurd (by decide) c9)
      refine lv_iconst (v := 0) hx hb dD_detectFailures_89 (by decide) ?_
      refine lv_istore_n (lv' := [(1, .int 0), (0, .ref (h 0))]) hx hb dD_detectFailures_90 rfl hl (by decide) rfl (fun ls hl => ?_)
      exact k_91 4 0 w _ _ _ (by omega) e hP hD hS (lv_sub hl [1, 0] rfl)
    | succ n ih =>
      intro i w H locs ls hin e hP hD hS hl
      refine lv_iload_n hx hb dD_detectFailures_46 rfl (lv_at hl 1 rfl) ?_
      refine lv_iconst (v := 4) hx hb dD_detectFailures_47 (by decide) ?_
      refine lv_icmp_ge (tgt := 89) hx hb dD_detectFailures_48 (by decide) (fun c9 => absurd c9 (nI_ge (b := 4) (by omega) (by decide))) (fun _ => ?_)
      refine lv_aload_n hx hb dD_detectFailures_51 rfl (lv_at hl 0 rfl) ?_
      refine va_get (D := D) (ci := 0) (v := .ref (h 2)) (C := "BoilerDesk") (T := TD) (N := 13) hx hb hts inD hown hK hP 0 rfl rfl 1 (by decide) (hts _ q_273) (fun _ h9 => h9) rfl dD_detectFailures_52 ?_
      refine va_get (D := D) (ci := 1) (v := .int (w 18)) (C := "BoilerDesk$Inbox") (T := TI) (N := 12) hx hb hts inI hown hK hP 2 rfl rfl 5 (by decide) (hts _ q_115) (fun _ h9 => h9) rfl dD_detectFailures_55 ?_
      refine lv_iload_n hx hb dD_detectFailures_58 rfl (lv_at hl 1 rfl) ?_
      refine kb_call0 (r := (F_D_hasBit (w 18) (nI i))) (va_runS (As := [.int (w 18), .int (nI i)]) (rest := []) ⟨hx, hb, hml, hown, hts⟩ (c_D_hasBit l D _ (w 18) (nI i)) (va_cwS 2 hts (gd_S q_473 q_474 q_33 q_475) rfl rfl rfl (by decide +kernel) ⟨Nat.le_of_ble_eq_true rfl, Nat.le_of_ble_eq_true rfl⟩) (kb_pre0 hN hK) rfl rfl hl.1 rfl (lv_room (Nat.le_of_ble_eq_true rfl)) dD_detectFailures_59 ⟨Nat.zero_le _, Nat.zero_le _⟩) hP hS hA (fun H locs hP hS => ?_)
      refine lv_aload_n hx hb dD_detectFailures_62 rfl (lv_at hl 0 rfl) ?_
      refine va_get (D := D) (ci := 0) (v := .ref (h 4)) (C := "BoilerDesk") (T := TD) (N := 13) hx hb hts inD hown hK hP 0 rfl rfl 3 (by decide) (hts _ q_275) (fun _ h9 => h9) rfl dD_detectFailures_63 ?_
      refine va_get (D := D) (ci := 2) (v := .int (w 27)) (C := "BoilerDesk$Machines") (T := TM) (N := 4) hx hb hts inM hown hK hP 4 rfl rfl 0 (by decide) (hts _ q_175) (fun _ h9 => h9) rfl dD_detectFailures_66 ?_
      refine lv_iload_n hx hb dD_detectFailures_69 rfl (lv_at hl 1 rfl) ?_
      refine kb_call0 (r := (F_D_hasBit (w 27) (nI i))) (va_runS (As := [.int (w 27), .int (nI i)]) (rest := [.int (F_D_hasBit (w 18) (nI i))]) ⟨hx, hb, hml, hown, hts⟩ (c_D_hasBit l D _ (w 27) (nI i)) (va_cwS 2 hts (gd_S q_473 q_474 q_33 q_475) rfl rfl rfl (by decide +kernel) ⟨Nat.le_of_ble_eq_true rfl, Nat.le_of_ble_eq_true rfl⟩) (kb_pre0 hN hK) rfl rfl hl.1 rfl (lv_room (Nat.le_of_ble_eq_true rfl)) dD_detectFailures_70 ⟨Nat.zero_le _, Nat.zero_le _⟩) hP hS hA (fun H locs hP hS => ?_)
      refine lv_icmp_eq (tgt := 83) hx hb dD_detectFailures_73 (by decide) (fun c_3 => ?_) (fun c_3 => ?_)
      · have e := e.trans (if_pos c_3)
        refine lv_iinc (v := (nI (i + 1))) (lv' := [(1, .int (nI (i + 1))), (0, .ref (h 0))]) hx hb dD_detectFailures_83 hl (k := 1) rfl (nI_1 i) (by decide) rfl (fun ls hl => ?_)
        refine lv_goto (tgt := 46) hx hb dD_detectFailures_86 (by decide) ?_
        exact ih (i + 1) w _ _ _ (by omega) e hP hD hS (lv_sub hl [1, 0] rfl)
      · have e := e.trans (if_neg c_3)
        refine lv_aload_n hx hb dD_detectFailures_76 rfl (lv_at hl 0 rfl) ?_
        refine lv_iconst (v := 2) hx hb dD_detectFailures_77 (by decide) ?_
        refine lv_iload_n hx hb dD_detectFailures_78 rfl (lv_at hl 1 rfl) ?_
        refine lv_iadd hx hb dD_detectFailures_79 ?_
        refine kb_callv (wf := cw h) (u := F_D_detect w ((2 : Int32) + (nI i))) (va_runV (As := [.int ((2 : Int32) + (nI i))]) (rest := []) ⟨hx, hb, hml, hown, hts⟩ (c_D_detect l D h _ w ((2 : Int32) + (nI i))) (cwV 1 hts (gd_V q_548 q_550 q_9 q_33 q_551) rfl rfl rfl (by decide +kernel) ⟨Nat.le_of_ble_eq_true rfl, Nat.le_of_ble_eq_true rfl⟩) (kb_preV hN hK hP hD (va_recv hK hP (ci := 0) (q0 := 0) rfl rfl)) rfl rfl hl.1 rfl (lv_room (Nat.le_of_ble_eq_true rfl)) dD_detectFailures_80 ⟨Nat.zero_le _, Nat.zero_le _⟩) hP hD hS hA (fun H locs hP hD hS => ?_)
        refine lv_iinc (v := (nI (i + 1))) (lv' := [(1, .int (nI (i + 1))), (0, .ref (h 0))]) hx hb dD_detectFailures_83 hl (k := 1) rfl (nI_1 i) (by decide) rfl (fun ls hl => ?_)
        refine lv_goto (tgt := 46) hx hb dD_detectFailures_86 (by decide) ?_
        exact ih (i + 1) (F_D_detect w ((2 : Int32) + (nI i))) _ _ _ (by omega) e hP hD hS (lv_sub hl [1, 0] rfl)
  have k_44 : ∀ (w : Nat → Int32) (H : Heap) (locs : List Loc) (ls : Array Slot), F_D_detectFailures w0 = K_D_detectFailures_44 w → va_P D vwCl (cw h w) H → va_D A (cw h w) → va_S A s.heap H locs → lv_has ls 2 [(0, .ref (h 0))] → W p l e ({ frames := 3, cells := 0, slots := 0, locals := 64 }) s m [.ref (h 0)].toArray below meth c H locs 0 0 (MQ below (va_Qv (fun u' => u' = F_D_detectFailures w0) (kb_E D [] (cw h) A) A) [.ref (h 0)].toArray s 0 0 A) (F0 m 44 ls []) := by
      intro w H locs ls e hP hD hS hl
      refine lv_iconst (v := 0) hx hb dD_detectFailures_44 (by decide) ?_
      refine lv_istore_n (lv' := [(1, .int 0), (0, .ref (h 0))]) hx hb dD_detectFailures_45 rfl hl (by decide) rfl (fun ls hl => ?_)
      exact k_46 4 0 w _ _ _ (by omega) e hP hD hS (lv_sub hl [1, 0] rfl)
  have k_22 : ∀ (w : Nat → Int32) (H : Heap) (locs : List Loc) (ls : Array Slot), F_D_detectFailures w0 = K_D_detectFailures_22 w → va_P D vwCl (cw h w) H → va_D A (cw h w) → va_S A s.heap H locs → lv_has ls 2 [(0, .ref (h 0))] → W p l e ({ frames := 3, cells := 0, slots := 0, locals := 64 }) s m [.ref (h 0)].toArray below meth c H locs 0 0 (MQ below (va_Qv (fun u' => u' = F_D_detectFailures w0) (kb_E D [] (cw h) A) A) [.ref (h 0)].toArray s 0 0 A) (F0 m 22 ls []) := by
      intro w H locs ls e hP hD hS hl
      refine lv_aload_n hx hb dD_detectFailures_22 rfl (lv_at hl 0 rfl) ?_
      refine va_get (D := D) (ci := 0) (v := .ref (h 9)) (C := "BoilerDesk") (T := TD) (N := 13) hx hb hts inD hown hK hP 0 rfl rfl 8 (by decide) (hts _ q_280) (fun _ h9 => h9) rfl dD_detectFailures_23 ?_
      refine lv_aload_n hx hb dD_detectFailures_26 rfl (lv_at hl 0 rfl) ?_
      refine va_get (D := D) (ci := 0) (v := .ref (h 2)) (C := "BoilerDesk") (T := TD) (N := 13) hx hb hts inD hown hK hP 0 rfl rfl 1 (by decide) (hts _ q_273) (fun _ h9 => h9) rfl dD_detectFailures_27 ?_
      refine va_get (D := D) (ci := 1) (v := .int (w 16)) (C := "BoilerDesk$Inbox") (T := TI) (N := 12) hx hb hts inI hown hK hP 2 rfl rfl 3 (by decide) (hts _ q_111) (fun _ h9 => h9) rfl dD_detectFailures_30 ?_
      refine kb_calli (wf := cw h) (r := (F_S_holds_9 w (w 16))) (u := w) (va_runV (As := [.int (w 16)]) (rest := []) ⟨hx, hb, hml, hown, hts⟩ (c_S_holds_9 l D h _ w (w 16)) (cwV 1 hts (gd_V q_543 q_544 q_545 q_39 q_546) rfl rfl rfl (by decide +kernel) ⟨Nat.le_of_ble_eq_true rfl, Nat.le_of_ble_eq_true rfl⟩) (kb_preV hN hK hP hD (va_recv hK hP (ci := 5) (q0 := 9) rfl rfl)) rfl rfl hl.1 rfl (lv_room (Nat.le_of_ble_eq_true rfl)) dD_detectFailures_33 ⟨Nat.zero_le _, Nat.zero_le _⟩) hP hD hS hA (fun H locs hP hD hS => ?_)
      refine lv_if_ne (tgt := 44) hx hb dD_detectFailures_36 (by decide) (fun c_4 => ?_) (fun c_4 => ?_)
      · have e := e.trans (if_neg c_4)
        exact k_44 w _ _ _ e hP hD hS (lv_sub hl [0] rfl)
      · have e := e.trans (if_pos c_4)
        refine lv_aload_n hx hb dD_detectFailures_39 rfl (lv_at hl 0 rfl) ?_
        refine lv_iconst (v := 1) hx hb dD_detectFailures_40 (by decide) ?_
        refine kb_callv (wf := cw h) (u := F_D_detect w (1 : Int32)) (va_runV (As := [.int 1]) (rest := []) ⟨hx, hb, hml, hown, hts⟩ (c_D_detect l D h _ w (1 : Int32)) (cwV 1 hts (gd_V q_548 q_550 q_9 q_33 q_551) rfl rfl rfl (by decide +kernel) ⟨Nat.le_of_ble_eq_true rfl, Nat.le_of_ble_eq_true rfl⟩) (kb_preV hN hK hP hD (va_recv hK hP (ci := 0) (q0 := 0) rfl rfl)) rfl rfl hl.1 rfl (lv_room (Nat.le_of_ble_eq_true rfl)) dD_detectFailures_41 ⟨Nat.zero_le _, Nat.zero_le _⟩) hP hD hS hA (fun H locs hP hD hS => ?_)
        exact k_44 (F_D_detect w (1 : Int32)) _ _ _ e hP hD hS (lv_sub hl [0] rfl)
  have e : F_D_detectFailures w0 = F_D_detectFailures w0 := rfl
  refine lv_aload_n hx hb dD_detectFailures_0 rfl (lv_at hl 0 rfl) ?_
  refine va_get (D := D) (ci := 0) (v := .ref (h 8)) (C := "BoilerDesk") (T := TD) (N := 13) hx hb hts inD hown hK hP 0 rfl rfl 7 (by decide) (hts _ q_279) (fun _ h9 => h9) rfl dD_detectFailures_1 ?_
  refine lv_aload_n hx hb dD_detectFailures_4 rfl (lv_at hl 0 rfl) ?_
  refine va_get (D := D) (ci := 0) (v := .ref (h 2)) (C := "BoilerDesk") (T := TD) (N := 13) hx hb hts inD hown hK hP 0 rfl rfl 1 (by decide) (hts _ q_273) (fun _ h9 => h9) rfl dD_detectFailures_5 ?_
  refine va_get (D := D) (ci := 1) (v := .int (w0 14)) (C := "BoilerDesk$Inbox") (T := TI) (N := 12) hx hb hts inI hown hK hP 2 rfl rfl 1 (by decide) (hts _ q_107) (fun _ h9 => h9) rfl dD_detectFailures_8 ?_
  refine kb_calli (wf := cw h) (r := (F_S_holds_8 w0 (w0 14))) (u := w0) (va_runV (As := [.int (w0 14)]) (rest := []) ⟨hx, hb, hml, hown, hts⟩ (c_S_holds_8 l D h _ w0 (w0 14)) (cwV 1 hts (gd_V q_543 q_544 q_545 q_39 q_546) rfl rfl rfl (by decide +kernel) ⟨Nat.le_of_ble_eq_true rfl, Nat.le_of_ble_eq_true rfl⟩) (kb_preV hN hK hP hD (va_recv hK hP (ci := 5) (q0 := 8) rfl rfl)) rfl rfl hl.1 rfl (lv_room (Nat.le_of_ble_eq_true rfl)) dD_detectFailures_11 ⟨Nat.zero_le _, Nat.zero_le _⟩) hP hD hS hA (fun H locs hP hD hS => ?_)
  refine lv_if_ne (tgt := 22) hx hb dD_detectFailures_14 (by decide) (fun c_5 => ?_) (fun c_5 => ?_)
  · have e := e.trans (if_neg c_5)
    exact k_22 w0 _ _ _ e hP hD hS (lv_sub hl [0] rfl)
  · have e := e.trans (if_pos c_5)
    refine lv_aload_n hx hb dD_detectFailures_17 rfl (lv_at hl 0 rfl) ?_
    refine lv_iconst (v := 0) hx hb dD_detectFailures_18 (by decide) ?_
    refine kb_callv (wf := cw h) (u := F_D_detect w0 (0 : Int32)) (va_runV (As := [.int 0]) (rest := []) ⟨hx, hb, hml, hown, hts⟩ (c_D_detect l D h _ w0 (0 : Int32)) (cwV 1 hts (gd_V q_548 q_550 q_9 q_33 q_551) rfl rfl rfl (by decide +kernel) ⟨Nat.le_of_ble_eq_true rfl, Nat.le_of_ble_eq_true rfl⟩) (kb_preV hN hK hP hD (va_recv hK hP (ci := 0) (q0 := 0) rfl rfl)) rfl rfl hl.1 rfl (lv_room (Nat.le_of_ble_eq_true rfl)) dD_detectFailures_19 ⟨Nat.zero_le _, Nat.zero_le _⟩) hP hD hS hA (fun H locs hP hD hS => ?_)
    exact k_22 (F_D_detect w0 (0 : Int32)) _ _ _ e hP hD hS (lv_sub hl [0] rfl)
/-- BoilerDesk.runSteps()V -/
def K_D_runSteps_102  (w : Nat → Int32) (x1 : Int32) : Nat → Int32 := (if (w 0) = (4 : Int32) then w else (F_D_giveCommands (F_M_remember w (w 19))))
def K_D_runSteps_59  (w : Nat → Int32) (x1 : Int32) : Nat → Int32 := (if (w 0) = (4 : Int32) then K_D_runSteps_102 w x1 else (if (F_D_estimate (F_D_detectFailures (F_D_expectReadings w x1)) 0) = (0 : Int32) then K_D_runSteps_102 (up (F_D_estimate (F_D_detectFailures (F_D_expectReadings w x1))) 0 (F_D_modeBehindInitial (F_D_estimate (F_D_detectFailures (F_D_expectReadings w x1))))) x1 else K_D_runSteps_102 (up (F_D_estimate (F_D_detectFailures (F_D_expectReadings w x1))) 0 (F_D_modeInOperation (F_D_estimate (F_D_detectFailures (F_D_expectReadings w x1))))) x1))
def K_D_runSteps_47  (w : Nat → Int32) (x1 : Int32) : Nat → Int32 := (if (w 0) = (4 : Int32) then K_D_runSteps_59 w x1 else K_D_runSteps_59 (F_D_takeAcknowledgements w) x1)
def K_D_runSteps_35  (w : Nat → Int32) (x1 : Int32) : Nat → Int32 := (if (w 0) = (4 : Int32) then K_D_runSteps_47 w x1 else K_D_runSteps_47 (F_D_takeRepairs w) x1)
def K_D_runSteps_30  (w : Nat → Int32) (x1 : Int32) : Nat → Int32 := K_D_runSteps_35 (up w 0 4) x1
def F_D_runSteps (w0 : Nat → Int32)  : Nat → Int32 := (if (3 : Int32) ≤ (F_D_noteWords w0 2) then K_D_runSteps_30 (F_D_noteWords w0) (w0 25) else (if (F_I_hasAllReadings (F_D_noteWords w0)) = (0 : Int32) then K_D_runSteps_30 (F_D_noteWords w0) (w0 25) else K_D_runSteps_35 (F_D_noteWords w0) (w0 25)))
set_option maxHeartbeats 4000000 in
set_option maxRecDepth 100000 in
theorem c_D_runSteps (l : Launch) (D : va_G) (h : Nat → Nat) (sz : Nat) (w0 : Nat → Int32)   : Met l yD_runSteps [.code yD_runSteps cD_runSteps 2 none] ({ frames := 4, cells := 0, slots := 0, locals := 85 }) (va_Pc [.ref (h 0)] (kb_B D [] (cw h) w0 sz)) (va_Qv (fun u' => u' = F_D_runSteps w0) (kb_E D [] (cw h) (va_A (cw h w0) sz)) (va_A (cw h w0) sz)) 0 0 (va_A (cw h w0) sz) := by
  refine kb_of (cc := cD_runSteps) (maxL := 2) (ret := none) (QcA := fun A => (va_Qv (fun u' => u' = F_D_runSteps w0) (kb_E D [] (cw h) A) A)) (by decide) (Nat.le_of_ble_eq_true rfl) ?_
  intro p e s m below meth c A hx hb hr hlocks hml hown hts hA hN hK hP hD ls hl
  have hS : va_S A s.heap s.heap [] := va_S.rf
  have hl : lv_has ls 2 [(0, .ref (h 0))] := hl
  have k_102 : ∀ (w : Nat → Int32) (x1 : Int32) (H : Heap) (locs : List Loc) (ls : Array Slot), F_D_runSteps w0 = K_D_runSteps_102 w x1 → va_P D vwCl (cw h w) H → va_D A (cw h w) → va_S A s.heap H locs → lv_has ls 2 [(0, .ref (h 0)), (1, .int x1)] → W p l e ({ frames := 4, cells := 0, slots := 0, locals := 85 }) s m [.ref (h 0)].toArray below meth c H locs 0 0 (MQ below (va_Qv (fun u' => u' = F_D_runSteps w0) (kb_E D [] (cw h) A) A) [.ref (h 0)].toArray s 0 0 A) (F0 m 102 ls []) := by
      intro w x1 H locs ls e hP hD hS hl
      refine lv_aload_n hx hb dD_runSteps_102 rfl (lv_at hl 0 rfl) ?_
      refine va_get (D := D) (ci := 0) (v := .int (w 0)) (C := "BoilerDesk") (T := TD) (N := 13) hx hb hts inD hown hK hP 0 rfl rfl 9 (by decide) (hts _ q_281) (fun _ h9 => h9) rfl dD_runSteps_103 ?_
      refine lv_iconst (v := 4) hx hb dD_runSteps_106 (by decide) ?_
      refine lv_icmp_eq (tgt := 128) hx hb dD_runSteps_107 (by decide) (fun c_1 => ?_) (fun c_1 => ?_)
      · have e := e.trans (if_pos c_1)
        exact kb_vret (wf := cw h) hx hb hr hlocks hK hP hD hS e.symm dD_runSteps_128
      · have e := e.trans (if_neg c_1)
        refine lv_aload_n hx hb dD_runSteps_110 rfl (lv_at hl 0 rfl) ?_
        refine va_get (D := D) (ci := 0) (v := .ref (h 4)) (C := "BoilerDesk") (T := TD) (N := 13) hx hb hts inD hown hK hP 0 rfl rfl 3 (by decide) (hts _ q_275) (fun _ h9 => h9) rfl dD_runSteps_111 ?_
        refine lv_aload_n hx hb dD_runSteps_114 rfl (lv_at hl 0 rfl) ?_
        refine va_get (D := D) (ci := 0) (v := .ref (h 2)) (C := "BoilerDesk") (T := TD) (N := 13) hx hb hts inD hown hK hP 0 rfl rfl 1 (by decide) (hts _ q_273) (fun _ h9 => h9) rfl dD_runSteps_115 ?_
        refine va_get (D := D) (ci := 1) (v := .int (w 19)) (C := "BoilerDesk$Inbox") (T := TI) (N := 12) hx hb hts inI hown hK hP 2 rfl rfl 6 (by decide) (hts _ q_117) (fun _ h9 => h9) rfl dD_runSteps_118 ?_
        refine kb_callv (wf := cw h) (u := F_M_remember w (w 19)) (va_runV (As := [.int (w 19)]) (rest := []) ⟨hx, hb, hml, hown, hts⟩ (c_M_remember l D h _ w (w 19)) (cwV 1 hts (gd_V q_581 q_582 q_583 q_37 q_584) rfl rfl rfl (by decide +kernel) ⟨Nat.le_of_ble_eq_true rfl, Nat.le_of_ble_eq_true rfl⟩) (kb_preV hN hK hP hD (va_recv hK hP (ci := 2) (q0 := 4) rfl rfl)) rfl rfl hl.1 rfl (lv_room (Nat.le_of_ble_eq_true rfl)) dD_runSteps_121 ⟨Nat.zero_le _, Nat.zero_le _⟩) hP hD hS hA (fun H locs hP hD hS => ?_)
        refine lv_aload_n hx hb dD_runSteps_124 rfl (lv_at hl 0 rfl) ?_
        refine kb_callv (wf := cw h) (u := F_D_giveCommands (F_M_remember w (w 19))) (va_runV (As := []) (rest := []) ⟨hx, hb, hml, hown, hts⟩ (c_D_giveCommands l D h _ (F_M_remember w (w 19))) (cwV 0 hts (gd_V q_585 q_587 q_15 q_33 q_588) rfl rfl rfl (by decide +kernel) ⟨Nat.le_of_ble_eq_true rfl, Nat.le_of_ble_eq_true rfl⟩) (kb_preV hN hK hP hD (va_recv hK hP (ci := 0) (q0 := 0) rfl rfl)) rfl rfl hl.1 rfl (lv_room (Nat.le_of_ble_eq_true rfl)) dD_runSteps_125 ⟨Nat.zero_le _, Nat.zero_le _⟩) hP hD hS hA (fun H locs hP hD hS => ?_)
        exact kb_vret (wf := cw h) hx hb hr hlocks hK hP hD hS e.symm dD_runSteps_128
  have k_59 : ∀ (w : Nat → Int32) (x1 : Int32) (H : Heap) (locs : List Loc) (ls : Array Slot), F_D_runSteps w0 = K_D_runSteps_59 w x1 → va_P D vwCl (cw h w) H → va_D A (cw h w) → va_S A s.heap H locs → lv_has ls 2 [(0, .ref (h 0)), (1, .int x1)] → W p l e ({ frames := 4, cells := 0, slots := 0, locals := 85 }) s m [.ref (h 0)].toArray below meth c H locs 0 0 (MQ below (va_Qv (fun u' => u' = F_D_runSteps w0) (kb_E D [] (cw h) A) A) [.ref (h 0)].toArray s 0 0 A) (F0 m 59 ls []) := by
      intro w x1 H locs ls e hP hD hS hl
      refine lv_aload_n hx hb dD_runSteps_59 rfl (lv_at hl 0 rfl) ?_
      refine va_get (D := D) (ci := 0) (v := .int (w 0)) (C := "BoilerDesk") (T := TD) (N := 13) hx hb hts inD hown hK hP 0 rfl rfl 9 (by decide) (hts _ q_281) (fun _ h9 => h9) rfl dD_runSteps_60 ?_
      refine lv_iconst (v := 4) hx hb dD_runSteps_63 (by decide) ?_
      refine lv_icmp_eq (tgt := 102) hx hb dD_runSteps_64 (by decide) (fun c_2 => ?_) (fun c_2 => ?_)
      · have e := e.trans (if_pos c_2)
        exact k_102 w x1 _ _ _ e hP hD hS (lv_sub hl [0, 1] rfl)
      · have e := e.trans (if_neg c_2)
        refine lv_aload_n hx hb dD_runSteps_67 rfl (lv_at hl 0 rfl) ?_
        refine lv_iload_n hx hb dD_runSteps_68 rfl (lv_at hl 1 rfl) ?_
        refine kb_callv (wf := cw h) (u := F_D_expectReadings w x1) (va_runV (As := [.int x1]) (rest := []) ⟨hx, hb, hml, hown, hts⟩ (c_D_expectReadings l D h _ w x1) (cwV 1 hts (gd_V q_502 q_504 q_7 q_33 q_505) rfl rfl rfl (by decide +kernel) ⟨Nat.le_of_ble_eq_true rfl, Nat.le_of_ble_eq_true rfl⟩) (kb_preV hN hK hP hD (va_recv hK hP (ci := 0) (q0 := 0) rfl rfl)) rfl rfl hl.1 rfl (lv_room (Nat.le_of_ble_eq_true rfl)) dD_runSteps_69 ⟨Nat.zero_le _, Nat.zero_le _⟩) hP hD hS hA (fun H locs hP hD hS => ?_)
        refine lv_aload_n hx hb dD_runSteps_72 rfl (lv_at hl 0 rfl) ?_
        refine kb_callv (wf := cw h) (u := F_D_detectFailures (F_D_expectReadings w x1)) (va_runV (As := []) (rest := []) ⟨hx, hb, hml, hown, hts⟩ (c_D_detectFailures l D h _ (F_D_expectReadings w x1)) (cwV 0 hts (gd_V q_539 q_541 q_8 q_33 q_542) rfl rfl rfl (by decide +kernel) ⟨Nat.le_of_ble_eq_true rfl, Nat.le_of_ble_eq_true rfl⟩) (kb_preV hN hK hP hD (va_recv hK hP (ci := 0) (q0 := 0) rfl rfl)) rfl rfl hl.1 rfl (lv_room (Nat.le_of_ble_eq_true rfl)) dD_runSteps_73 ⟨Nat.zero_le _, Nat.zero_le _⟩) hP hD hS hA (fun H locs hP hD hS => ?_)
        refine lv_aload_n hx hb dD_runSteps_76 rfl (lv_at hl 0 rfl) ?_
        refine kb_callv (wf := cw h) (u := F_D_estimate (F_D_detectFailures (F_D_expectReadings w x1))) (va_runV (As := []) (rest := []) ⟨hx, hb, hml, hown, hts⟩ (c_D_estimate l D h _ (F_D_detectFailures (F_D_expectReadings w x1))) (cwV 0 hts (gd_V q_560 q_562 q_11 q_33 q_563) rfl rfl rfl (by decide +kernel) ⟨Nat.le_of_ble_eq_true rfl, Nat.le_of_ble_eq_true rfl⟩) (kb_preV hN hK hP hD (va_recv hK hP (ci := 0) (q0 := 0) rfl rfl)) rfl rfl hl.1 rfl (lv_room (Nat.le_of_ble_eq_true rfl)) dD_runSteps_77 ⟨Nat.zero_le _, Nat.zero_le _⟩) hP hD hS hA (fun H locs hP hD hS => ?_)
        refine lv_aload_n hx hb dD_runSteps_80 rfl (lv_at hl 0 rfl) ?_
        refine lv_aload_n hx hb dD_runSteps_81 rfl (lv_at hl 0 rfl) ?_
        refine va_get (D := D) (ci := 0) (v := .int (F_D_estimate (F_D_detectFailures (F_D_expectReadings w x1)) 0)) (C := "BoilerDesk") (T := TD) (N := 13) hx hb hts inD hown hK hP 0 rfl rfl 9 (by decide) (hts _ q_281) (fun _ h9 => h9) rfl dD_runSteps_82 ?_
        refine lv_if_ne (tgt := 95) hx hb dD_runSteps_85 (by decide) (fun c_3 => ?_) (fun c_3 => ?_)
        · have e := e.trans (if_neg c_3)
          refine lv_aload_n hx hb dD_runSteps_95 rfl (lv_at hl 0 rfl) ?_
          refine kb_calli (wf := cw h) (r := (F_D_modeInOperation (F_D_estimate (F_D_detectFailures (F_D_expectReadings w x1))))) (u := (F_D_estimate (F_D_detectFailures (F_D_expectReadings w x1)))) (va_runV (As := []) (rest := [.ref (h 0)]) ⟨hx, hb, hml, hown, hts⟩ (c_D_modeInOperation l D h _ (F_D_estimate (F_D_detectFailures (F_D_expectReadings w x1)))) (cwV 0 hts (gd_V q_577 q_579 q_14 q_33 q_580) rfl rfl rfl (by decide +kernel) ⟨Nat.le_of_ble_eq_true rfl, Nat.le_of_ble_eq_true rfl⟩) (kb_preV hN hK hP hD (va_recv hK hP (ci := 0) (q0 := 0) rfl rfl)) rfl rfl hl.1 rfl (lv_room (Nat.le_of_ble_eq_true rfl)) dD_runSteps_96 ⟨Nat.zero_le _, Nat.zero_le _⟩) hP hD hS hA (fun H locs hP hD hS => ?_)
          refine kb_put (D := D) (wf := cw h) (w' := (up (F_D_estimate (F_D_detectFailures (F_D_expectReadings w x1))) 0 (F_D_modeInOperation (F_D_estimate (F_D_detectFailures (F_D_expectReadings w x1)))))) (ci := 0) (v := .int (F_D_modeInOperation (F_D_estimate (F_D_detectFailures (F_D_expectReadings w x1))))) (ty := .int) (C := "BoilerDesk") (T := TD) (N := 13) hx hb hts inD tyD tyD_ok nmD hown hK hP hD hS 0 rfl rfl 9 (by decide) (hts _ q_281) (fun _ h9 => h9) rfl (by decide +kernel) rfl rfl (Nat.le_of_ble_eq_true rfl) dD_runSteps_99 rfl (fun H locs hP hD hS => ?_)
          exact k_102 (up (F_D_estimate (F_D_detectFailures (F_D_expectReadings w x1))) 0 (F_D_modeInOperation (F_D_estimate (F_D_detectFailures (F_D_expectReadings w x1))))) x1 _ _ _ e hP hD hS (lv_sub hl [0, 1] rfl)
        · have e := e.trans (if_pos c_3)
          refine lv_aload_n hx hb dD_runSteps_88 rfl (lv_at hl 0 rfl) ?_
          refine kb_calli (wf := cw h) (r := (F_D_modeBehindInitial (F_D_estimate (F_D_detectFailures (F_D_expectReadings w x1))))) (u := (F_D_estimate (F_D_detectFailures (F_D_expectReadings w x1)))) (va_runV (As := []) (rest := [.ref (h 0)]) ⟨hx, hb, hml, hown, hts⟩ (c_D_modeBehindInitial l D h _ (F_D_estimate (F_D_detectFailures (F_D_expectReadings w x1)))) (cwV 0 hts (gd_V q_564 q_566 q_12 q_33 q_567) rfl rfl rfl (by decide +kernel) ⟨Nat.le_of_ble_eq_true rfl, Nat.le_of_ble_eq_true rfl⟩) (kb_preV hN hK hP hD (va_recv hK hP (ci := 0) (q0 := 0) rfl rfl)) rfl rfl hl.1 rfl (lv_room (Nat.le_of_ble_eq_true rfl)) dD_runSteps_89 ⟨Nat.zero_le _, Nat.zero_le _⟩) hP hD hS hA (fun H locs hP hD hS => ?_)
          refine lv_goto (tgt := 99) hx hb dD_runSteps_92 (by decide) ?_
          refine kb_put (D := D) (wf := cw h) (w' := (up (F_D_estimate (F_D_detectFailures (F_D_expectReadings w x1))) 0 (F_D_modeBehindInitial (F_D_estimate (F_D_detectFailures (F_D_expectReadings w x1)))))) (ci := 0) (v := .int (F_D_modeBehindInitial (F_D_estimate (F_D_detectFailures (F_D_expectReadings w x1))))) (ty := .int) (C := "BoilerDesk") (T := TD) (N := 13) hx hb hts inD tyD tyD_ok nmD hown hK hP hD hS 0 rfl rfl 9 (by decide) (hts _ q_281) (fun _ h9 => h9) rfl (by decide +kernel) rfl rfl (Nat.le_of_ble_eq_true rfl) dD_runSteps_99 rfl (fun H locs hP hD hS => ?_)
          exact k_102 (up (F_D_estimate (F_D_detectFailures (F_D_expectReadings w x1))) 0 (F_D_modeBehindInitial (F_D_estimate (F_D_detectFailures (F_D_expectReadings w x1))))) x1 _ _ _ e hP hD hS (lv_sub hl [0, 1] rfl)
  have k_47 : ∀ (w : Nat → Int32) (x1 : Int32) (H : Heap) (locs : List Loc) (ls : Array Slot), F_D_runSteps w0 = K_D_runSteps_47 w x1 → va_P D vwCl (cw h w) H → va_D A (cw h w) → va_S A s.heap H locs → lv_has ls 2 [(0, .ref (h 0)), (1, .int x1)] → W p l e ({ frames := 4, cells := 0, slots := 0, locals := 85 }) s m [.ref (h 0)].toArray below meth c H locs 0 0 (MQ below (va_Qv (fun u' => u' = F_D_runSteps w0) (kb_E D [] (cw h) A) A) [.ref (h 0)].toArray s 0 0 A) (F0 m 47 ls []) := by
      intro w x1 H locs ls e hP hD hS hl
      refine lv_aload_n hx hb dD_runSteps_47 rfl (lv_at hl 0 rfl) ?_
      refine va_get (D := D) (ci := 0) (v := .int (w 0)) (C := "BoilerDesk") (T := TD) (N := 13) hx hb hts inD hown hK hP 0 rfl rfl 9 (by decide) (hts _ q_281) (fun _ h9 => h9) rfl dD_runSteps_48 ?_
      refine lv_iconst (v := 4) hx hb dD_runSteps_51 (by decide) ?_
      refine lv_icmp_eq (tgt := 59) hx hb dD_runSteps_52 (by decide) (fun c_4 => ?_) (fun c_4 => ?_)
      · have e := e.trans (if_pos c_4)
        exact k_59 w x1 _ _ _ e hP hD hS (lv_sub hl [0, 1] rfl)
      · have e := e.trans (if_neg c_4)
        refine lv_aload_n hx hb dD_runSteps_55 rfl (lv_at hl 0 rfl) ?_
        refine kb_callv (wf := cw h) (u := F_D_takeAcknowledgements w) (va_runV (As := []) (rest := []) ⟨hx, hb, hml, hown, hts⟩ (c_D_takeAcknowledgements l D h _ w) (cwV 0 hts (gd_V q_490 q_492 q_6 q_33 q_493) rfl rfl rfl (by decide +kernel) ⟨Nat.le_of_ble_eq_true rfl, Nat.le_of_ble_eq_true rfl⟩) (kb_preV hN hK hP hD (va_recv hK hP (ci := 0) (q0 := 0) rfl rfl)) rfl rfl hl.1 rfl (lv_room (Nat.le_of_ble_eq_true rfl)) dD_runSteps_56 ⟨Nat.zero_le _, Nat.zero_le _⟩) hP hD hS hA (fun H locs hP hD hS => ?_)
        exact k_59 (F_D_takeAcknowledgements w) x1 _ _ _ e hP hD hS (lv_sub hl [0, 1] rfl)
  have k_35 : ∀ (w : Nat → Int32) (x1 : Int32) (H : Heap) (locs : List Loc) (ls : Array Slot), F_D_runSteps w0 = K_D_runSteps_35 w x1 → va_P D vwCl (cw h w) H → va_D A (cw h w) → va_S A s.heap H locs → lv_has ls 2 [(0, .ref (h 0)), (1, .int x1)] → W p l e ({ frames := 4, cells := 0, slots := 0, locals := 85 }) s m [.ref (h 0)].toArray below meth c H locs 0 0 (MQ below (va_Qv (fun u' => u' = F_D_runSteps w0) (kb_E D [] (cw h) A) A) [.ref (h 0)].toArray s 0 0 A) (F0 m 35 ls []) := by
      intro w x1 H locs ls e hP hD hS hl
      refine lv_aload_n hx hb dD_runSteps_35 rfl (lv_at hl 0 rfl) ?_
      refine va_get (D := D) (ci := 0) (v := .int (w 0)) (C := "BoilerDesk") (T := TD) (N := 13) hx hb hts inD hown hK hP 0 rfl rfl 9 (by decide) (hts _ q_281) (fun _ h9 => h9) rfl dD_runSteps_36 ?_
      refine lv_iconst (v := 4) hx hb dD_runSteps_39 (by decide) ?_
      refine lv_icmp_eq (tgt := 47) hx hb dD_runSteps_40 (by decide) (fun c_5 => ?_) (fun c_5 => ?_)
      · have e := e.trans (if_pos c_5)
        exact k_47 w x1 _ _ _ e hP hD hS (lv_sub hl [0, 1] rfl)
      · have e := e.trans (if_neg c_5)
        refine lv_aload_n hx hb dD_runSteps_43 rfl (lv_at hl 0 rfl) ?_
        refine kb_callv (wf := cw h) (u := F_D_takeRepairs w) (va_runV (As := []) (rest := []) ⟨hx, hb, hml, hown, hts⟩ (c_D_takeRepairs l D h _ w) (cwV 0 hts (gd_V q_469 q_471 q_4 q_33 q_472) rfl rfl rfl (by decide +kernel) ⟨Nat.le_of_ble_eq_true rfl, Nat.le_of_ble_eq_true rfl⟩) (kb_preV hN hK hP hD (va_recv hK hP (ci := 0) (q0 := 0) rfl rfl)) rfl rfl hl.1 rfl (lv_room (Nat.le_of_ble_eq_true rfl)) dD_runSteps_44 ⟨Nat.zero_le _, Nat.zero_le _⟩) hP hD hS hA (fun H locs hP hD hS => ?_)
        exact k_47 (F_D_takeRepairs w) x1 _ _ _ e hP hD hS (lv_sub hl [0, 1] rfl)
  have k_30 : ∀ (w : Nat → Int32) (x1 : Int32) (H : Heap) (locs : List Loc) (ls : Array Slot), F_D_runSteps w0 = K_D_runSteps_30 w x1 → va_P D vwCl (cw h w) H → va_D A (cw h w) → va_S A s.heap H locs → lv_has ls 2 [(0, .ref (h 0)), (1, .int x1)] → W p l e ({ frames := 4, cells := 0, slots := 0, locals := 85 }) s m [.ref (h 0)].toArray below meth c H locs 0 0 (MQ below (va_Qv (fun u' => u' = F_D_runSteps w0) (kb_E D [] (cw h) A) A) [.ref (h 0)].toArray s 0 0 A) (F0 m 30 ls []) := by
      intro w x1 H locs ls e hP hD hS hl
      refine lv_aload_n hx hb dD_runSteps_30 rfl (lv_at hl 0 rfl) ?_
      refine lv_iconst (v := 4) hx hb dD_runSteps_31 (by decide) ?_
      refine kb_put (D := D) (wf := cw h) (w' := (up w 0 4)) (ci := 0) (v := .int 4) (ty := .int) (C := "BoilerDesk") (T := TD) (N := 13) hx hb hts inD tyD tyD_ok nmD hown hK hP hD hS 0 rfl rfl 9 (by decide) (hts _ q_281) (fun _ h9 => h9) rfl (by decide +kernel) rfl rfl (Nat.le_of_ble_eq_true rfl) dD_runSteps_32 rfl (fun H locs hP hD hS => ?_)
      exact k_35 (up w 0 4) x1 _ _ _ e hP hD hS (lv_sub hl [0, 1] rfl)
  have e : F_D_runSteps w0 = F_D_runSteps w0 := rfl
  refine lv_aload_n hx hb dD_runSteps_0 rfl (lv_at hl 0 rfl) ?_
  refine va_get (D := D) (ci := 0) (v := .ref (h 3)) (C := "BoilerDesk") (T := TD) (N := 13) hx hb hts inD hown hK hP 0 rfl rfl 2 (by decide) (hts _ q_274) (fun _ h9 => h9) rfl dD_runSteps_1 ?_
  refine va_get (D := D) (ci := 6) (v := .int (w0 25)) (C := "BoilerDesk$Units") (T := TU) (N := 2) hx hb hts inU hown hK hP 3 rfl rfl 0 (by decide) (hts _ q_160) (fun _ h9 => h9) rfl dD_runSteps_4 ?_
  refine lv_istore_n (lv' := [(1, .int (w0 25)), (0, .ref (h 0))]) hx hb dD_runSteps_7 rfl hl (by decide) rfl (fun ls hl => ?_)
  refine lv_aload_n hx hb dD_runSteps_8 rfl (lv_at hl 1 rfl) ?_
  refine kb_callv (wf := cw h) (u := F_D_noteWords w0) (va_runV (As := []) (rest := []) ⟨hx, hb, hml, hown, hts⟩ (c_D_noteWords l D h _ w0) (cwV 0 hts (gd_V q_461 q_463 q_3 q_33 q_464) rfl rfl rfl (by decide +kernel) ⟨Nat.le_of_ble_eq_true rfl, Nat.le_of_ble_eq_true rfl⟩) (kb_preV hN hK hP hD (va_recv hK hP (ci := 0) (q0 := 0) rfl rfl)) rfl rfl hl.1 rfl (lv_room (Nat.le_of_ble_eq_true rfl)) dD_runSteps_9 ⟨Nat.zero_le _, Nat.zero_le _⟩) hP hD hS hA (fun H locs hP hD hS => ?_)
  refine lv_aload_n hx hb dD_runSteps_12 rfl (lv_at hl 1 rfl) ?_
  refine va_get (D := D) (ci := 0) (v := .int (F_D_noteWords w0 2)) (C := "BoilerDesk") (T := TD) (N := 13) hx hb hts inD hown hK hP 0 rfl rfl 11 (by decide) (hts _ q_283) (fun _ h9 => h9) rfl dD_runSteps_13 ?_
  refine lv_iconst (v := 3) hx hb dD_runSteps_16 (by decide) ?_
  refine lv_icmp_ge (tgt := 30) hx hb dD_runSteps_17 (by decide) (fun c_6 => ?_) (fun c_6 => ?_)
  · have e := e.trans (if_pos c_6)
    exact k_30 (F_D_noteWords w0) (w0 25) _ _ _ e hP hD hS (lv_sub hl [1, 0] rfl)
  · have e := e.trans (if_neg c_6)
    refine lv_aload_n hx hb dD_runSteps_20 rfl (lv_at hl 1 rfl) ?_
    refine va_get (D := D) (ci := 0) (v := .ref (h 2)) (C := "BoilerDesk") (T := TD) (N := 13) hx hb hts inD hown hK hP 0 rfl rfl 1 (by decide) (hts _ q_273) (fun _ h9 => h9) rfl dD_runSteps_21 ?_
    refine kb_calli (wf := cw h) (r := (F_I_hasAllReadings (F_D_noteWords w0))) (u := (F_D_noteWords w0)) (va_runV (As := []) (rest := []) ⟨hx, hb, hml, hown, hts⟩ (c_I_hasAllReadings l D h _ (F_D_noteWords w0)) (cwV 0 hts (gd_V q_465 q_466 q_467 q_35 q_468) rfl rfl rfl (by decide +kernel) ⟨Nat.le_of_ble_eq_true rfl, Nat.le_of_ble_eq_true rfl⟩) (kb_preV hN hK hP hD (va_recv hK hP (ci := 1) (q0 := 2) rfl rfl)) rfl rfl hl.1 rfl (lv_room (Nat.le_of_ble_eq_true rfl)) dD_runSteps_24 ⟨Nat.zero_le _, Nat.zero_le _⟩) hP hD hS hA (fun H locs hP hD hS => ?_)
    refine lv_if_ne (tgt := 35) hx hb dD_runSteps_27 (by decide) (fun c_7 => ?_) (fun c_7 => ?_)
    · have e := e.trans (if_neg c_7)
      exact k_35 (F_D_noteWords w0) (w0 25) _ _ _ e hP hD hS (lv_sub hl [1, 0] rfl)
    · have e := e.trans (if_pos c_7)
      exact k_30 (F_D_noteWords w0) (w0 25) _ _ _ e hP hD hS (lv_sub hl [1, 0] rfl)
/-- BoilerDesk.level(I)V -/
def F_D_level (w0 : Nat → Int32) (a1 : Int32) : Nat → Int32 := (up (up w0 13 1) 14 a1)
set_option maxHeartbeats 4000000 in
set_option maxRecDepth 100000 in
theorem c_D_level (l : Launch) (D : va_G) (h : Nat → Nat) (sz : Nat) (w0 : Nat → Int32) (a1 : Int32)  : Met l yD_level [.code yD_level cD_level 2 none] ({ frames := 0, cells := 0, slots := 0, locals := 0 }) (va_Pc [.ref (h 0), .int a1] (kb_B D [] (cw h) w0 sz)) (va_Qv (fun u' => u' = F_D_level w0 a1) (kb_E D [] (cw h) (va_A (cw h w0) sz)) (va_A (cw h w0) sz)) 0 0 (va_A (cw h w0) sz) := by
  refine kb_of (cc := cD_level) (maxL := 2) (ret := none) (QcA := fun A => (va_Qv (fun u' => u' = F_D_level w0 a1) (kb_E D [] (cw h) A) A)) (by decide) (Nat.le_of_ble_eq_true rfl) ?_
  intro p e s m below meth c A hx hb hr hlocks hml hown hts hA hN hK hP hD ls hl
  have hS : va_S A s.heap s.heap [] := va_S.rf
  have hl : lv_has ls 2 [(0, .ref (h 0)), (1, .int a1)] := hl
  have e : F_D_level w0 a1 = F_D_level w0 a1 := rfl
  refine lv_aload_n hx hb dD_level_0 rfl (lv_at hl 0 rfl) ?_
  refine va_get (D := D) (ci := 0) (v := .ref (h 2)) (C := "BoilerDesk") (T := TD) (N := 13) hx hb hts inD hown hK hP 0 rfl rfl 1 (by decide) (hts _ q_273) (fun _ h9 => h9) rfl dD_level_1 ?_
  refine lv_iconst (v := 1) hx hb dD_level_4 (by decide) ?_
  refine kb_put (D := D) (wf := cw h) (w' := (up w0 13 1)) (ci := 1) (v := .int 1) (ty := .boolean) (C := "BoilerDesk$Inbox") (T := TI) (N := 12) hx hb hts inI tyI tyI_ok nmI hown hK hP hD hS 2 rfl rfl 0 (by decide) (hts _ q_105) (fun _ h9 => h9) rfl (by decide +kernel) rfl rfl (Nat.le_of_ble_eq_true rfl) dD_level_5 rfl (fun H locs hP hD hS => ?_)
  refine lv_aload_n hx hb dD_level_8 rfl (lv_at hl 0 rfl) ?_
  refine va_get (D := D) (ci := 0) (v := .ref (h 2)) (C := "BoilerDesk") (T := TD) (N := 13) hx hb hts inD hown hK hP 0 rfl rfl 1 (by decide) (hts _ q_273) (fun _ h9 => h9) rfl dD_level_9 ?_
  refine lv_iload_n hx hb dD_level_12 rfl (lv_at hl 1 rfl) ?_
  refine kb_put (D := D) (wf := cw h) (w' := (up (up w0 13 1) 14 a1)) (ci := 1) (v := .int a1) (ty := .int) (C := "BoilerDesk$Inbox") (T := TI) (N := 12) hx hb hts inI tyI tyI_ok nmI hown hK hP hD hS 2 rfl rfl 1 (by decide) (hts _ q_107) (fun _ h9 => h9) rfl (by decide +kernel) rfl rfl (Nat.le_of_ble_eq_true rfl) dD_level_13 rfl (fun H locs hP hD hS => ?_)
  exact kb_vret (wf := cw h) hx hb hr hlocks hK hP hD hS e.symm dD_level_16
/-- BoilerDesk.steam(I)V -/
def F_D_steam (w0 : Nat → Int32) (a1 : Int32) : Nat → Int32 := (up (up w0 15 1) 16 a1)
set_option maxHeartbeats 4000000 in
set_option maxRecDepth 100000 in
theorem c_D_steam (l : Launch) (D : va_G) (h : Nat → Nat) (sz : Nat) (w0 : Nat → Int32) (a1 : Int32)  : Met l yD_steam [.code yD_steam cD_steam 2 none] ({ frames := 0, cells := 0, slots := 0, locals := 0 }) (va_Pc [.ref (h 0), .int a1] (kb_B D [] (cw h) w0 sz)) (va_Qv (fun u' => u' = F_D_steam w0 a1) (kb_E D [] (cw h) (va_A (cw h w0) sz)) (va_A (cw h w0) sz)) 0 0 (va_A (cw h w0) sz) := by
  refine kb_of (cc := cD_steam) (maxL := 2) (ret := none) (QcA := fun A => (va_Qv (fun u' => u' = F_D_steam w0 a1) (kb_E D [] (cw h) A) A)) (by decide) (Nat.le_of_ble_eq_true rfl) ?_
  intro p e s m below meth c A hx hb hr hlocks hml hown hts hA hN hK hP hD ls hl
  have hS : va_S A s.heap s.heap [] := va_S.rf
  have hl : lv_has ls 2 [(0, .ref (h 0)), (1, .int a1)] := hl
  have e : F_D_steam w0 a1 = F_D_steam w0 a1 := rfl
  refine lv_aload_n hx hb dD_steam_0 rfl (lv_at hl 0 rfl) ?_
  refine va_get (D := D) (ci := 0) (v := .ref (h 2)) (C := "BoilerDesk") (T := TD) (N := 13) hx hb hts inD hown hK hP 0 rfl rfl 1 (by decide) (hts _ q_273) (fun _ h9 => h9) rfl dD_steam_1 ?_
  refine lv_iconst (v := 1) hx hb dD_steam_4 (by decide) ?_
  refine kb_put (D := D) (wf := cw h) (w' := (up w0 15 1)) (ci := 1) (v := .int 1) (ty := .boolean) (C := "BoilerDesk$Inbox") (T := TI) (N := 12) hx hb hts inI tyI tyI_ok nmI hown hK hP hD hS 2 rfl rfl 2 (by decide) (hts _ q_109) (fun _ h9 => h9) rfl (by decide +kernel) rfl rfl (Nat.le_of_ble_eq_true rfl) dD_steam_5 rfl (fun H locs hP hD hS => ?_)
  refine lv_aload_n hx hb dD_steam_8 rfl (lv_at hl 0 rfl) ?_
  refine va_get (D := D) (ci := 0) (v := .ref (h 2)) (C := "BoilerDesk") (T := TD) (N := 13) hx hb hts inD hown hK hP 0 rfl rfl 1 (by decide) (hts _ q_273) (fun _ h9 => h9) rfl dD_steam_9 ?_
  refine lv_iload_n hx hb dD_steam_12 rfl (lv_at hl 1 rfl) ?_
  refine kb_put (D := D) (wf := cw h) (w' := (up (up w0 15 1) 16 a1)) (ci := 1) (v := .int a1) (ty := .int) (C := "BoilerDesk$Inbox") (T := TI) (N := 12) hx hb hts inI tyI tyI_ok nmI hown hK hP hD hS 2 rfl rfl 3 (by decide) (hts _ q_111) (fun _ h9 => h9) rfl (by decide +kernel) rfl rfl (Nat.le_of_ble_eq_true rfl) dD_steam_13 rfl (fun H locs hP hD hS => ?_)
  exact kb_vret (wf := cw h) hx hb hr hlocks hK hP hD hS e.symm dD_steam_16
end
section
theorem ne_ti {x k : Int32} {j : Int} (h : ¬ x = k) (hk : k.toInt = j) : x.toInt ≠ j := fun e => h (Int32.toInt_inj.mp (e.trans hk.symm))
/-! METHODS THAT MAY THROW -/
/-- what a throw leaves: the thrown cell q of the class E -/
def tx_T (E : String) (XC : State → State → Prop) (st : State) (q : Addr) (t : State) (mc ms : Nat) (free : Addr → Prop) : Prop :=
  XC st t ∧ ∃ (ce : Cell) (L : List Loc), t.heap[q]? = some ce ∧ ce.vm = .none ∧ st.vm.findClass E = some ce.cls ∧ st.WarmedH t.vm ∧ st.sameButNew ({ t with vm := st.vm } : State) L mc ms ∧ ∀ z ∈ L, free z.base
def tx_Q (Qc : Array Value → State → Outcome → State → Prop) (E : String) (XC : State → State → Prop) (mc ms : Nat) (free : Addr → Prop) : Array Value → State → Outcome → State → Prop := fun a st o t =>
  (Qc a st o t ∧ ∃ L, FrameEnd st o t L mc ms ∧ ∀ q ∈ L, free q.base) ∨ ∃ q, o = .threw q ∧ tx_T E XC st q t mc ms free
def tx_Met (l : Launch) (y : MethodName) (ws : List Cond) (rm : Room) (Pc : Array Value → State → Prop) (Qc : Array Value → State → Outcome → State → Prop) (E : String) (XC : State → State → Prop) (mc ms : Nat) (free : Addr → Prop) : Prop :=
  MetFree l y (headSpec ws rm) Pc (fun _ _ _ _ _ => True) (tx_Q Qc E XC mc ms free)
def tx_MQ (below : List Frame) (Qc : Array Value → State → Outcome → State → Prop) (E : String) (XC : State → State → Prop) (a : Array Value) (s : State) (mc ms : Nat) (free : Addr → Prop) : State → Prop := fun t =>
  ∃ o, t.status = .running ∧ Ended t below o ∧ tx_Q Qc E XC mc ms free a s o t
def tx_X {S : Type} (px : S → Prop) (B : S → State → Prop) (A : Nat → Prop) : State → State → Prop := fun st t => ∃ u : S, px u ∧ B u t ∧ va_F A st t
/-- the four words of a throw that speak of the heap -/
def kt_hw : List Cond := [.isRef (.static Bundle.tN "UNASSIGNED_STACK" Bundle.steD), .isRef (.static Bundle.tN "SUPPRESSED_SENTINEL" Bundle.listD), .laysStatic Bundle.tN "UNASSIGNED_STACK" Bundle.steD, .laysStatic Bundle.tN "SUPPRESSED_SENTINEL" Bundle.listD]
/-- they hold wherever the heap is the same off A -/
def kt_Z (A : Nat → Prop) (U : State) (H : Heap) : Prop := ∀ (V : State) (a : Array Value), U.vm.Alike V.vm → (∀ q : Nat, q < H.size → ¬ A q → V.heap[q]? = H[q]?) → ∀ w ∈ kt_hw, w.before a V = true
theorem kt_Z.down {A A1 : Nat → Prop} {s U : State} {H0 H : Heap} {locs : List Loc} (h : kt_Z A s H0) (hS : va_S A H0 H locs) (hvm : s.vm.Alike U.vm) (hA : ∀ q, A1 q → A q) : kt_Z A1 U H := fun V a hv hq =>
  h V a (hvm.trans hv) (fun q h1 h2 => (hq q (Nat.lt_of_lt_of_le h1 hS.1) (fun z => h2 (hA q z))).trans (hS.2.1 q h1 h2))
def st2 (w : Cond) : Bool := w.onTables && w.warmB w.codeNames
def kt_tw : List Cond := lw_tbl.filter st2
theorem st2_at {w : Cond} {a a' : Array Value} {s U : State} (hW : s.WarmedH U.vm) (h : st2 w = true) (hb : w.before a s = true) : w.before a' U = true := by
  simp only [st2, Bool.and_eq_true] at h
  exact va_tabs h.1 (rfl : (s.setVm U.vm).vm = U.vm) (Cond.pre_warmed hW h.2 hb)
def kt_sl : List (Nat × String) := [(81, "the constants are not within their bounds"), (100, "there is no such pump"), (124, "there is no such message"), (126, "there is no such unit"), (140, "there were too many cycles"), (174, "nothing of that number is told"), (194, "the state has nothing of that number")]
/-- the further words of a throw, and the texts -/
def kt_W (U : State) : Prop := (∀ w ∈ kt_tw, w.before #[] U = true) ∧ ∀ q ∈ kt_sl, ∃ sa : Nat, vk_R "BoilerDesk" q.1 q.2 sa U
theorem kt_W.warm {s U : State} (hW : s.WarmedH U.vm) (h : kt_W s) : kt_W U := ⟨fun w hw => st2_at hW (List.mem_filter.mp hw).2 (h.1 w hw), fun q hq => by
  obtain ⟨sa, h9⟩ := h.2 q hq
  exact ⟨sa, vk_R.warm hW h9⟩⟩
def kt_B {S : Type} (D : va_G) (tys : List (ClassId × FieldType)) (wf : S → va_W) (w : S) (sz : Nat) (U : State) : Prop := kb_B D tys wf w sz U ∧ kt_W U ∧ kt_Z (va_A (wf w) sz) U U.heap
theorem kt_blind {S : Type} {D : va_G} {tys : List (ClassId × FieldType)} {wf : S → va_W} {w : S} {sz : Nat} {av : List Value} : FrameBlind (va_Pc av (kt_B D tys wf w sz)) := fun a U g mk q => by
  obtain ⟨q0, qB, qW, qZ⟩ := q
  obtain ⟨-, h1⟩ := kb_blind a U g mk (⟨q0, qB⟩ : va_Pc av (kb_B D tys wf w sz) a U)
  exact ⟨q0, h1, kt_W.warm (s := U) (U := U.calling g mk a) (State.WarmedH.refl U) qW, qZ⟩
section TX
variable {p : Program} {l : Launch} {e : Env} {R : Room} {s : State} {m : MethodId} {args : Array Value} {below : List Frame} {meth : Method} {c : Code} {H : Heap} {locs : List Loc} {cells slots : Nat} {Q : State → Prop}
variable {S : Type} {D : va_G} {tys : List (ClassId × FieldType)} {wf : S → va_W} {w u : S} {A : Nat → Prop} {av : List Value} {cc : ByteArray} {pc : Nat} {ls : Array Slot} {rest st0 : List Value} {a : Array Value} {mc ms : Nat} {r : Int32} {E : String} {Qc : Array Value → State → Outcome → State → Prop} {XC : State → State → Prop} {free : Addr → Prop}
theorem tx_ret {g : JFrame} (k : W p l e R s m args below meth c H locs cells slots (MQ below Qc args s mc ms free) g) : W p l e R s m args below meth c H locs cells slots (tx_MQ below Qc E XC args s mc ms free) g := by
  intro T hT X
  obtain ⟨t, a1, o, b1, b2, b3, b4⟩ := k T hT X
  exact ⟨t, a1, o, b1, b2, Or.inl ⟨b3, b4⟩⟩
theorem kt_of {y : MethodName} {rm : Room} {maxL sz : Nat} {ret : Option FieldType} {QcA : (Nat → Prop) → Array Value → State → Outcome → State → Prop} {XA : (Nat → Prop) → State → State → Prop} (hy : plainName y.cls = true) (hlen : (lg_sl av).length ≤ maxL)
    (body : ∀ (p : Program) (e : Env) (s : State) (m : MethodId) (below : List Frame) (meth : Method) (c : Code) (A : Nat → Prop), p.tables.exec = Jvm.exec → c.code = cc → meth.sig.returnType = ret → meth.locks = false → c.maxLocals = maxL → s.vm.findClass y.cls = some m.cls → (∀ w ∈ lw_st, w.before av.toArray s = true) → (∀ q : Nat, s.heap.size ≤ q → A q) → kb_N s → (kt_W s ∧ kt_Z A s s.heap) → (∀ x ∈ c.exceptionTable.toList, False) → va_K D vwCl tys s → va_P D vwCl (wf w) s.heap → va_D A (wf w) → ∀ ls : Array Slot, lv_has ls maxL (lv_args 0 av) → W p l e rm s m av.toArray below meth c s.heap [] 0 0 (tx_MQ below (QcA A) E (XA A) av.toArray s mc ms A) (F0 m 0 ls [])) :
    tx_Met l y [Cond.code y cc maxL ret] rm (va_Pc av (kt_B D tys wf w sz)) (QcA (va_A (wf w) sz)) E (XA (va_A (wf w) sz)) mc ms (va_A (wf w) sz) := by
  refine MetFree.of_bodyS (code := cc) (maxLocals := maxL) (ret := ret) hy ?_ ?_
  · intro args s m h hn
    obtain ⟨meth, c, h1, h2, h3, h4, h5, h6, -, -⟩ := Cond.code_spec hn (atoms_spec (ws := [Cond.code y cc maxL ret]) h _ List.mem_cons_self)
    exact ⟨meth, c, h1, h2, h3, h4, h5, h6⟩
  · intro p e s m args below meth c s₁ B hml hv _
    obtain ⟨rfl, ⟨hsz, hN, hP, hK, hD0⟩, hW, hZ⟩ := hv
    have hown : s.vm.findClass y.cls = some m.cls := findClass_of_methodNamed B.named
    subst hsz
    have hD := hD0.self (sz := s.heap.size)
    have hl := lv_entry av (n := maxL) hlen
    have hh0 : s₁.heap = s.heap := by rw [B.state]; rfl
    have hout : ∀ x ∈ c.exceptionTable.toList, False := by
      have h9 := B.noHandlers (atoms_spec (ws := [Cond.code y cc maxL ret]) B.pre _ List.mem_cons_self)
      intro x hx
      rw [Array.isEmpty_iff.mp h9] at hx
      cases hx
    have K := body p e s m below meth c _ B.exec B.bytes B.returns B.notSynchronized hml hown (hN.ts _) (fun q h => Or.inr h) hN ⟨hW, hZ⟩ hout hK hP hD _ hl
    rw [← lg_entry_eq] at K
    obtain ⟨t, a1, o, b1, b2, b3⟩ := K s₁ hh0 (Stand.of_body B)
    exact ⟨t, o, a1, b1, b2, b3⟩
end TX
end
section
/-! THE THROW ITSELF, and a callee that touches no cell ahead of it -/
theorem tx_old {s U : State} {k n : Nat} (h : s.sameButNew ({ U with vm := s.vm } : State) [] k n) : s.heap.size ≤ U.heap.size ∧ ∀ q : Nat, q < s.heap.size → U.heap[q]? = s.heap[q]? := by
  obtain ⟨-, h2, -, -, -, h6⟩ := h
  refine ⟨h2, fun q hq => ?_⟩
  obtain ⟨c9, e1, e2, -, e4⟩ := h6 q _ (Array.getElem?_eq_getElem hq)
  have hs : c9.slots = (s.heap[q]).slots := Array.ext_getElem? fun i => e4 i (fun hm => nomatch hm)
  have h9 : c9 = s.heap[q] := by
    rw [hs] at e2
    exact e2
  have e5 : U.heap[q]? = some c9 := e1
  rw [e5, h9, Array.getElem?_eq_getElem hq]
def kt_up : List String := ["java/lang/RuntimeException", "java/lang/Exception"]
def kt_ok (w : Cond) : Prop := (w ∈ lw_tbl ∧ (stw w = true ∨ st2 w = true)) ∨ w ∈ kt_hw
theorem kt_word {s : State} {A : Nat → Prop} {a : Array Value} {w : Cond} (hN : kb_N s) (hT : kt_W s ∧ kt_Z A s s.heap) (h : kt_ok w) : w.before a s = true := by
  rcases h with ⟨h1, h2 | h2⟩ | h
  · exact hN.ts a w (st_in h1 h2)
  · exact st2_at (State.WarmedH.refl s) h2 (hT.1.1 w (List.mem_filter.mpr ⟨h1, h2⟩))
  · exact hT.2 s a (Vm.Alike.refl s.vm) (fun _ _ _ => rfl) w h
section TT
variable {p : Program} {l : Launch} {e : Env} {R : Room} {s : State} {m : MethodId} {args : Array Value} {below : List Frame} {meth : Method} {c : Code} {H : Heap} {locs : List Loc} {cells slots : Nat} {Q : State → Prop}
variable {S : Type} {D : va_G} {tys : List (ClassId × FieldType)} {wf : S → va_W} {w u : S} {A : Nat → Prop} {av : List Value} {cc : ByteArray} {pc : Nat} {ls : Array Slot} {rest st0 : List Value} {a : Array Value} {mc ms : Nat} {r : Int32} {E : String} {Qc : Array Value → State → Outcome → State → Prop} {XC : State → State → Prop} {free : Addr → Prop}
/-- 'throw new E("..")' ahead of any write -/
theorem kt_throw {cls text : String} {names : List String} {ik is ic : Nat} (hexec : p.tables.exec = Jvm.exec) (hb : c.code = cc) (hl0 : l.stackTraces = false) (hown : s.vm.findClass "BoilerDesk" = some m.cls) (hcls : Bundle.fit cls = true) (hnames : ∀ n ∈ names, Bundle.fit n = true)
    (hk : (Cond.classLink "BoilerDesk" ik cls).before args s = true) (hini : (Cond.initialized cls).before args s = true) (hat : ∀ w ∈ Bundle.ownAtoms "BoilerDesk" ic cls names, w.before args s = true) (hstr : ∃ sa : Nat, vk_R "BoilerDesk" is text sa s)
    (hz : s.heap.size ≤ H.size) (hsize : ls.size = c.maxLocals) (hout : ∀ x ∈ c.exceptionTable.toList, False) (hlocks : meth.locks = false)
    (d0 : decode cc pc = .ok (.new ik, 3)) (d3 : decode cc (pc + 3) = .ok (.dup, 1)) (d4 : decode cc (pc + 4) = .ok (.ldc is, 2)) (d6 : decode cc (pc + 6) = .ok (.invokespecial ic, 3)) (d9 : decode cc (pc + 9) = .ok (.athrow, 1))
    (hRframes : names.length + 3 < R.frames) (hRlocals : 1 + (13 * (names.length + 1) + 42) ≤ R.locals) (hRcells : cells + 1 ≤ R.cells) (hRslots : slots + 6 ≤ R.slots)
    (hx : ∀ t : State, s.vm.Alike t.vm → s.heap.size ≤ t.heap.size → (∀ q : Nat, q < s.heap.size → t.heap[q]? = s.heap[q]?) → XC s t) (hc : cells + 1 ≤ mc) (hs : slots + 6 ≤ ms) :
    W p l e R s m args below meth c H [] cells slots (tx_MQ below Qc cls XC args s mc ms free) (F0 m pc ls []) := by
  intro T hT X
  have htr : e.platform.stackTraces = false := (show e.platform.stackTraces = l.stackTraces by rw [X.admits.platform]).trans hl0
  obtain ⟨sa, hstr1, hstr2⟩ := hstr
  have hins : (Cond.instantiable cls 6).before args s = true := hat _ (by simp [Bundle.ownAtoms])
  obtain ⟨vm₁, cX, kX, hfX, hkX, -, -, X₁, st1⟩ := X.newCold hexec (own := "BoilerDesk") (C := cls) (index := ik) (n := 6) hown hk hins hini (g := F0 m pc ls []) rfl (by rw [hb]; exact d0) hRcells hRslots
  generalize hT1 : (T.setVm vm₁).pushCell { cls := cX, slots := kX.instanceTypes.map defaultValue, vm := .none } = T1 at X₁ st1
  have hcellA : T1.heap[T.heap.size]? = some (freshCell cX kX) := by rw [← hT1]; exact State.heap_pushCell_size _ _
  have d3' : decode c.code (pc + 3) = .ok (.dup, 1) := by rw [hb]; exact d3
  have d4' : decode c.code (pc + 4) = .ok (.ldc is, 2) := by rw [hb]; exact d4
  have hev : (Term.string "BoilerDesk" is).eval args s none [] s = some (.ref sa) := hstr2
  have hco : (Cond.stringRef "BoilerDesk" is text).before args s = true := hstr1
  obtain ⟨U, hsteps, hrun, hend, hW, hsame, ce, hce, hO⟩ := X₁.ctorThrowS hexec htr (own := "BoilerDesk") (cls := cls) (names := names) (ic := ic) hown hcls hnames hat (fun x hx => nomatch hx) hfX hkX hcellA (by rw [hT]; exact hz) (msg := .ref sa) rfl
    (g := { method := m, pc := pc + 6, locals := ls, stack := .ref sa :: .ref T.heap.size :: .ref T.heap.size :: [], locked := none }) rfl hsize rfl rfl (rest := []) rfl
    (by rw [hb]; exact d6) (by rw [hb]; exact d9) (fun x hx => (hout x hx).elim) hRframes (by show 2 * 0 + (1 + 0) + _ ≤ _; omega) hlocks
  obtain ⟨f1, f2⟩ := tx_old hsame
  refine ⟨U, ?_, .threw T.heap.size, hrun, hend, Or.inr ⟨T.heap.size, rfl, hx U hW.alike f1 f2, ce, [], hce, hO.vm, hO.cls, hW, hsame.mono hc hs, fun z hz => nomatch hz⟩⟩
  refine st1 _ ?_
  show Steps p.tables e below (T1.setTop { method := m, pc := pc + 3, locals := ls, stack := .ref T.heap.size :: [], locked := none }) _
  jvm_step X₁.here [X₁.here.top, hexec, d3', Value.category]
  exact X₁.ldcString hexec (own := "BoilerDesk") (text := text) (index := is) (a := sa) hown hco hev
    (g := { method := m, pc := pc + 4, locals := ls, stack := .ref T.heap.size :: .ref T.heap.size :: [], locked := none }) rfl d4' _ hsteps
/-- a callee that touches no cell, called ahead of any write -/
theorem kb_call0f {ws : va_W} (hr : va_Run p l e R s m args below meth c H [] cells slots mc ms (F0 m pc ls st0) rest (va_Qi (fun r' u' => r' = r ∧ u' = ()) (kb_E D [] kb_nil (va_A (kb_nil ()) H.size)) (va_A (kb_nil ()) H.size) a) (va_A (kb_nil ()) H.size)) (hP : va_P D vwCl ws H) (hz : s.heap.size ≤ H.size) (hQ : ∀ q : Nat, q < s.heap.size → H[q]? = s.heap[q]?)
    (kk : ∀ H1 : Heap, va_P D vwCl ws H1 → s.heap.size ≤ H1.size → (∀ q : Nat, q < s.heap.size → H1[q]? = s.heap[q]?) → W p l e R s m args below meth c H1 [] (cells + mc) (slots + ms) Q (F0 m (pc + 3) ls (.int r :: rest))) : W p l e R s m args below meth c H [] cells slots Q (F0 m pc ls st0) := by
  intro T hT X
  obtain ⟨v, st₀, t, T', L, h0, X', hL, e1, e2, ⟨⟨r', u', hv, hp, hB⟩, hF⟩, st⟩ := hr T hT X
  cases hv
  obtain ⟨rfl, -⟩ := hp
  have hno : ∀ q : Nat, va_A (kb_nil ()) H.size q → H.size ≤ q := fun q h => h.elim (fun ⟨k, e9, h⟩ => by simp [kb_nil] at h) id
  obtain ⟨f1, f2⟩ := hF
  rw [h0] at f1 f2
  have hk : ∀ q : Nat, q < H.size → T'.heap[q]? = H[q]? := fun q h => by rw [e1]; exact f2 q h (fun z => absurd (hno q z) (Nat.not_le.mpr h))
  obtain ⟨t2, a1, b1⟩ := kk T'.heap (hP.kept (fun k x hx => hk x.1 ((hP k x hx).lt))) (Nat.le_trans hz (by rw [e1]; exact f1)) (fun q h => (hk q (Nat.lt_of_lt_of_le h hz)).trans (hQ q h)) T' rfl
    (Stand.forget (locs := []) X' (fun q hq => Nat.le_trans hz (hno _ (hL q (by simpa using hq)))))
  exact ⟨t2, st t2 a1, b1⟩
theorem kt_xc {w0 : S} {F : Prop} (he : F) (hP : va_P D vwCl (wf w0) s.heap) (hK : va_K D vwCl tys s) (hD : va_D A (wf w0)) : ∀ t : State, s.vm.Alike t.vm → s.heap.size ≤ t.heap.size → (∀ q : Nat, q < s.heap.size → t.heap[q]? = s.heap[q]?) → tx_X (fun u' => F ∧ u' = w0) (kb_E D tys wf A) A s t :=
  fun t hvm hz hq => ⟨w0, ⟨he, rfl⟩, ⟨hP.kept (fun k x hx => hq x.1 ((hP k x hx).lt)), va_K.moved hvm hK, hD⟩, hz, fun q h _ => hq q h⟩
end TT
theorem kt_iae : ∀ w ∈ Bundle.ownAtoms "BoilerDesk" 83 "java/lang/IllegalArgumentException" kt_up, kt_ok w := by unfold kt_ok; decide +kernel
theorem kt_ise : ∀ w ∈ Bundle.ownAtoms "BoilerDesk" 142 "java/lang/IllegalStateException" kt_up, kt_ok w := by unfold kt_ok; decide +kernel
end
section
/-- BoilerDesk.begin(IIIIIIIII)V -/
def F_D_begin (w0 : Nat → Int32) (a1 : Int32) (a2 : Int32) (a3 : Int32) (a4 : Int32) (a5 : Int32) (a6 : Int32) (a7 : Int32) (a8 : Int32) (a9 : Int32) : Option (Nat → Int32) := (if (F_D_limitsAreSound a1 a2 a3 a4 a5) = (0 : Int32) then none else (if (F_D_ratesAreSound a6 a7 a8 a9) = (0 : Int32) then none else (some (F_D_startAnew (F_P_setRates (F_P_setLimits w0 a1 a2 a3 a4 a5) a6 a7 a8 a9)))))
set_option maxHeartbeats 4000000 in
set_option maxRecDepth 100000 in
theorem c_D_begin (l : Launch) (hl0 : l.stackTraces = false) (D : va_G) (h : Nat → Nat) (sz : Nat) (w0 : Nat → Int32) (a1 : Int32) (a2 : Int32) (a3 : Int32) (a4 : Int32) (a5 : Int32) (a6 : Int32) (a7 : Int32) (a8 : Int32) (a9 : Int32)  : tx_Met l yD_begin [.code yD_begin cD_begin 10 none] ({ frames := 7, cells := 1, slots := 6, locals := 120 }) (va_Pc [.ref (h 0), .int a1, .int a2, .int a3, .int a4, .int a5, .int a6, .int a7, .int a8, .int a9] (kt_B D [] (cw h) w0 sz)) (va_Qv (fun u' => F_D_begin w0 a1 a2 a3 a4 a5 a6 a7 a8 a9 = some u') (kb_E D [] (cw h) (va_A (cw h w0) sz)) (va_A (cw h w0) sz)) "java/lang/IllegalArgumentException" (tx_X (fun u' => F_D_begin w0 a1 a2 a3 a4 a5 a6 a7 a8 a9 = none ∧ u' = w0) (kb_E D [] (cw h) (va_A (cw h w0) sz)) (va_A (cw h w0) sz)) 1 6 (va_A (cw h w0) sz) := by
  refine kt_of (cc := cD_begin) (maxL := 10) (ret := none) (E := "java/lang/IllegalArgumentException") (QcA := fun A => (va_Qv (fun u' => F_D_begin w0 a1 a2 a3 a4 a5 a6 a7 a8 a9 = some u') (kb_E D [] (cw h) A) A)) (XA := fun A => (tx_X (fun u' => F_D_begin w0 a1 a2 a3 a4 a5 a6 a7 a8 a9 = none ∧ u' = w0) (kb_E D [] (cw h) A) A)) (by decide) (Nat.le_of_ble_eq_true rfl) ?_
  intro p e s m below meth c A hx hb hr hlocks hml hown hts hA hN hT hout hK hP hD ls hl
  have hP0 := hP
  have hD0 := hD
  have hz : s.heap.size ≤ s.heap.size := Nat.le_refl _
  have hQ : ∀ q : Nat, q < s.heap.size → s.heap[q]? = s.heap[q]? := fun _ _ => rfl
  have hS : va_S A s.heap s.heap [] := va_S.rf
  have hl : lv_has ls 10 [(0, .ref (h 0)), (1, .int a1), (2, .int a2), (3, .int a3), (4, .int a4), (5, .int a5), (6, .int a6), (7, .int a7), (8, .int a8), (9, .int a9)] := hl
  have e : F_D_begin w0 a1 a2 a3 a4 a5 a6 a7 a8 a9 = F_D_begin w0 a1 a2 a3 a4 a5 a6 a7 a8 a9 := rfl
  refine lv_iload_n hx hb dD_begin_0 rfl (lv_at hl 1 rfl) ?_
  refine lv_iload_n hx hb dD_begin_1 rfl (lv_at hl 2 rfl) ?_
  refine lv_iload_n hx hb dD_begin_2 rfl (lv_at hl 3 rfl) ?_
  refine lv_iload hx hb dD_begin_3 (lv_at hl 4 rfl) ?_
  refine lv_iload hx hb dD_begin_5 (lv_at hl 5 rfl) ?_
  refine kb_call0f (r := (F_D_limitsAreSound a1 a2 a3 a4 a5)) (va_runS (As := [.int a1, .int a2, .int a3, .int a4, .int a5]) (rest := []) ⟨hx, hb, hml, hown, hts⟩ (c_D_limitsAreSound l D _ a1 a2 a3 a4 a5) (va_cwS 5 hts (gd_S q_328 q_329 q_33 q_330) rfl rfl rfl (by decide +kernel) ⟨Nat.le_of_ble_eq_true rfl, Nat.le_of_ble_eq_true rfl⟩) (kb_pre0 hN hK) rfl rfl hl.1 rfl (lv_room (Nat.le_of_ble_eq_true rfl)) dD_begin_7 ⟨Nat.zero_le _, Nat.zero_le _⟩) hP hz hQ (fun H hP hz hQ => ?_)
  have hS : va_S A s.heap H [] := ⟨hz, fun q h _ => hQ q h, fun _ h => nomatch h⟩
  refine lv_if_eq (tgt := 27) hx hb dD_begin_10 (by decide) (fun c_1 => ?_) (fun c_1 => ?_)
  · have e := e.trans (if_pos c_1)
    exact kt_throw (names := kt_up) hx hb hl0 hown (by decide +kernel) (by decide +kernel) (hts _ q_339) (hts _ q_44) (fun w hw => kt_word hN hT (kt_iae w hw)) (hT.1.2 (81, "the constants are not within their bounds") (by decide)) hz (hl.1.trans hml.symm) hout hlocks dD_begin_27 dD_begin_30 dD_begin_31 dD_begin_33 dD_begin_36 (Nat.le_of_ble_eq_true rfl) (Nat.le_of_ble_eq_true rfl) (Nat.le_of_ble_eq_true rfl) (Nat.le_of_ble_eq_true rfl) (kt_xc e hP0 hK hD0) (Nat.le_of_ble_eq_true rfl) (Nat.le_of_ble_eq_true rfl)
  · have e := e.trans (if_neg c_1)
    refine lv_iload hx hb dD_begin_13 (lv_at hl 6 rfl) ?_
    refine lv_iload hx hb dD_begin_15 (lv_at hl 7 rfl) ?_
    refine lv_iload hx hb dD_begin_17 (lv_at hl 8 rfl) ?_
    refine lv_iload hx hb dD_begin_19 (lv_at hl 9 rfl) ?_
    refine kb_call0f (r := (F_D_ratesAreSound a6 a7 a8 a9)) (va_runS (As := [.int a6, .int a7, .int a8, .int a9]) (rest := []) ⟨hx, hb, hml, hown, hts⟩ (c_D_ratesAreSound l D _ a6 a7 a8 a9) (va_cwS 4 hts (gd_S q_332 q_333 q_33 q_334) rfl rfl rfl (by decide +kernel) ⟨Nat.le_of_ble_eq_true rfl, Nat.le_of_ble_eq_true rfl⟩) (kb_pre0 hN hK) rfl rfl hl.1 rfl (lv_room (Nat.le_of_ble_eq_true rfl)) dD_begin_21 ⟨Nat.zero_le _, Nat.zero_le _⟩) hP hz hQ (fun H hP hz hQ => ?_)
    have hS : va_S A s.heap H [] := ⟨hz, fun q h _ => hQ q h, fun _ h => nomatch h⟩
    refine lv_if_ne (tgt := 37) hx hb dD_begin_24 (by decide) (fun c_2 => ?_) (fun c_2 => ?_)
    · have e := e.trans (if_neg c_2)
      refine lv_aload_n hx hb dD_begin_37 rfl (lv_at hl 0 rfl) ?_
      refine va_get (D := D) (ci := 0) (v := .ref (h 1)) (C := "BoilerDesk") (T := TD) (N := 13) hx hb hts inD hown hK hP 0 rfl rfl 0 (by decide) (hts _ q_272) (fun _ h9 => h9) rfl dD_begin_38 ?_
      refine lv_iload_n hx hb dD_begin_41 rfl (lv_at hl 1 rfl) ?_
      refine lv_iload_n hx hb dD_begin_42 rfl (lv_at hl 2 rfl) ?_
      refine lv_iload_n hx hb dD_begin_43 rfl (lv_at hl 3 rfl) ?_
      refine lv_iload hx hb dD_begin_44 (lv_at hl 4 rfl) ?_
      refine lv_iload hx hb dD_begin_46 (lv_at hl 5 rfl) ?_
      refine kb_callv (wf := cw h) (u := F_P_setLimits w0 a1 a2 a3 a4 a5) (va_runV (As := [.int a1, .int a2, .int a3, .int a4, .int a5]) (rest := []) ⟨hx, hb, hml, hown, hts⟩ (c_P_setLimits l D h _ w0 a1 a2 a3 a4 a5) (cwV 5 hts (gd_V q_240 q_241 q_242 q_34 q_243) rfl rfl rfl (by decide +kernel) ⟨Nat.le_of_ble_eq_true rfl, Nat.le_of_ble_eq_true rfl⟩) (kb_preV hN hK hP hD (va_recv hK hP (ci := 3) (q0 := 1) rfl rfl)) rfl rfl hl.1 rfl (lv_room (Nat.le_of_ble_eq_true rfl)) dD_begin_48 ⟨Nat.zero_le _, Nat.zero_le _⟩) hP hD hS hA (fun H locs hP hD hS => ?_)
      refine lv_aload_n hx hb dD_begin_51 rfl (lv_at hl 0 rfl) ?_
      refine va_get (D := D) (ci := 0) (v := .ref (h 1)) (C := "BoilerDesk") (T := TD) (N := 13) hx hb hts inD hown hK hP 0 rfl rfl 0 (by decide) (hts _ q_272) (fun _ h9 => h9) rfl dD_begin_52 ?_
      refine lv_iload hx hb dD_begin_55 (lv_at hl 6 rfl) ?_
      refine lv_iload hx hb dD_begin_57 (lv_at hl 7 rfl) ?_
      refine lv_iload hx hb dD_begin_59 (lv_at hl 8 rfl) ?_
      refine lv_iload hx hb dD_begin_61 (lv_at hl 9 rfl) ?_
      refine kb_callv (wf := cw h) (u := F_P_setRates (F_P_setLimits w0 a1 a2 a3 a4 a5) a6 a7 a8 a9) (va_runV (As := [.int a6, .int a7, .int a8, .int a9]) (rest := []) ⟨hx, hb, hml, hown, hts⟩ (c_P_setRates l D h _ (F_P_setLimits w0 a1 a2 a3 a4 a5) a6 a7 a8 a9) (cwV 4 hts (gd_V q_244 q_245 q_246 q_34 q_247) rfl rfl rfl (by decide +kernel) ⟨Nat.le_of_ble_eq_true rfl, Nat.le_of_ble_eq_true rfl⟩) (kb_preV hN hK hP hD (va_recv hK hP (ci := 3) (q0 := 1) rfl rfl)) rfl rfl hl.1 rfl (lv_room (Nat.le_of_ble_eq_true rfl)) dD_begin_63 ⟨Nat.zero_le _, Nat.zero_le _⟩) hP hD hS hA (fun H locs hP hD hS => ?_)
      refine lv_aload_n hx hb dD_begin_66 rfl (lv_at hl 0 rfl) ?_
      refine kb_callv (wf := cw h) (u := F_D_startAnew (F_P_setRates (F_P_setLimits w0 a1 a2 a3 a4 a5) a6 a7 a8 a9)) (va_runV (As := []) (rest := []) ⟨hx, hb, hml, hown, hts⟩ (c_D_startAnew l D h _ (F_P_setRates (F_P_setLimits w0 a1 a2 a3 a4 a5) a6 a7 a8 a9)) (cwV 0 hts (gd_V q_248 q_250 q_0 q_33 q_251) rfl rfl rfl (by decide +kernel) ⟨Nat.le_of_ble_eq_true rfl, Nat.le_of_ble_eq_true rfl⟩) (kb_preV hN hK hP hD (va_recv hK hP (ci := 0) (q0 := 0) rfl rfl)) rfl rfl hl.1 rfl (lv_room (Nat.le_of_ble_eq_true rfl)) dD_begin_67 ⟨Nat.zero_le _, Nat.zero_le _⟩) hP hD hS hA (fun H locs hP hD hS => ?_)
      exact tx_ret (W.widen (k := 1) (n := 6) (Nat.le_of_ble_eq_true rfl) (Nat.le_of_ble_eq_true rfl) (kb_vret (wf := cw h) hx hb hr hlocks hK hP hD hS e dD_begin_70))
    · have e := e.trans (if_pos c_2)
      exact kt_throw (names := kt_up) hx hb hl0 hown (by decide +kernel) (by decide +kernel) (hts _ q_339) (hts _ q_44) (fun w hw => kt_word hN hT (kt_iae w hw)) (hT.1.2 (81, "the constants are not within their bounds") (by decide)) hz (hl.1.trans hml.symm) hout hlocks dD_begin_27 dD_begin_30 dD_begin_31 dD_begin_33 dD_begin_36 (Nat.le_of_ble_eq_true rfl) (Nat.le_of_ble_eq_true rfl) (Nat.le_of_ble_eq_true rfl) (Nat.le_of_ble_eq_true rfl) (kt_xc e hP0 hK hD0) (Nat.le_of_ble_eq_true rfl) (Nat.le_of_ble_eq_true rfl)
/-- BoilerDesk.pump(IZZ)V -/
def F_D_pump (w0 : Nat → Int32) (a1 : Int32) (a2 : Int32) (a3 : Int32) : Option (Nat → Int32) := (if a1 < (0 : Int32) then none else (if a1 < (4 : Int32) then (some (up (up (up w0 17 (F_D_withBit (w0 17) a1 (1 : Int32))) 18 (F_D_withBit (w0 18) a1 a2)) 19 (F_D_withBit (w0 19) a1 a3))) else none))
set_option maxHeartbeats 4000000 in
set_option maxRecDepth 100000 in
theorem c_D_pump (l : Launch) (hl0 : l.stackTraces = false) (D : va_G) (h : Nat → Nat) (sz : Nat) (w0 : Nat → Int32) (a1 : Int32) (a2 : Int32) (a3 : Int32) (z2 : a2 = 0 ∨ a2 = 1) (z3 : a3 = 0 ∨ a3 = 1) : tx_Met l yD_pump [.code yD_pump cD_pump 4 none] ({ frames := 7, cells := 1, slots := 6, locals := 120 }) (va_Pc [.ref (h 0), .int a1, .int a2, .int a3] (kt_B D [] (cw h) w0 sz)) (va_Qv (fun u' => F_D_pump w0 a1 a2 a3 = some u') (kb_E D [] (cw h) (va_A (cw h w0) sz)) (va_A (cw h w0) sz)) "java/lang/IllegalArgumentException" (tx_X (fun u' => F_D_pump w0 a1 a2 a3 = none ∧ u' = w0) (kb_E D [] (cw h) (va_A (cw h w0) sz)) (va_A (cw h w0) sz)) 1 6 (va_A (cw h w0) sz) := by
  refine kt_of (cc := cD_pump) (maxL := 4) (ret := none) (E := "java/lang/IllegalArgumentException") (QcA := fun A => (va_Qv (fun u' => F_D_pump w0 a1 a2 a3 = some u') (kb_E D [] (cw h) A) A)) (XA := fun A => (tx_X (fun u' => F_D_pump w0 a1 a2 a3 = none ∧ u' = w0) (kb_E D [] (cw h) A) A)) (by decide) (Nat.le_of_ble_eq_true rfl) ?_
  intro p e s m below meth c A hx hb hr hlocks hml hown hts hA hN hT hout hK hP hD ls hl
  have hP0 := hP
  have hD0 := hD
  have hz : s.heap.size ≤ s.heap.size := Nat.le_refl _
  have hQ : ∀ q : Nat, q < s.heap.size → s.heap[q]? = s.heap[q]? := fun _ _ => rfl
  have hS : va_S A s.heap s.heap [] := va_S.rf
  have hl : lv_has ls 4 [(0, .ref (h 0)), (1, .int a1), (2, .int a2), (3, .int a3)] := hl
  have e : F_D_pump w0 a1 a2 a3 = F_D_pump w0 a1 a2 a3 := rfl
  refine lv_iload_n hx hb dD_pump_0 rfl (lv_at hl 1 rfl) ?_
  refine lv_if_lt (tgt := 9) hx hb dD_pump_1 (by decide) (fun c_1 => ?_) (fun c_1 => ?_)
  · have e := e.trans (if_pos c_1)
    exact kt_throw (names := kt_up) hx hb hl0 hown (by decide +kernel) (by decide +kernel) (hts _ q_339) (hts _ q_44) (fun w hw => kt_word hN hT (kt_iae w hw)) (hT.1.2 (100, "there is no such pump") (by decide)) hz (hl.1.trans hml.symm) hout hlocks dD_pump_9 dD_pump_12 dD_pump_13 dD_pump_15 dD_pump_18 (Nat.le_of_ble_eq_true rfl) (Nat.le_of_ble_eq_true rfl) (Nat.le_of_ble_eq_true rfl) (Nat.le_of_ble_eq_true rfl) (kt_xc e hP0 hK hD0) (Nat.le_of_ble_eq_true rfl) (Nat.le_of_ble_eq_true rfl)
  · have e := e.trans (if_neg c_1)
    refine lv_iload_n hx hb dD_pump_4 rfl (lv_at hl 1 rfl) ?_
    refine lv_iconst (v := 4) hx hb dD_pump_5 (by decide) ?_
    refine lv_icmp_lt (tgt := 19) hx hb dD_pump_6 (by decide) (fun c_2 => ?_) (fun c_2 => ?_)
    · have e := e.trans (if_pos c_2)
      refine lv_aload_n hx hb dD_pump_19 rfl (lv_at hl 0 rfl) ?_
      refine va_get (D := D) (ci := 0) (v := .ref (h 2)) (C := "BoilerDesk") (T := TD) (N := 13) hx hb hts inD hown hK hP 0 rfl rfl 1 (by decide) (hts _ q_273) (fun _ h9 => h9) rfl dD_pump_20 ?_
      refine lv_aload_n hx hb dD_pump_23 rfl (lv_at hl 0 rfl) ?_
      refine va_get (D := D) (ci := 0) (v := .ref (h 2)) (C := "BoilerDesk") (T := TD) (N := 13) hx hb hts inD hown hK hP 0 rfl rfl 1 (by decide) (hts _ q_273) (fun _ h9 => h9) rfl dD_pump_24 ?_
      refine va_get (D := D) (ci := 1) (v := .int (w0 17)) (C := "BoilerDesk$Inbox") (T := TI) (N := 12) hx hb hts inI hown hK hP 2 rfl rfl 4 (by decide) (hts _ q_113) (fun _ h9 => h9) rfl dD_pump_27 ?_
      refine lv_iload_n hx hb dD_pump_30 rfl (lv_at hl 1 rfl) ?_
      refine lv_iconst (v := 1) hx hb dD_pump_31 (by decide) ?_
      refine kb_call0f (r := (F_D_withBit (w0 17) a1 (1 : Int32))) (va_runS (As := [.int (w0 17), .int a1, .int 1]) (rest := [.ref (h 2)]) ⟨hx, hb, hml, hown, hts⟩ (c_D_withBit l D _ (w0 17) a1 (1 : Int32) (by decide)) (va_cwS 3 hts (gd_S q_414 q_415 q_33 q_416) rfl rfl rfl (by decide +kernel) ⟨Nat.le_of_ble_eq_true rfl, Nat.le_of_ble_eq_true rfl⟩) (kb_pre0 hN hK) rfl rfl hl.1 rfl (lv_room (Nat.le_of_ble_eq_true rfl)) dD_pump_32 ⟨Nat.zero_le _, Nat.zero_le _⟩) hP hz hQ (fun H hP hz hQ => ?_)
      have hS : va_S A s.heap H [] := ⟨hz, fun q h _ => hQ q h, fun _ h => nomatch h⟩
      refine kb_put (D := D) (wf := cw h) (w' := (up w0 17 (F_D_withBit (w0 17) a1 (1 : Int32)))) (ci := 1) (v := .int (F_D_withBit (w0 17) a1 (1 : Int32))) (ty := .int) (C := "BoilerDesk$Inbox") (T := TI) (N := 12) hx hb hts inI tyI tyI_ok nmI hown hK hP hD hS 2 rfl rfl 4 (by decide) (hts _ q_113) (fun _ h9 => h9) rfl (by decide +kernel) rfl rfl (Nat.le_of_ble_eq_true rfl) dD_pump_35 rfl (fun H locs hP hD hS => ?_)
      refine lv_aload_n hx hb dD_pump_38 rfl (lv_at hl 0 rfl) ?_
      refine va_get (D := D) (ci := 0) (v := .ref (h 2)) (C := "BoilerDesk") (T := TD) (N := 13) hx hb hts inD hown hK hP 0 rfl rfl 1 (by decide) (hts _ q_273) (fun _ h9 => h9) rfl dD_pump_39 ?_
      refine lv_aload_n hx hb dD_pump_42 rfl (lv_at hl 0 rfl) ?_
      refine va_get (D := D) (ci := 0) (v := .ref (h 2)) (C := "BoilerDesk") (T := TD) (N := 13) hx hb hts inD hown hK hP 0 rfl rfl 1 (by decide) (hts _ q_273) (fun _ h9 => h9) rfl dD_pump_43 ?_
      refine va_get (D := D) (ci := 1) (v := .int (w0 18)) (C := "BoilerDesk$Inbox") (T := TI) (N := 12) hx hb hts inI hown hK hP 2 rfl rfl 5 (by decide) (hts _ q_115) (fun _ h9 => h9) rfl dD_pump_46 ?_
      refine lv_iload_n hx hb dD_pump_49 rfl (lv_at hl 1 rfl) ?_
      refine lv_iload_n hx hb dD_pump_50 rfl (lv_at hl 2 rfl) ?_
      refine kb_call0 (r := (F_D_withBit (w0 18) a1 a2)) (va_runS (As := [.int (w0 18), .int a1, .int a2]) (rest := [.ref (h 2)]) ⟨hx, hb, hml, hown, hts⟩ (c_D_withBit l D _ (w0 18) a1 a2 z2) (va_cwS 3 hts (gd_S q_414 q_415 q_33 q_416) rfl rfl rfl (by decide +kernel) ⟨Nat.le_of_ble_eq_true rfl, Nat.le_of_ble_eq_true rfl⟩) (kb_pre0 hN hK) rfl rfl hl.1 rfl (lv_room (Nat.le_of_ble_eq_true rfl)) dD_pump_51 ⟨Nat.zero_le _, Nat.zero_le _⟩) hP hS hA (fun H locs hP hS => ?_)
      refine kb_put (D := D) (wf := cw h) (w' := (up (up w0 17 (F_D_withBit (w0 17) a1 (1 : Int32))) 18 (F_D_withBit (w0 18) a1 a2))) (ci := 1) (v := .int (F_D_withBit (w0 18) a1 a2)) (ty := .int) (C := "BoilerDesk$Inbox") (T := TI) (N := 12) hx hb hts inI tyI tyI_ok nmI hown hK hP hD hS 2 rfl rfl 5 (by decide) (hts _ q_115) (fun _ h9 => h9) rfl (by decide +kernel) rfl rfl (Nat.le_of_ble_eq_true rfl) dD_pump_54 rfl (fun H locs hP hD hS => ?_)
      refine lv_aload_n hx hb dD_pump_57 rfl (lv_at hl 0 rfl) ?_
      refine va_get (D := D) (ci := 0) (v := .ref (h 2)) (C := "BoilerDesk") (T := TD) (N := 13) hx hb hts inD hown hK hP 0 rfl rfl 1 (by decide) (hts _ q_273) (fun _ h9 => h9) rfl dD_pump_58 ?_
      refine lv_aload_n hx hb dD_pump_61 rfl (lv_at hl 0 rfl) ?_
      refine va_get (D := D) (ci := 0) (v := .ref (h 2)) (C := "BoilerDesk") (T := TD) (N := 13) hx hb hts inD hown hK hP 0 rfl rfl 1 (by decide) (hts _ q_273) (fun _ h9 => h9) rfl dD_pump_62 ?_
      refine va_get (D := D) (ci := 1) (v := .int (w0 19)) (C := "BoilerDesk$Inbox") (T := TI) (N := 12) hx hb hts inI hown hK hP 2 rfl rfl 6 (by decide) (hts _ q_117) (fun _ h9 => h9) rfl dD_pump_65 ?_
      refine lv_iload_n hx hb dD_pump_68 rfl (lv_at hl 1 rfl) ?_
      refine lv_iload_n hx hb dD_pump_69 rfl (lv_at hl 3 rfl) ?_
      refine kb_call0 (r := (F_D_withBit (w0 19) a1 a3)) (va_runS (As := [.int (w0 19), .int a1, .int a3]) (rest := [.ref (h 2)]) ⟨hx, hb, hml, hown, hts⟩ (c_D_withBit l D _ (w0 19) a1 a3 z3) (va_cwS 3 hts (gd_S q_414 q_415 q_33 q_416) rfl rfl rfl (by decide +kernel) ⟨Nat.le_of_ble_eq_true rfl, Nat.le_of_ble_eq_true rfl⟩) (kb_pre0 hN hK) rfl rfl hl.1 rfl (lv_room (Nat.le_of_ble_eq_true rfl)) dD_pump_70 ⟨Nat.zero_le _, Nat.zero_le _⟩) hP hS hA (fun H locs hP hS => ?_)
      refine kb_put (D := D) (wf := cw h) (w' := (up (up (up w0 17 (F_D_withBit (w0 17) a1 (1 : Int32))) 18 (F_D_withBit (w0 18) a1 a2)) 19 (F_D_withBit (w0 19) a1 a3))) (ci := 1) (v := .int (F_D_withBit (w0 19) a1 a3)) (ty := .int) (C := "BoilerDesk$Inbox") (T := TI) (N := 12) hx hb hts inI tyI tyI_ok nmI hown hK hP hD hS 2 rfl rfl 6 (by decide) (hts _ q_117) (fun _ h9 => h9) rfl (by decide +kernel) rfl rfl (Nat.le_of_ble_eq_true rfl) dD_pump_73 rfl (fun H locs hP hD hS => ?_)
      exact tx_ret (W.widen (k := 1) (n := 6) (Nat.le_of_ble_eq_true rfl) (Nat.le_of_ble_eq_true rfl) (kb_vret (wf := cw h) hx hb hr hlocks hK hP hD hS e dD_pump_76))
    · have e := e.trans (if_neg c_2)
      exact kt_throw (names := kt_up) hx hb hl0 hown (by decide +kernel) (by decide +kernel) (hts _ q_339) (hts _ q_44) (fun w hw => kt_word hN hT (kt_iae w hw)) (hT.1.2 (100, "there is no such pump") (by decide)) hz (hl.1.trans hml.symm) hout hlocks dD_pump_9 dD_pump_12 dD_pump_13 dD_pump_15 dD_pump_18 (Nat.le_of_ble_eq_true rfl) (Nat.le_of_ble_eq_true rfl) (Nat.le_of_ble_eq_true rfl) (Nat.le_of_ble_eq_true rfl) (kt_xc e hP0 hK hD0) (Nat.le_of_ble_eq_true rfl) (Nat.le_of_ble_eq_true rfl)
/-- BoilerDesk.say(I)V -/
def F_D_say (w0 : Nat → Int32) (a1 : Int32) : Option (Nat → Int32) := (if a1 = 0 then (some (up w0 20 1)) else (if a1 = 1 then (some (up w0 21 1)) else (if a1 = 2 then (some (up w0 22 1)) else none)))
set_option maxHeartbeats 4000000 in
set_option maxRecDepth 100000 in
theorem c_D_say (l : Launch) (hl0 : l.stackTraces = false) (D : va_G) (h : Nat → Nat) (sz : Nat) (w0 : Nat → Int32) (a1 : Int32)  : tx_Met l yD_say [.code yD_say cD_say 2 none] ({ frames := 7, cells := 1, slots := 6, locals := 120 }) (va_Pc [.ref (h 0), .int a1] (kt_B D [] (cw h) w0 sz)) (va_Qv (fun u' => F_D_say w0 a1 = some u') (kb_E D [] (cw h) (va_A (cw h w0) sz)) (va_A (cw h w0) sz)) "java/lang/IllegalArgumentException" (tx_X (fun u' => F_D_say w0 a1 = none ∧ u' = w0) (kb_E D [] (cw h) (va_A (cw h w0) sz)) (va_A (cw h w0) sz)) 1 6 (va_A (cw h w0) sz) := by
  refine kt_of (cc := cD_say) (maxL := 2) (ret := none) (E := "java/lang/IllegalArgumentException") (QcA := fun A => (va_Qv (fun u' => F_D_say w0 a1 = some u') (kb_E D [] (cw h) A) A)) (XA := fun A => (tx_X (fun u' => F_D_say w0 a1 = none ∧ u' = w0) (kb_E D [] (cw h) A) A)) (by decide) (Nat.le_of_ble_eq_true rfl) ?_
  intro p e s m below meth c A hx hb hr hlocks hml hown hts hA hN hT hout hK hP hD ls hl
  have hP0 := hP
  have hD0 := hD
  have hz : s.heap.size ≤ s.heap.size := Nat.le_refl _
  have hQ : ∀ q : Nat, q < s.heap.size → s.heap[q]? = s.heap[q]? := fun _ _ => rfl
  have hS : va_S A s.heap s.heap [] := va_S.rf
  have hl : lv_has ls 2 [(0, .ref (h 0)), (1, .int a1)] := hl
  have e : F_D_say w0 a1 = F_D_say w0 a1 := rfl
  refine lv_iload_n hx hb dD_say_0 rfl (lv_at hl 1 rfl) ?_
  by_cases c_1 : a1 = 0
  · have e := e.trans (if_pos c_1)
    refine lv_tableIn (tgt := 28) hx hb dD_say_1 (by rw [c_1]; decide) (by rw [c_1]; decide) (by rw [c_1]; rfl) (by decide) ?_
    refine lv_aload_n hx hb dD_say_28 rfl (lv_at hl 0 rfl) ?_
    refine va_get (D := D) (ci := 0) (v := .ref (h 2)) (C := "BoilerDesk") (T := TD) (N := 13) hx hb hts inD hown hK hP 0 rfl rfl 1 (by decide) (hts _ q_273) (fun _ h9 => h9) rfl dD_say_29 ?_
    refine lv_iconst (v := 1) hx hb dD_say_32 (by decide) ?_
    refine kb_put (D := D) (wf := cw h) (w' := (up w0 20 1)) (ci := 1) (v := .int 1) (ty := .boolean) (C := "BoilerDesk$Inbox") (T := TI) (N := 12) hx hb hts inI tyI tyI_ok nmI hown hK hP hD hS 2 rfl rfl 7 (by decide) (hts _ q_119) (fun _ h9 => h9) rfl (by decide +kernel) rfl rfl (Nat.le_of_ble_eq_true rfl) dD_say_33 rfl (fun H locs hP hD hS => ?_)
    refine lv_goto (tgt := 71) hx hb dD_say_36 (by decide) ?_
    exact tx_ret (W.widen (k := 1) (n := 6) (Nat.le_of_ble_eq_true rfl) (Nat.le_of_ble_eq_true rfl) (kb_vret (wf := cw h) hx hb hr hlocks hK hP hD hS e dD_say_71))
  · have e := e.trans (if_neg c_1)
    by_cases c_2 : a1 = 1
    · have e := e.trans (if_pos c_2)
      refine lv_tableIn (tgt := 39) hx hb dD_say_1 (by rw [c_2]; decide) (by rw [c_2]; decide) (by rw [c_2]; rfl) (by decide) ?_
      refine lv_aload_n hx hb dD_say_39 rfl (lv_at hl 0 rfl) ?_
      refine va_get (D := D) (ci := 0) (v := .ref (h 2)) (C := "BoilerDesk") (T := TD) (N := 13) hx hb hts inD hown hK hP 0 rfl rfl 1 (by decide) (hts _ q_273) (fun _ h9 => h9) rfl dD_say_40 ?_
      refine lv_iconst (v := 1) hx hb dD_say_43 (by decide) ?_
      refine kb_put (D := D) (wf := cw h) (w' := (up w0 21 1)) (ci := 1) (v := .int 1) (ty := .boolean) (C := "BoilerDesk$Inbox") (T := TI) (N := 12) hx hb hts inI tyI tyI_ok nmI hown hK hP hD hS 2 rfl rfl 8 (by decide) (hts _ q_121) (fun _ h9 => h9) rfl (by decide +kernel) rfl rfl (Nat.le_of_ble_eq_true rfl) dD_say_44 rfl (fun H locs hP hD hS => ?_)
      refine lv_goto (tgt := 71) hx hb dD_say_47 (by decide) ?_
      exact tx_ret (W.widen (k := 1) (n := 6) (Nat.le_of_ble_eq_true rfl) (Nat.le_of_ble_eq_true rfl) (kb_vret (wf := cw h) hx hb hr hlocks hK hP hD hS e dD_say_71))
    · have e := e.trans (if_neg c_2)
      by_cases c_3 : a1 = 2
      · have e := e.trans (if_pos c_3)
        refine lv_tableIn (tgt := 50) hx hb dD_say_1 (by rw [c_3]; decide) (by rw [c_3]; decide) (by rw [c_3]; rfl) (by decide) ?_
        refine lv_aload_n hx hb dD_say_50 rfl (lv_at hl 0 rfl) ?_
        refine va_get (D := D) (ci := 0) (v := .ref (h 2)) (C := "BoilerDesk") (T := TD) (N := 13) hx hb hts inD hown hK hP 0 rfl rfl 1 (by decide) (hts _ q_273) (fun _ h9 => h9) rfl dD_say_51 ?_
        refine lv_iconst (v := 1) hx hb dD_say_54 (by decide) ?_
        refine kb_put (D := D) (wf := cw h) (w' := (up w0 22 1)) (ci := 1) (v := .int 1) (ty := .boolean) (C := "BoilerDesk$Inbox") (T := TI) (N := 12) hx hb hts inI tyI tyI_ok nmI hown hK hP hD hS 2 rfl rfl 9 (by decide) (hts _ q_123) (fun _ h9 => h9) rfl (by decide +kernel) rfl rfl (Nat.le_of_ble_eq_true rfl) dD_say_55 rfl (fun H locs hP hD hS => ?_)
        refine lv_goto (tgt := 71) hx hb dD_say_58 (by decide) ?_
        exact tx_ret (W.widen (k := 1) (n := 6) (Nat.le_of_ble_eq_true rfl) (Nat.le_of_ble_eq_true rfl) (kb_vret (wf := cw h) hx hb hr hlocks hK hP hD hS e dD_say_71))
      · have e := e.trans (if_neg c_3)
        have h9 : (a1).toInt < 0 ∨ 2 < (a1).toInt := by
          have t0 := ne_ti c_1 (j := 0) (by decide)
          have t1 := ne_ti c_2 (j := 1) (by decide)
          have t2 := ne_ti c_3 (j := 2) (by decide)
          omega
        refine lv_tableOut (tgt := 61) hx hb dD_say_1 h9 (by decide) ?_
        exact kt_throw (names := kt_up) hx hb hl0 hown (by decide +kernel) (by decide +kernel) (hts _ q_339) (hts _ q_44) (fun w hw => kt_word hN hT (kt_iae w hw)) (hT.1.2 (124, "there is no such message") (by decide)) hz (hl.1.trans hml.symm) hout hlocks dD_say_61 dD_say_64 dD_say_65 dD_say_67 dD_say_70 (Nat.le_of_ble_eq_true rfl) (Nat.le_of_ble_eq_true rfl) (Nat.le_of_ble_eq_true rfl) (Nat.le_of_ble_eq_true rfl) (kt_xc e hP0 hK hD0) (Nat.le_of_ble_eq_true rfl) (Nat.le_of_ble_eq_true rfl)
/-- BoilerDesk.unit(IZ)V -/
def F_D_unit (w0 : Nat → Int32) (a1 : Int32) (a2 : Int32) : Option (Nat → Int32) := (if a1 < (0 : Int32) then none else (if a1 < (10 : Int32) then (if a2 = (0 : Int32) then (some (up w0 24 (F_D_withBit (w0 24) a1 (1 : Int32)))) else (some (up w0 23 (F_D_withBit (w0 23) a1 (1 : Int32))))) else none))
set_option maxHeartbeats 4000000 in
set_option maxRecDepth 100000 in
theorem c_D_unit (l : Launch) (hl0 : l.stackTraces = false) (D : va_G) (h : Nat → Nat) (sz : Nat) (w0 : Nat → Int32) (a1 : Int32) (a2 : Int32) (z2 : a2 = 0 ∨ a2 = 1) : tx_Met l yD_unit [.code yD_unit cD_unit 3 none] ({ frames := 7, cells := 1, slots := 6, locals := 120 }) (va_Pc [.ref (h 0), .int a1, .int a2] (kt_B D [] (cw h) w0 sz)) (va_Qv (fun u' => F_D_unit w0 a1 a2 = some u') (kb_E D [] (cw h) (va_A (cw h w0) sz)) (va_A (cw h w0) sz)) "java/lang/IllegalArgumentException" (tx_X (fun u' => F_D_unit w0 a1 a2 = none ∧ u' = w0) (kb_E D [] (cw h) (va_A (cw h w0) sz)) (va_A (cw h w0) sz)) 1 6 (va_A (cw h w0) sz) := by
  refine kt_of (cc := cD_unit) (maxL := 3) (ret := none) (E := "java/lang/IllegalArgumentException") (QcA := fun A => (va_Qv (fun u' => F_D_unit w0 a1 a2 = some u') (kb_E D [] (cw h) A) A)) (XA := fun A => (tx_X (fun u' => F_D_unit w0 a1 a2 = none ∧ u' = w0) (kb_E D [] (cw h) A) A)) (by decide) (Nat.le_of_ble_eq_true rfl) ?_
  intro p e s m below meth c A hx hb hr hlocks hml hown hts hA hN hT hout hK hP hD ls hl
  have hP0 := hP
  have hD0 := hD
  have hz : s.heap.size ≤ s.heap.size := Nat.le_refl _
  have hQ : ∀ q : Nat, q < s.heap.size → s.heap[q]? = s.heap[q]? := fun _ _ => rfl
  have hS : va_S A s.heap s.heap [] := va_S.rf
  have hl : lv_has ls 3 [(0, .ref (h 0)), (1, .int a1), (2, .int a2)] := hl
  have e : F_D_unit w0 a1 a2 = F_D_unit w0 a1 a2 := rfl
  refine lv_iload_n hx hb dD_unit_0 rfl (lv_at hl 1 rfl) ?_
  refine lv_if_lt (tgt := 10) hx hb dD_unit_1 (by decide) (fun c_1 => ?_) (fun c_1 => ?_)
  · have e := e.trans (if_pos c_1)
    exact kt_throw (names := kt_up) hx hb hl0 hown (by decide +kernel) (by decide +kernel) (hts _ q_339) (hts _ q_44) (fun w hw => kt_word hN hT (kt_iae w hw)) (hT.1.2 (126, "there is no such unit") (by decide)) hz (hl.1.trans hml.symm) hout hlocks dD_unit_10 dD_unit_13 dD_unit_14 dD_unit_16 dD_unit_19 (Nat.le_of_ble_eq_true rfl) (Nat.le_of_ble_eq_true rfl) (Nat.le_of_ble_eq_true rfl) (Nat.le_of_ble_eq_true rfl) (kt_xc e hP0 hK hD0) (Nat.le_of_ble_eq_true rfl) (Nat.le_of_ble_eq_true rfl)
  · have e := e.trans (if_neg c_1)
    refine lv_iload_n hx hb dD_unit_4 rfl (lv_at hl 1 rfl) ?_
    refine lv_bipush (v := 10) hx hb dD_unit_5 (by decide) ?_
    refine lv_icmp_lt (tgt := 20) hx hb dD_unit_7 (by decide) (fun c_2 => ?_) (fun c_2 => ?_)
    · have e := e.trans (if_pos c_2)
      refine lv_iload_n hx hb dD_unit_20 rfl (lv_at hl 2 rfl) ?_
      refine lv_if_eq (tgt := 46) hx hb dD_unit_21 (by decide) (fun c_3 => ?_) (fun c_3 => ?_)
      · have e := e.trans (if_pos c_3)
        refine lv_aload_n hx hb dD_unit_46 rfl (lv_at hl 0 rfl) ?_
        refine va_get (D := D) (ci := 0) (v := .ref (h 2)) (C := "BoilerDesk") (T := TD) (N := 13) hx hb hts inD hown hK hP 0 rfl rfl 1 (by decide) (hts _ q_273) (fun _ h9 => h9) rfl dD_unit_47 ?_
        refine lv_aload_n hx hb dD_unit_50 rfl (lv_at hl 0 rfl) ?_
        refine va_get (D := D) (ci := 0) (v := .ref (h 2)) (C := "BoilerDesk") (T := TD) (N := 13) hx hb hts inD hown hK hP 0 rfl rfl 1 (by decide) (hts _ q_273) (fun _ h9 => h9) rfl dD_unit_51 ?_
        refine va_get (D := D) (ci := 1) (v := .int (w0 24)) (C := "BoilerDesk$Inbox") (T := TI) (N := 12) hx hb hts inI hown hK hP 2 rfl rfl 11 (by decide) (hts _ q_127) (fun _ h9 => h9) rfl dD_unit_54 ?_
        refine lv_iload_n hx hb dD_unit_57 rfl (lv_at hl 1 rfl) ?_
        refine lv_iconst (v := 1) hx hb dD_unit_58 (by decide) ?_
        refine kb_call0f (r := (F_D_withBit (w0 24) a1 (1 : Int32))) (va_runS (As := [.int (w0 24), .int a1, .int 1]) (rest := [.ref (h 2)]) ⟨hx, hb, hml, hown, hts⟩ (c_D_withBit l D _ (w0 24) a1 (1 : Int32) (by decide)) (va_cwS 3 hts (gd_S q_414 q_415 q_33 q_416) rfl rfl rfl (by decide +kernel) ⟨Nat.le_of_ble_eq_true rfl, Nat.le_of_ble_eq_true rfl⟩) (kb_pre0 hN hK) rfl rfl hl.1 rfl (lv_room (Nat.le_of_ble_eq_true rfl)) dD_unit_59 ⟨Nat.zero_le _, Nat.zero_le _⟩) hP hz hQ (fun H hP hz hQ => ?_)
        have hS : va_S A s.heap H [] := ⟨hz, fun q h _ => hQ q h, fun _ h => nomatch h⟩
        refine kb_put (D := D) (wf := cw h) (w' := (up w0 24 (F_D_withBit (w0 24) a1 (1 : Int32)))) (ci := 1) (v := .int (F_D_withBit (w0 24) a1 (1 : Int32))) (ty := .int) (C := "BoilerDesk$Inbox") (T := TI) (N := 12) hx hb hts inI tyI tyI_ok nmI hown hK hP hD hS 2 rfl rfl 11 (by decide) (hts _ q_127) (fun _ h9 => h9) rfl (by decide +kernel) rfl rfl (Nat.le_of_ble_eq_true rfl) dD_unit_62 rfl (fun H locs hP hD hS => ?_)
        exact tx_ret (W.widen (k := 1) (n := 6) (Nat.le_of_ble_eq_true rfl) (Nat.le_of_ble_eq_true rfl) (kb_vret (wf := cw h) hx hb hr hlocks hK hP hD hS e dD_unit_65))
      · have e := e.trans (if_neg c_3)
        refine lv_aload_n hx hb dD_unit_24 rfl (lv_at hl 0 rfl) ?_
        refine va_get (D := D) (ci := 0) (v := .ref (h 2)) (C := "BoilerDesk") (T := TD) (N := 13) hx hb hts inD hown hK hP 0 rfl rfl 1 (by decide) (hts _ q_273) (fun _ h9 => h9) rfl dD_unit_25 ?_
        refine lv_aload_n hx hb dD_unit_28 rfl (lv_at hl 0 rfl) ?_
        refine va_get (D := D) (ci := 0) (v := .ref (h 2)) (C := "BoilerDesk") (T := TD) (N := 13) hx hb hts inD hown hK hP 0 rfl rfl 1 (by decide) (hts _ q_273) (fun _ h9 => h9) rfl dD_unit_29 ?_
        refine va_get (D := D) (ci := 1) (v := .int (w0 23)) (C := "BoilerDesk$Inbox") (T := TI) (N := 12) hx hb hts inI hown hK hP 2 rfl rfl 10 (by decide) (hts _ q_125) (fun _ h9 => h9) rfl dD_unit_32 ?_
        refine lv_iload_n hx hb dD_unit_35 rfl (lv_at hl 1 rfl) ?_
        refine lv_iconst (v := 1) hx hb dD_unit_36 (by decide) ?_
        refine kb_call0f (r := (F_D_withBit (w0 23) a1 (1 : Int32))) (va_runS (As := [.int (w0 23), .int a1, .int 1]) (rest := [.ref (h 2)]) ⟨hx, hb, hml, hown, hts⟩ (c_D_withBit l D _ (w0 23) a1 (1 : Int32) (by decide)) (va_cwS 3 hts (gd_S q_414 q_415 q_33 q_416) rfl rfl rfl (by decide +kernel) ⟨Nat.le_of_ble_eq_true rfl, Nat.le_of_ble_eq_true rfl⟩) (kb_pre0 hN hK) rfl rfl hl.1 rfl (lv_room (Nat.le_of_ble_eq_true rfl)) dD_unit_37 ⟨Nat.zero_le _, Nat.zero_le _⟩) hP hz hQ (fun H hP hz hQ => ?_)
        have hS : va_S A s.heap H [] := ⟨hz, fun q h _ => hQ q h, fun _ h => nomatch h⟩
        refine kb_put (D := D) (wf := cw h) (w' := (up w0 23 (F_D_withBit (w0 23) a1 (1 : Int32)))) (ci := 1) (v := .int (F_D_withBit (w0 23) a1 (1 : Int32))) (ty := .int) (C := "BoilerDesk$Inbox") (T := TI) (N := 12) hx hb hts inI tyI tyI_ok nmI hown hK hP hD hS 2 rfl rfl 10 (by decide) (hts _ q_125) (fun _ h9 => h9) rfl (by decide +kernel) rfl rfl (Nat.le_of_ble_eq_true rfl) dD_unit_40 rfl (fun H locs hP hD hS => ?_)
        refine lv_goto (tgt := 65) hx hb dD_unit_43 (by decide) ?_
        exact tx_ret (W.widen (k := 1) (n := 6) (Nat.le_of_ble_eq_true rfl) (Nat.le_of_ble_eq_true rfl) (kb_vret (wf := cw h) hx hb hr hlocks hK hP hD hS e dD_unit_65))
    · have e := e.trans (if_neg c_2)
      exact kt_throw (names := kt_up) hx hb hl0 hown (by decide +kernel) (by decide +kernel) (hts _ q_339) (hts _ q_44) (fun w hw => kt_word hN hT (kt_iae w hw)) (hT.1.2 (126, "there is no such unit") (by decide)) hz (hl.1.trans hml.symm) hout hlocks dD_unit_10 dD_unit_13 dD_unit_14 dD_unit_16 dD_unit_19 (Nat.le_of_ble_eq_true rfl) (Nat.le_of_ble_eq_true rfl) (Nat.le_of_ble_eq_true rfl) (Nat.le_of_ble_eq_true rfl) (kt_xc e hP0 hK hD0) (Nat.le_of_ble_eq_true rfl) (Nat.le_of_ble_eq_true rfl)
/-- BoilerDesk.cycle()I -/
def F_D_cycle (w0 : Nat → Int32)  : Option (Int32 × (Nat → Int32)) := (if (w0 1) < (1000000 : Int32) then (if (F_R_clear (up w0 1 ((w0 1) + (1 : Int32))) 0) = (4 : Int32) then (some ((F_I_clear (F_R_clear (up w0 1 ((w0 1) + (1 : Int32)))) 0), (F_I_clear (F_R_clear (up w0 1 ((w0 1) + (1 : Int32))))))) else (some ((F_I_clear (F_D_runSteps (F_R_clear (up w0 1 ((w0 1) + (1 : Int32))))) 0), (F_I_clear (F_D_runSteps (F_R_clear (up w0 1 ((w0 1) + (1 : Int32))))))))) else none)
set_option maxHeartbeats 4000000 in
set_option maxRecDepth 100000 in
theorem c_D_cycle (l : Launch) (hl0 : l.stackTraces = false) (D : va_G) (h : Nat → Nat) (sz : Nat) (w0 : Nat → Int32)   : tx_Met l yD_cycle [.code yD_cycle cD_cycle 1 (some .int)] ({ frames := 7, cells := 1, slots := 6, locals := 120 }) (va_Pc [.ref (h 0)] (kt_B D [] (cw h) w0 sz)) (va_Qi (fun r' u' => F_D_cycle w0 = some (r', u')) (kb_E D [] (cw h) (va_A (cw h w0) sz)) (va_A (cw h w0) sz)) "java/lang/IllegalStateException" (tx_X (fun u' => F_D_cycle w0 = none ∧ u' = w0) (kb_E D [] (cw h) (va_A (cw h w0) sz)) (va_A (cw h w0) sz)) 1 6 (va_A (cw h w0) sz) := by
  refine kt_of (cc := cD_cycle) (maxL := 1) (ret := (some .int)) (E := "java/lang/IllegalStateException") (QcA := fun A => (va_Qi (fun r' u' => F_D_cycle w0 = some (r', u')) (kb_E D [] (cw h) A) A)) (XA := fun A => (tx_X (fun u' => F_D_cycle w0 = none ∧ u' = w0) (kb_E D [] (cw h) A) A)) (by decide) (Nat.le_of_ble_eq_true rfl) ?_
  intro p e s m below meth c A hx hb hr hlocks hml hown hts hA hN hT hout hK hP hD ls hl
  have hP0 := hP
  have hD0 := hD
  have hz : s.heap.size ≤ s.heap.size := Nat.le_refl _
  have hQ : ∀ q : Nat, q < s.heap.size → s.heap[q]? = s.heap[q]? := fun _ _ => rfl
  have hS : va_S A s.heap s.heap [] := va_S.rf
  have hl : lv_has ls 1 [(0, .ref (h 0))] := hl
  have e : F_D_cycle w0 = F_D_cycle w0 := rfl
  refine lv_aload_n hx hb dD_cycle_0 rfl (lv_at hl 0 rfl) ?_
  refine va_get (D := D) (ci := 0) (v := .int (w0 1)) (C := "BoilerDesk") (T := TD) (N := 13) hx hb hts inD hown hK hP 0 rfl rfl 10 (by decide) (hts _ q_282) (fun _ h9 => h9) rfl dD_cycle_1 ?_
  refine lv_ldc (v := 1000000) hx hb hown (hts _ q_331) dD_cycle_4 ?_
  refine lv_icmp_lt (tgt := 19) hx hb dD_cycle_6 (by decide) (fun c_1 => ?_) (fun c_1 => ?_)
  · have e := e.trans (if_pos c_1)
    refine lv_aload_n hx hb dD_cycle_19 rfl (lv_at hl 0 rfl) ?_
    refine lv_dup hx hb dD_cycle_20 rfl ?_
    refine va_get (D := D) (ci := 0) (v := .int (w0 1)) (C := "BoilerDesk") (T := TD) (N := 13) hx hb hts inD hown hK hP 0 rfl rfl 10 (by decide) (hts _ q_282) (fun _ h9 => h9) rfl dD_cycle_21 ?_
    refine lv_iconst (v := 1) hx hb dD_cycle_24 (by decide) ?_
    refine lv_iadd hx hb dD_cycle_25 ?_
    refine kb_put (D := D) (wf := cw h) (w' := (up w0 1 ((w0 1) + (1 : Int32)))) (ci := 0) (v := .int ((w0 1) + (1 : Int32))) (ty := .int) (C := "BoilerDesk") (T := TD) (N := 13) hx hb hts inD tyD tyD_ok nmD hown hK hP hD hS 0 rfl rfl 10 (by decide) (hts _ q_282) (fun _ h9 => h9) rfl (by decide +kernel) rfl rfl (Nat.le_of_ble_eq_true rfl) dD_cycle_26 rfl (fun H locs hP hD hS => ?_)
    refine lv_aload_n hx hb dD_cycle_29 rfl (lv_at hl 0 rfl) ?_
    refine va_get (D := D) (ci := 0) (v := .ref (h 5)) (C := "BoilerDesk") (T := TD) (N := 13) hx hb hts inD hown hK hP 0 rfl rfl 4 (by decide) (hts _ q_276) (fun _ h9 => h9) rfl dD_cycle_30 ?_
    refine kb_callv (wf := cw h) (u := F_R_clear (up w0 1 ((w0 1) + (1 : Int32)))) (va_runV (As := []) (rest := []) ⟨hx, hb, hml, hown, hts⟩ (c_R_clear l D h _ (up w0 1 ((w0 1) + (1 : Int32)))) (cwV 0 hts (gd_V q_264 q_265 q_266 q_38 q_267) rfl rfl rfl (by decide +kernel) ⟨Nat.le_of_ble_eq_true rfl, Nat.le_of_ble_eq_true rfl⟩) (kb_preV hN hK hP hD (va_recv hK hP (ci := 4) (q0 := 5) rfl rfl)) rfl rfl hl.1 rfl (lv_room (Nat.le_of_ble_eq_true rfl)) dD_cycle_33 ⟨Nat.zero_le _, Nat.zero_le _⟩) hP hD hS hA (fun H locs hP hD hS => ?_)
    refine lv_aload_n hx hb dD_cycle_36 rfl (lv_at hl 0 rfl) ?_
    refine va_get (D := D) (ci := 0) (v := .int (F_R_clear (up w0 1 ((w0 1) + (1 : Int32))) 0)) (C := "BoilerDesk") (T := TD) (N := 13) hx hb hts inD hown hK hP 0 rfl rfl 9 (by decide) (hts _ q_281) (fun _ h9 => h9) rfl dD_cycle_37 ?_
    refine lv_iconst (v := 4) hx hb dD_cycle_40 (by decide) ?_
    refine lv_icmp_eq (tgt := 48) hx hb dD_cycle_41 (by decide) (fun c_2 => ?_) (fun c_2 => ?_)
    · have e := e.trans (if_pos c_2)
      refine lv_aload_n hx hb dD_cycle_48 rfl (lv_at hl 0 rfl) ?_
      refine va_get (D := D) (ci := 0) (v := .ref (h 2)) (C := "BoilerDesk") (T := TD) (N := 13) hx hb hts inD hown hK hP 0 rfl rfl 1 (by decide) (hts _ q_273) (fun _ h9 => h9) rfl dD_cycle_49 ?_
      refine kb_callv (wf := cw h) (u := F_I_clear (F_R_clear (up w0 1 ((w0 1) + (1 : Int32))))) (va_runV (As := []) (rest := []) ⟨hx, hb, hml, hown, hts⟩ (c_I_clear l D h _ (F_R_clear (up w0 1 ((w0 1) + (1 : Int32))))) (cwV 0 hts (gd_V q_252 q_253 q_254 q_35 q_255) rfl rfl rfl (by decide +kernel) ⟨Nat.le_of_ble_eq_true rfl, Nat.le_of_ble_eq_true rfl⟩) (kb_preV hN hK hP hD (va_recv hK hP (ci := 1) (q0 := 2) rfl rfl)) rfl rfl hl.1 rfl (lv_room (Nat.le_of_ble_eq_true rfl)) dD_cycle_52 ⟨Nat.zero_le _, Nat.zero_le _⟩) hP hD hS hA (fun H locs hP hD hS => ?_)
      refine lv_aload_n hx hb dD_cycle_55 rfl (lv_at hl 0 rfl) ?_
      refine va_get (D := D) (ci := 0) (v := .int (F_I_clear (F_R_clear (up w0 1 ((w0 1) + (1 : Int32)))) 0)) (C := "BoilerDesk") (T := TD) (N := 13) hx hb hts inD hown hK hP 0 rfl rfl 9 (by decide) (hts _ q_281) (fun _ h9 => h9) rfl dD_cycle_56 ?_
      exact tx_ret (W.widen (k := 1) (n := 6) (Nat.le_of_ble_eq_true rfl) (Nat.le_of_ble_eq_true rfl) (kb_iret (wf := cw h) hx hb hr hlocks hK hP hD hS e dD_cycle_59))
    · have e := e.trans (if_neg c_2)
      refine lv_aload_n hx hb dD_cycle_44 rfl (lv_at hl 0 rfl) ?_
      refine kb_callv (wf := cw h) (u := F_D_runSteps (F_R_clear (up w0 1 ((w0 1) + (1 : Int32))))) (va_runV (As := []) (rest := []) ⟨hx, hb, hml, hown, hts⟩ (c_D_runSteps l D h _ (F_R_clear (up w0 1 ((w0 1) + (1 : Int32))))) (cwV 0 hts (gd_V q_457 q_459 q_2 q_33 q_460) rfl rfl rfl (by decide +kernel) ⟨Nat.le_of_ble_eq_true rfl, Nat.le_of_ble_eq_true rfl⟩) (kb_preV hN hK hP hD (va_recv hK hP (ci := 0) (q0 := 0) rfl rfl)) rfl rfl hl.1 rfl (lv_room (Nat.le_of_ble_eq_true rfl)) dD_cycle_45 ⟨Nat.zero_le _, Nat.zero_le _⟩) hP hD hS hA (fun H locs hP hD hS => ?_)
      refine lv_aload_n hx hb dD_cycle_48 rfl (lv_at hl 0 rfl) ?_
      refine va_get (D := D) (ci := 0) (v := .ref (h 2)) (C := "BoilerDesk") (T := TD) (N := 13) hx hb hts inD hown hK hP 0 rfl rfl 1 (by decide) (hts _ q_273) (fun _ h9 => h9) rfl dD_cycle_49 ?_
      refine kb_callv (wf := cw h) (u := F_I_clear (F_D_runSteps (F_R_clear (up w0 1 ((w0 1) + (1 : Int32)))))) (va_runV (As := []) (rest := []) ⟨hx, hb, hml, hown, hts⟩ (c_I_clear l D h _ (F_D_runSteps (F_R_clear (up w0 1 ((w0 1) + (1 : Int32)))))) (cwV 0 hts (gd_V q_252 q_253 q_254 q_35 q_255) rfl rfl rfl (by decide +kernel) ⟨Nat.le_of_ble_eq_true rfl, Nat.le_of_ble_eq_true rfl⟩) (kb_preV hN hK hP hD (va_recv hK hP (ci := 1) (q0 := 2) rfl rfl)) rfl rfl hl.1 rfl (lv_room (Nat.le_of_ble_eq_true rfl)) dD_cycle_52 ⟨Nat.zero_le _, Nat.zero_le _⟩) hP hD hS hA (fun H locs hP hD hS => ?_)
      refine lv_aload_n hx hb dD_cycle_55 rfl (lv_at hl 0 rfl) ?_
      refine va_get (D := D) (ci := 0) (v := .int (F_I_clear (F_D_runSteps (F_R_clear (up w0 1 ((w0 1) + (1 : Int32))))) 0)) (C := "BoilerDesk") (T := TD) (N := 13) hx hb hts inD hown hK hP 0 rfl rfl 9 (by decide) (hts _ q_281) (fun _ h9 => h9) rfl dD_cycle_56 ?_
      exact tx_ret (W.widen (k := 1) (n := 6) (Nat.le_of_ble_eq_true rfl) (Nat.le_of_ble_eq_true rfl) (kb_iret (wf := cw h) hx hb hr hlocks hK hP hD hS e dD_cycle_59))
  · have e := e.trans (if_neg c_1)
    exact kt_throw (names := kt_up) hx hb hl0 hown (by decide +kernel) (by decide +kernel) (hts _ q_441) (hts _ q_45) (fun w hw => kt_word hN hT (kt_ise w hw)) (hT.1.2 (140, "there were too many cycles") (by decide)) hz (hl.1.trans hml.symm) hout hlocks dD_cycle_9 dD_cycle_12 dD_cycle_13 dD_cycle_15 dD_cycle_18 (Nat.le_of_ble_eq_true rfl) (Nat.le_of_ble_eq_true rfl) (Nat.le_of_ble_eq_true rfl) (Nat.le_of_ble_eq_true rfl) (kt_xc e hP0 hK hD0) (Nat.le_of_ble_eq_true rfl) (Nat.le_of_ble_eq_true rfl)
/-- BoilerDesk.told(I)I -/
def F_D_told (w0 : Nat → Int32) (a1 : Int32) : Option (Int32) := (if a1 = 0 then (some ((w0 31) ||| ((w0 32) <<< ((4 : Int32) &&& 31)))) else (if a1 = 1 then (if (w0 33) = (0 : Int32) then (if (w0 34) = (0 : Int32) then (some (0 : Int32)) else (some (2 : Int32))) else (some (1 : Int32))) else (if a1 = 2 then (some (w0 35)) else (if a1 = 3 then (some (w0 36)) else (if a1 = 4 then (if (w0 37) = (0 : Int32) then (some (0 : Int32)) else (some (1 : Int32))) else none)))))
set_option maxHeartbeats 4000000 in
set_option maxRecDepth 100000 in
theorem c_D_told (l : Launch) (hl0 : l.stackTraces = false) (D : va_G) (h : Nat → Nat) (sz : Nat) (w0 : Nat → Int32) (a1 : Int32)  : tx_Met l yD_told [.code yD_told cD_told 2 (some .int)] ({ frames := 7, cells := 1, slots := 6, locals := 120 }) (va_Pc [.ref (h 0), .int a1] (kt_B D [] (cw h) w0 sz)) (va_Qi (fun r' u' => F_D_told w0 a1 = some r' ∧ u' = w0) (kb_E D [] (cw h) (va_A (cw h w0) sz)) (va_A (cw h w0) sz)) "java/lang/IllegalArgumentException" (tx_X (fun u' => F_D_told w0 a1 = none ∧ u' = w0) (kb_E D [] (cw h) (va_A (cw h w0) sz)) (va_A (cw h w0) sz)) 1 6 (va_A (cw h w0) sz) := by
  refine kt_of (cc := cD_told) (maxL := 2) (ret := (some .int)) (E := "java/lang/IllegalArgumentException") (QcA := fun A => (va_Qi (fun r' u' => F_D_told w0 a1 = some r' ∧ u' = w0) (kb_E D [] (cw h) A) A)) (XA := fun A => (tx_X (fun u' => F_D_told w0 a1 = none ∧ u' = w0) (kb_E D [] (cw h) A) A)) (by decide) (Nat.le_of_ble_eq_true rfl) ?_
  intro p e s m below meth c A hx hb hr hlocks hml hown hts hA hN hT hout hK hP hD ls hl
  have hP0 := hP
  have hD0 := hD
  have hz : s.heap.size ≤ s.heap.size := Nat.le_refl _
  have hQ : ∀ q : Nat, q < s.heap.size → s.heap[q]? = s.heap[q]? := fun _ _ => rfl
  have hS : va_S A s.heap s.heap [] := va_S.rf
  have hl : lv_has ls 2 [(0, .ref (h 0)), (1, .int a1)] := hl
  have e : F_D_told w0 a1 = F_D_told w0 a1 := rfl
  refine lv_iload_n hx hb dD_told_0 rfl (lv_at hl 1 rfl) ?_
  by_cases c_1 : a1 = 0
  · have e := e.trans (if_pos c_1)
    refine lv_tableIn (tgt := 36) hx hb dD_told_1 (by rw [c_1]; decide) (by rw [c_1]; decide) (by rw [c_1]; rfl) (by decide) ?_
    refine lv_aload_n hx hb dD_told_36 rfl (lv_at hl 0 rfl) ?_
    refine va_get (D := D) (ci := 0) (v := .ref (h 5)) (C := "BoilerDesk") (T := TD) (N := 13) hx hb hts inD hown hK hP 0 rfl rfl 4 (by decide) (hts _ q_276) (fun _ h9 => h9) rfl dD_told_37 ?_
    refine va_get (D := D) (ci := 4) (v := .int (w0 31)) (C := "BoilerDesk$Report") (T := TR) (N := 7) hx hb hts inR hown hK hP 5 rfl rfl 0 (by decide) (hts _ q_197) (fun _ h9 => h9) rfl dD_told_40 ?_
    refine lv_aload_n hx hb dD_told_43 rfl (lv_at hl 0 rfl) ?_
    refine va_get (D := D) (ci := 0) (v := .ref (h 5)) (C := "BoilerDesk") (T := TD) (N := 13) hx hb hts inD hown hK hP 0 rfl rfl 4 (by decide) (hts _ q_276) (fun _ h9 => h9) rfl dD_told_44 ?_
    refine va_get (D := D) (ci := 4) (v := .int (w0 32)) (C := "BoilerDesk$Report") (T := TR) (N := 7) hx hb hts inR hown hK hP 5 rfl rfl 1 (by decide) (hts _ q_199) (fun _ h9 => h9) rfl dD_told_47 ?_
    refine lv_iconst (v := 4) hx hb dD_told_50 (by decide) ?_
    refine lv_ishl hx hb dD_told_51 ?_
    refine lv_ior hx hb dD_told_52 ?_
    exact tx_ret (W.widen (k := 1) (n := 6) (Nat.le_of_ble_eq_true rfl) (Nat.le_of_ble_eq_true rfl) (kb_iret (wf := cw h) hx hb hr hlocks hK hP hD hS ⟨e, rfl⟩ dD_told_53))
  · have e := e.trans (if_neg c_1)
    by_cases c_2 : a1 = 1
    · have e := e.trans (if_pos c_2)
      refine lv_tableIn (tgt := 54) hx hb dD_told_1 (by rw [c_2]; decide) (by rw [c_2]; decide) (by rw [c_2]; rfl) (by decide) ?_
      refine lv_aload_n hx hb dD_told_54 rfl (lv_at hl 0 rfl) ?_
      refine va_get (D := D) (ci := 0) (v := .ref (h 5)) (C := "BoilerDesk") (T := TD) (N := 13) hx hb hts inD hown hK hP 0 rfl rfl 4 (by decide) (hts _ q_276) (fun _ h9 => h9) rfl dD_told_55 ?_
      refine va_get (D := D) (ci := 4) (v := .int (w0 33)) (C := "BoilerDesk$Report") (T := TR) (N := 7) hx hb hts inR hown hK hP 5 rfl rfl 2 (by decide) (hts _ q_201) (fun _ h9 => h9) rfl dD_told_58 ?_
      refine lv_if_eq (tgt := 68) hx hb dD_told_61 (by decide) (fun c_3 => ?_) (fun c_3 => ?_)
      · have e := e.trans (if_pos c_3)
        refine lv_aload_n hx hb dD_told_68 rfl (lv_at hl 0 rfl) ?_
        refine va_get (D := D) (ci := 0) (v := .ref (h 5)) (C := "BoilerDesk") (T := TD) (N := 13) hx hb hts inD hown hK hP 0 rfl rfl 4 (by decide) (hts _ q_276) (fun _ h9 => h9) rfl dD_told_69 ?_
        refine va_get (D := D) (ci := 4) (v := .int (w0 34)) (C := "BoilerDesk$Report") (T := TR) (N := 7) hx hb hts inR hown hK hP 5 rfl rfl 3 (by decide) (hts _ q_203) (fun _ h9 => h9) rfl dD_told_72 ?_
        refine lv_if_eq (tgt := 82) hx hb dD_told_75 (by decide) (fun c_4 => ?_) (fun c_4 => ?_)
        · have e := e.trans (if_pos c_4)
          refine lv_iconst (v := 0) hx hb dD_told_82 (by decide) ?_
          exact tx_ret (W.widen (k := 1) (n := 6) (Nat.le_of_ble_eq_true rfl) (Nat.le_of_ble_eq_true rfl) (kb_iret (wf := cw h) hx hb hr hlocks hK hP hD hS ⟨e, rfl⟩ dD_told_83))
        · have e := e.trans (if_neg c_4)
          refine lv_iconst (v := 2) hx hb dD_told_78 (by decide) ?_
          refine lv_goto (tgt := 83) hx hb dD_told_79 (by decide) ?_
          exact tx_ret (W.widen (k := 1) (n := 6) (Nat.le_of_ble_eq_true rfl) (Nat.le_of_ble_eq_true rfl) (kb_iret (wf := cw h) hx hb hr hlocks hK hP hD hS ⟨e, rfl⟩ dD_told_83))
      · have e := e.trans (if_neg c_3)
        refine lv_iconst (v := 1) hx hb dD_told_64 (by decide) ?_
        refine lv_goto (tgt := 83) hx hb dD_told_65 (by decide) ?_
        exact tx_ret (W.widen (k := 1) (n := 6) (Nat.le_of_ble_eq_true rfl) (Nat.le_of_ble_eq_true rfl) (kb_iret (wf := cw h) hx hb hr hlocks hK hP hD hS ⟨e, rfl⟩ dD_told_83))
    · have e := e.trans (if_neg c_2)
      by_cases c_5 : a1 = 2
      · have e := e.trans (if_pos c_5)
        refine lv_tableIn (tgt := 84) hx hb dD_told_1 (by rw [c_5]; decide) (by rw [c_5]; decide) (by rw [c_5]; rfl) (by decide) ?_
        refine lv_aload_n hx hb dD_told_84 rfl (lv_at hl 0 rfl) ?_
        refine va_get (D := D) (ci := 0) (v := .ref (h 5)) (C := "BoilerDesk") (T := TD) (N := 13) hx hb hts inD hown hK hP 0 rfl rfl 4 (by decide) (hts _ q_276) (fun _ h9 => h9) rfl dD_told_85 ?_
        refine va_get (D := D) (ci := 4) (v := .int (w0 35)) (C := "BoilerDesk$Report") (T := TR) (N := 7) hx hb hts inR hown hK hP 5 rfl rfl 4 (by decide) (hts _ q_205) (fun _ h9 => h9) rfl dD_told_88 ?_
        exact tx_ret (W.widen (k := 1) (n := 6) (Nat.le_of_ble_eq_true rfl) (Nat.le_of_ble_eq_true rfl) (kb_iret (wf := cw h) hx hb hr hlocks hK hP hD hS ⟨e, rfl⟩ dD_told_91))
      · have e := e.trans (if_neg c_5)
        by_cases c_6 : a1 = 3
        · have e := e.trans (if_pos c_6)
          refine lv_tableIn (tgt := 92) hx hb dD_told_1 (by rw [c_6]; decide) (by rw [c_6]; decide) (by rw [c_6]; rfl) (by decide) ?_
          refine lv_aload_n hx hb dD_told_92 rfl (lv_at hl 0 rfl) ?_
          refine va_get (D := D) (ci := 0) (v := .ref (h 5)) (C := "BoilerDesk") (T := TD) (N := 13) hx hb hts inD hown hK hP 0 rfl rfl 4 (by decide) (hts _ q_276) (fun _ h9 => h9) rfl dD_told_93 ?_
          refine va_get (D := D) (ci := 4) (v := .int (w0 36)) (C := "BoilerDesk$Report") (T := TR) (N := 7) hx hb hts inR hown hK hP 5 rfl rfl 5 (by decide) (hts _ q_207) (fun _ h9 => h9) rfl dD_told_96 ?_
          exact tx_ret (W.widen (k := 1) (n := 6) (Nat.le_of_ble_eq_true rfl) (Nat.le_of_ble_eq_true rfl) (kb_iret (wf := cw h) hx hb hr hlocks hK hP hD hS ⟨e, rfl⟩ dD_told_99))
        · have e := e.trans (if_neg c_6)
          by_cases c_7 : a1 = 4
          · have e := e.trans (if_pos c_7)
            refine lv_tableIn (tgt := 100) hx hb dD_told_1 (by rw [c_7]; decide) (by rw [c_7]; decide) (by rw [c_7]; rfl) (by decide) ?_
            refine lv_aload_n hx hb dD_told_100 rfl (lv_at hl 0 rfl) ?_
            refine va_get (D := D) (ci := 0) (v := .ref (h 5)) (C := "BoilerDesk") (T := TD) (N := 13) hx hb hts inD hown hK hP 0 rfl rfl 4 (by decide) (hts _ q_276) (fun _ h9 => h9) rfl dD_told_101 ?_
            refine va_get (D := D) (ci := 4) (v := .int (w0 37)) (C := "BoilerDesk$Report") (T := TR) (N := 7) hx hb hts inR hown hK hP 5 rfl rfl 6 (by decide) (hts _ q_209) (fun _ h9 => h9) rfl dD_told_104 ?_
            refine lv_if_eq (tgt := 114) hx hb dD_told_107 (by decide) (fun c_8 => ?_) (fun c_8 => ?_)
            · have e := e.trans (if_pos c_8)
              refine lv_iconst (v := 0) hx hb dD_told_114 (by decide) ?_
              exact tx_ret (W.widen (k := 1) (n := 6) (Nat.le_of_ble_eq_true rfl) (Nat.le_of_ble_eq_true rfl) (kb_iret (wf := cw h) hx hb hr hlocks hK hP hD hS ⟨e, rfl⟩ dD_told_115))
            · have e := e.trans (if_neg c_8)
              refine lv_iconst (v := 1) hx hb dD_told_110 (by decide) ?_
              refine lv_goto (tgt := 115) hx hb dD_told_111 (by decide) ?_
              exact tx_ret (W.widen (k := 1) (n := 6) (Nat.le_of_ble_eq_true rfl) (Nat.le_of_ble_eq_true rfl) (kb_iret (wf := cw h) hx hb hr hlocks hK hP hD hS ⟨e, rfl⟩ dD_told_115))
          · have e := e.trans (if_neg c_7)
            have h9 : (a1).toInt < 0 ∨ 4 < (a1).toInt := by
              have t0 := ne_ti c_1 (j := 0) (by decide)
              have t1 := ne_ti c_2 (j := 1) (by decide)
              have t2 := ne_ti c_5 (j := 2) (by decide)
              have t3 := ne_ti c_6 (j := 3) (by decide)
              have t4 := ne_ti c_7 (j := 4) (by decide)
              omega
            refine lv_tableOut (tgt := 116) hx hb dD_told_1 h9 (by decide) ?_
            exact kt_throw (names := kt_up) hx hb hl0 hown (by decide +kernel) (by decide +kernel) (hts _ q_339) (hts _ q_44) (fun w hw => kt_word hN hT (kt_iae w hw)) (hT.1.2 (174, "nothing of that number is told") (by decide)) hz (hl.1.trans hml.symm) hout hlocks dD_told_116 dD_told_119 dD_told_120 dD_told_122 dD_told_125 (Nat.le_of_ble_eq_true rfl) (Nat.le_of_ble_eq_true rfl) (Nat.le_of_ble_eq_true rfl) (Nat.le_of_ble_eq_true rfl) (kt_xc e hP0 hK hD0) (Nat.le_of_ble_eq_true rfl) (Nat.le_of_ble_eq_true rfl)
/-- BoilerDesk.state(I)I -/
def F_D_state (w0 : Nat → Int32) (a1 : Int32) : Option (Int32) := (if a1 = 0 then (some (w0 38)) else (if a1 = 1 then (some (w0 39)) else (if a1 = 2 then (some (w0 40)) else (if a1 = 3 then (some (w0 41)) else (if a1 = 4 then (some (w0 25)) else (if a1 = 5 then (some (w0 26)) else (if a1 = 6 then (some (w0 27)) else (if a1 = 7 then (if (w0 30) = (0 : Int32) then (some (0 : Int32)) else (some (1 : Int32))) else (if a1 = 8 then (some (w0 0)) else (if a1 = 9 then (some (w0 1)) else none))))))))))
set_option maxHeartbeats 4000000 in
set_option maxRecDepth 100000 in
theorem c_D_state (l : Launch) (hl0 : l.stackTraces = false) (D : va_G) (h : Nat → Nat) (sz : Nat) (w0 : Nat → Int32) (a1 : Int32)  : tx_Met l yD_state [.code yD_state cD_state 2 (some .int)] ({ frames := 7, cells := 1, slots := 6, locals := 120 }) (va_Pc [.ref (h 0), .int a1] (kt_B D [] (cw h) w0 sz)) (va_Qi (fun r' u' => F_D_state w0 a1 = some r' ∧ u' = w0) (kb_E D [] (cw h) (va_A (cw h w0) sz)) (va_A (cw h w0) sz)) "java/lang/IllegalArgumentException" (tx_X (fun u' => F_D_state w0 a1 = none ∧ u' = w0) (kb_E D [] (cw h) (va_A (cw h w0) sz)) (va_A (cw h w0) sz)) 1 6 (va_A (cw h w0) sz) := by
  refine kt_of (cc := cD_state) (maxL := 2) (ret := (some .int)) (E := "java/lang/IllegalArgumentException") (QcA := fun A => (va_Qi (fun r' u' => F_D_state w0 a1 = some r' ∧ u' = w0) (kb_E D [] (cw h) A) A)) (XA := fun A => (tx_X (fun u' => F_D_state w0 a1 = none ∧ u' = w0) (kb_E D [] (cw h) A) A)) (by decide) (Nat.le_of_ble_eq_true rfl) ?_
  intro p e s m below meth c A hx hb hr hlocks hml hown hts hA hN hT hout hK hP hD ls hl
  have hP0 := hP
  have hD0 := hD
  have hz : s.heap.size ≤ s.heap.size := Nat.le_refl _
  have hQ : ∀ q : Nat, q < s.heap.size → s.heap[q]? = s.heap[q]? := fun _ _ => rfl
  have hS : va_S A s.heap s.heap [] := va_S.rf
  have hl : lv_has ls 2 [(0, .ref (h 0)), (1, .int a1)] := hl
  have e : F_D_state w0 a1 = F_D_state w0 a1 := rfl
  refine lv_iload_n hx hb dD_state_0 rfl (lv_at hl 1 rfl) ?_
  by_cases c_1 : a1 = 0
  · have e := e.trans (if_pos c_1)
    refine lv_tableIn (tgt := 56) hx hb dD_state_1 (by rw [c_1]; decide) (by rw [c_1]; decide) (by rw [c_1]; rfl) (by decide) ?_
    refine lv_aload_n hx hb dD_state_56 rfl (lv_at hl 0 rfl) ?_
    refine va_get (D := D) (ci := 0) (v := .ref (h 6)) (C := "BoilerDesk") (T := TD) (N := 13) hx hb hts inD hown hK hP 0 rfl rfl 5 (by decide) (hts _ q_277) (fun _ h9 => h9) rfl dD_state_57 ?_
    refine va_get (D := D) (ci := 5) (v := .int (w0 38)) (C := "BoilerDesk$Span") (T := TS) (N := 2) hx hb hts inS hown hK hP 6 rfl rfl 0 (by decide) (hts _ q_232) (fun _ h9 => h9) rfl dD_state_60 ?_
    exact tx_ret (W.widen (k := 1) (n := 6) (Nat.le_of_ble_eq_true rfl) (Nat.le_of_ble_eq_true rfl) (kb_iret (wf := cw h) hx hb hr hlocks hK hP hD hS ⟨e, rfl⟩ dD_state_63))
  · have e := e.trans (if_neg c_1)
    by_cases c_2 : a1 = 1
    · have e := e.trans (if_pos c_2)
      refine lv_tableIn (tgt := 64) hx hb dD_state_1 (by rw [c_2]; decide) (by rw [c_2]; decide) (by rw [c_2]; rfl) (by decide) ?_
      refine lv_aload_n hx hb dD_state_64 rfl (lv_at hl 0 rfl) ?_
      refine va_get (D := D) (ci := 0) (v := .ref (h 6)) (C := "BoilerDesk") (T := TD) (N := 13) hx hb hts inD hown hK hP 0 rfl rfl 5 (by decide) (hts _ q_277) (fun _ h9 => h9) rfl dD_state_65 ?_
      refine va_get (D := D) (ci := 5) (v := .int (w0 39)) (C := "BoilerDesk$Span") (T := TS) (N := 2) hx hb hts inS hown hK hP 6 rfl rfl 1 (by decide) (hts _ q_234) (fun _ h9 => h9) rfl dD_state_68 ?_
      exact tx_ret (W.widen (k := 1) (n := 6) (Nat.le_of_ble_eq_true rfl) (Nat.le_of_ble_eq_true rfl) (kb_iret (wf := cw h) hx hb hr hlocks hK hP hD hS ⟨e, rfl⟩ dD_state_71))
    · have e := e.trans (if_neg c_2)
      by_cases c_3 : a1 = 2
      · have e := e.trans (if_pos c_3)
        refine lv_tableIn (tgt := 72) hx hb dD_state_1 (by rw [c_3]; decide) (by rw [c_3]; decide) (by rw [c_3]; rfl) (by decide) ?_
        refine lv_aload_n hx hb dD_state_72 rfl (lv_at hl 0 rfl) ?_
        refine va_get (D := D) (ci := 0) (v := .ref (h 7)) (C := "BoilerDesk") (T := TD) (N := 13) hx hb hts inD hown hK hP 0 rfl rfl 6 (by decide) (hts _ q_278) (fun _ h9 => h9) rfl dD_state_73 ?_
        refine va_get (D := D) (ci := 5) (v := .int (w0 40)) (C := "BoilerDesk$Span") (T := TS) (N := 2) hx hb hts inS hown hK hP 7 rfl rfl 0 (by decide) (hts _ q_232) (fun _ h9 => h9) rfl dD_state_76 ?_
        exact tx_ret (W.widen (k := 1) (n := 6) (Nat.le_of_ble_eq_true rfl) (Nat.le_of_ble_eq_true rfl) (kb_iret (wf := cw h) hx hb hr hlocks hK hP hD hS ⟨e, rfl⟩ dD_state_79))
      · have e := e.trans (if_neg c_3)
        by_cases c_4 : a1 = 3
        · have e := e.trans (if_pos c_4)
          refine lv_tableIn (tgt := 80) hx hb dD_state_1 (by rw [c_4]; decide) (by rw [c_4]; decide) (by rw [c_4]; rfl) (by decide) ?_
          refine lv_aload_n hx hb dD_state_80 rfl (lv_at hl 0 rfl) ?_
          refine va_get (D := D) (ci := 0) (v := .ref (h 7)) (C := "BoilerDesk") (T := TD) (N := 13) hx hb hts inD hown hK hP 0 rfl rfl 6 (by decide) (hts _ q_278) (fun _ h9 => h9) rfl dD_state_81 ?_
          refine va_get (D := D) (ci := 5) (v := .int (w0 41)) (C := "BoilerDesk$Span") (T := TS) (N := 2) hx hb hts inS hown hK hP 7 rfl rfl 1 (by decide) (hts _ q_234) (fun _ h9 => h9) rfl dD_state_84 ?_
          exact tx_ret (W.widen (k := 1) (n := 6) (Nat.le_of_ble_eq_true rfl) (Nat.le_of_ble_eq_true rfl) (kb_iret (wf := cw h) hx hb hr hlocks hK hP hD hS ⟨e, rfl⟩ dD_state_87))
        · have e := e.trans (if_neg c_4)
          by_cases c_5 : a1 = 4
          · have e := e.trans (if_pos c_5)
            refine lv_tableIn (tgt := 88) hx hb dD_state_1 (by rw [c_5]; decide) (by rw [c_5]; decide) (by rw [c_5]; rfl) (by decide) ?_
            refine lv_aload_n hx hb dD_state_88 rfl (lv_at hl 0 rfl) ?_
            refine va_get (D := D) (ci := 0) (v := .ref (h 3)) (C := "BoilerDesk") (T := TD) (N := 13) hx hb hts inD hown hK hP 0 rfl rfl 2 (by decide) (hts _ q_274) (fun _ h9 => h9) rfl dD_state_89 ?_
            refine va_get (D := D) (ci := 6) (v := .int (w0 25)) (C := "BoilerDesk$Units") (T := TU) (N := 2) hx hb hts inU hown hK hP 3 rfl rfl 0 (by decide) (hts _ q_160) (fun _ h9 => h9) rfl dD_state_92 ?_
            exact tx_ret (W.widen (k := 1) (n := 6) (Nat.le_of_ble_eq_true rfl) (Nat.le_of_ble_eq_true rfl) (kb_iret (wf := cw h) hx hb hr hlocks hK hP hD hS ⟨e, rfl⟩ dD_state_95))
          · have e := e.trans (if_neg c_5)
            by_cases c_6 : a1 = 5
            · have e := e.trans (if_pos c_6)
              refine lv_tableIn (tgt := 96) hx hb dD_state_1 (by rw [c_6]; decide) (by rw [c_6]; decide) (by rw [c_6]; rfl) (by decide) ?_
              refine lv_aload_n hx hb dD_state_96 rfl (lv_at hl 0 rfl) ?_
              refine va_get (D := D) (ci := 0) (v := .ref (h 3)) (C := "BoilerDesk") (T := TD) (N := 13) hx hb hts inD hown hK hP 0 rfl rfl 2 (by decide) (hts _ q_274) (fun _ h9 => h9) rfl dD_state_97 ?_
              refine va_get (D := D) (ci := 6) (v := .int (w0 26)) (C := "BoilerDesk$Units") (T := TU) (N := 2) hx hb hts inU hown hK hP 3 rfl rfl 1 (by decide) (hts _ q_162) (fun _ h9 => h9) rfl dD_state_100 ?_
              exact tx_ret (W.widen (k := 1) (n := 6) (Nat.le_of_ble_eq_true rfl) (Nat.le_of_ble_eq_true rfl) (kb_iret (wf := cw h) hx hb hr hlocks hK hP hD hS ⟨e, rfl⟩ dD_state_103))
            · have e := e.trans (if_neg c_6)
              by_cases c_7 : a1 = 6
              · have e := e.trans (if_pos c_7)
                refine lv_tableIn (tgt := 104) hx hb dD_state_1 (by rw [c_7]; decide) (by rw [c_7]; decide) (by rw [c_7]; rfl) (by decide) ?_
                refine lv_aload_n hx hb dD_state_104 rfl (lv_at hl 0 rfl) ?_
                refine va_get (D := D) (ci := 0) (v := .ref (h 4)) (C := "BoilerDesk") (T := TD) (N := 13) hx hb hts inD hown hK hP 0 rfl rfl 3 (by decide) (hts _ q_275) (fun _ h9 => h9) rfl dD_state_105 ?_
                refine va_get (D := D) (ci := 2) (v := .int (w0 27)) (C := "BoilerDesk$Machines") (T := TM) (N := 4) hx hb hts inM hown hK hP 4 rfl rfl 0 (by decide) (hts _ q_175) (fun _ h9 => h9) rfl dD_state_108 ?_
                exact tx_ret (W.widen (k := 1) (n := 6) (Nat.le_of_ble_eq_true rfl) (Nat.le_of_ble_eq_true rfl) (kb_iret (wf := cw h) hx hb hr hlocks hK hP hD hS ⟨e, rfl⟩ dD_state_111))
              · have e := e.trans (if_neg c_7)
                by_cases c_8 : a1 = 7
                · have e := e.trans (if_pos c_8)
                  refine lv_tableIn (tgt := 112) hx hb dD_state_1 (by rw [c_8]; decide) (by rw [c_8]; decide) (by rw [c_8]; rfl) (by decide) ?_
                  refine lv_aload_n hx hb dD_state_112 rfl (lv_at hl 0 rfl) ?_
                  refine va_get (D := D) (ci := 0) (v := .ref (h 4)) (C := "BoilerDesk") (T := TD) (N := 13) hx hb hts inD hown hK hP 0 rfl rfl 3 (by decide) (hts _ q_275) (fun _ h9 => h9) rfl dD_state_113 ?_
                  refine va_get (D := D) (ci := 2) (v := .int (w0 30)) (C := "BoilerDesk$Machines") (T := TM) (N := 4) hx hb hts inM hown hK hP 4 rfl rfl 3 (by decide) (hts _ q_180) (fun _ h9 => h9) rfl dD_state_116 ?_
                  refine lv_if_eq (tgt := 126) hx hb dD_state_119 (by decide) (fun c_9 => ?_) (fun c_9 => ?_)
                  · have e := e.trans (if_pos c_9)
                    refine lv_iconst (v := 0) hx hb dD_state_126 (by decide) ?_
                    exact tx_ret (W.widen (k := 1) (n := 6) (Nat.le_of_ble_eq_true rfl) (Nat.le_of_ble_eq_true rfl) (kb_iret (wf := cw h) hx hb hr hlocks hK hP hD hS ⟨e, rfl⟩ dD_state_127))
                  · have e := e.trans (if_neg c_9)
                    refine lv_iconst (v := 1) hx hb dD_state_122 (by decide) ?_
                    refine lv_goto (tgt := 127) hx hb dD_state_123 (by decide) ?_
                    exact tx_ret (W.widen (k := 1) (n := 6) (Nat.le_of_ble_eq_true rfl) (Nat.le_of_ble_eq_true rfl) (kb_iret (wf := cw h) hx hb hr hlocks hK hP hD hS ⟨e, rfl⟩ dD_state_127))
                · have e := e.trans (if_neg c_8)
                  by_cases c_10 : a1 = 8
                  · have e := e.trans (if_pos c_10)
                    refine lv_tableIn (tgt := 128) hx hb dD_state_1 (by rw [c_10]; decide) (by rw [c_10]; decide) (by rw [c_10]; rfl) (by decide) ?_
                    refine lv_aload_n hx hb dD_state_128 rfl (lv_at hl 0 rfl) ?_
                    refine va_get (D := D) (ci := 0) (v := .int (w0 0)) (C := "BoilerDesk") (T := TD) (N := 13) hx hb hts inD hown hK hP 0 rfl rfl 9 (by decide) (hts _ q_281) (fun _ h9 => h9) rfl dD_state_129 ?_
                    exact tx_ret (W.widen (k := 1) (n := 6) (Nat.le_of_ble_eq_true rfl) (Nat.le_of_ble_eq_true rfl) (kb_iret (wf := cw h) hx hb hr hlocks hK hP hD hS ⟨e, rfl⟩ dD_state_132))
                  · have e := e.trans (if_neg c_10)
                    by_cases c_11 : a1 = 9
                    · have e := e.trans (if_pos c_11)
                      refine lv_tableIn (tgt := 133) hx hb dD_state_1 (by rw [c_11]; decide) (by rw [c_11]; decide) (by rw [c_11]; rfl) (by decide) ?_
                      refine lv_aload_n hx hb dD_state_133 rfl (lv_at hl 0 rfl) ?_
                      refine va_get (D := D) (ci := 0) (v := .int (w0 1)) (C := "BoilerDesk") (T := TD) (N := 13) hx hb hts inD hown hK hP 0 rfl rfl 10 (by decide) (hts _ q_282) (fun _ h9 => h9) rfl dD_state_134 ?_
                      exact tx_ret (W.widen (k := 1) (n := 6) (Nat.le_of_ble_eq_true rfl) (Nat.le_of_ble_eq_true rfl) (kb_iret (wf := cw h) hx hb hr hlocks hK hP hD hS ⟨e, rfl⟩ dD_state_137))
                    · have e := e.trans (if_neg c_11)
                      have h9 : (a1).toInt < 0 ∨ 9 < (a1).toInt := by
                        have t0 := ne_ti c_1 (j := 0) (by decide)
                        have t1 := ne_ti c_2 (j := 1) (by decide)
                        have t2 := ne_ti c_3 (j := 2) (by decide)
                        have t3 := ne_ti c_4 (j := 3) (by decide)
                        have t4 := ne_ti c_5 (j := 4) (by decide)
                        have t5 := ne_ti c_6 (j := 5) (by decide)
                        have t6 := ne_ti c_7 (j := 6) (by decide)
                        have t7 := ne_ti c_8 (j := 7) (by decide)
                        have t8 := ne_ti c_10 (j := 8) (by decide)
                        have t9 := ne_ti c_11 (j := 9) (by decide)
                        omega
                      refine lv_tableOut (tgt := 138) hx hb dD_state_1 h9 (by decide) ?_
                      exact kt_throw (names := kt_up) hx hb hl0 hown (by decide +kernel) (by decide +kernel) (hts _ q_339) (hts _ q_44) (fun w hw => kt_word hN hT (kt_iae w hw)) (hT.1.2 (194, "the state has nothing of that number") (by decide)) hz (hl.1.trans hml.symm) hout hlocks dD_state_138 dD_state_141 dD_state_142 dD_state_144 dD_state_147 (Nat.le_of_ble_eq_true rfl) (Nat.le_of_ble_eq_true rfl) (Nat.le_of_ble_eq_true rfl) (Nat.le_of_ble_eq_true rfl) (kt_xc e hP0 hK hD0) (Nat.le_of_ble_eq_true rfl) (Nat.le_of_ble_eq_true rfl)
end
