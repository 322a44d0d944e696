set_option maxRecDepth 20000 in
theorem q_0 : (Jvm.Cond.selects "BoilerDesk" ({ cls := "BoilerDesk", name := "startAnew", desc := "()V" } : Jvm.MethodName) ({ cls := "BoilerDesk", name := "startAnew", desc := "()V" } : Jvm.MethodName)) ∈ lw_st := st_in (List.mem_append_left _ (List.mem_of_getElem? (i := 0) rfl)) rfl
set_option maxRecDepth 20000 in
theorem q_1 : (Jvm.Cond.selects "java/lang/Throwable" ({ cls := "java/lang/Throwable", name := "fillInStackTrace", desc := "(I)Ljava/lang/Throwable;" } : Jvm.MethodName) ({ cls := "java/lang/Throwable", name := "fillInStackTrace", desc := "(I)Ljava/lang/Throwable;" } : Jvm.MethodName)) ∈ lw_st := st_in (List.mem_append_left _ (List.mem_of_getElem? (i := 1) rfl)) rfl
set_option maxRecDepth 20000 in
theorem q_2 : (Jvm.Cond.selects "BoilerDesk" ({ cls := "BoilerDesk", name := "runSteps", desc := "()V" } : Jvm.MethodName) ({ cls := "BoilerDesk", name := "runSteps", desc := "()V" } : Jvm.MethodName)) ∈ lw_st := st_in (List.mem_append_left _ (List.mem_of_getElem? (i := 2) rfl)) rfl
set_option maxRecDepth 20000 in
theorem q_3 : (Jvm.Cond.selects "BoilerDesk" ({ cls := "BoilerDesk", name := "noteWords", desc := "()V" } : Jvm.MethodName) ({ cls := "BoilerDesk", name := "noteWords", desc := "()V" } : Jvm.MethodName)) ∈ lw_st := st_in (List.mem_append_left _ (List.mem_of_getElem? (i := 3) rfl)) rfl
set_option maxRecDepth 20000 in
theorem q_4 : (Jvm.Cond.selects "BoilerDesk" ({ cls := "BoilerDesk", name := "takeRepairs", desc := "()V" } : Jvm.MethodName) ({ cls := "BoilerDesk", name := "takeRepairs", desc := "()V" } : Jvm.MethodName)) ∈ lw_st := st_in (List.mem_append_left _ (List.mem_of_getElem? (i := 4) rfl)) rfl
set_option maxRecDepth 20000 in
theorem q_5 : (Jvm.Cond.selects "BoilerDesk" ({ cls := "BoilerDesk", name := "stopUnlessInitial", desc := "()V" } : Jvm.MethodName) ({ cls := "BoilerDesk", name := "stopUnlessInitial", desc := "()V" } : Jvm.MethodName)) ∈ lw_st := st_in (List.mem_append_left _ (List.mem_of_getElem? (i := 5) rfl)) rfl
set_option maxRecDepth 20000 in
theorem q_6 : (Jvm.Cond.selects "BoilerDesk" ({ cls := "BoilerDesk", name := "takeAcknowledgements", desc := "()V" } : Jvm.MethodName) ({ cls := "BoilerDesk", name := "takeAcknowledgements", desc := "()V" } : Jvm.MethodName)) ∈ lw_st := st_in (List.mem_append_left _ (List.mem_of_getElem? (i := 6) rfl)) rfl
set_option maxRecDepth 20000 in
theorem q_7 : (Jvm.Cond.selects "BoilerDesk" ({ cls := "BoilerDesk", name := "expectReadings", desc := "(I)V" } : Jvm.MethodName) ({ cls := "BoilerDesk", name := "expectReadings", desc := "(I)V" } : Jvm.MethodName)) ∈ lw_st := st_in (List.mem_append_left _ (List.mem_of_getElem? (i := 7) rfl)) rfl
set_option maxRecDepth 20000 in
theorem q_8 : (Jvm.Cond.selects "BoilerDesk" ({ cls := "BoilerDesk", name := "detectFailures", desc := "()V" } : Jvm.MethodName) ({ cls := "BoilerDesk", name := "detectFailures", desc := "()V" } : Jvm.MethodName)) ∈ lw_st := st_in (List.mem_append_left _ (List.mem_of_getElem? (i := 8) rfl)) rfl
set_option maxRecDepth 20000 in
theorem q_9 : (Jvm.Cond.selects "BoilerDesk" ({ cls := "BoilerDesk", name := "detect", desc := "(I)V" } : Jvm.MethodName) ({ cls := "BoilerDesk", name := "detect", desc := "(I)V" } : Jvm.MethodName)) ∈ lw_st := st_in (List.mem_append_left _ (List.mem_of_getElem? (i := 9) rfl)) rfl
set_option maxRecDepth 20000 in
theorem q_10 : (Jvm.Cond.selects "BoilerDesk" ({ cls := "BoilerDesk", name := "isToldWrongly", desc := "(I)Z" } : Jvm.MethodName) ({ cls := "BoilerDesk", name := "isToldWrongly", desc := "(I)Z" } : Jvm.MethodName)) ∈ lw_st := st_in (List.mem_append_left _ (List.mem_of_getElem? (i := 10) rfl)) rfl
set_option maxRecDepth 20000 in
theorem q_11 : (Jvm.Cond.selects "BoilerDesk" ({ cls := "BoilerDesk", name := "estimate", desc := "()V" } : Jvm.MethodName) ({ cls := "BoilerDesk", name := "estimate", desc := "()V" } : Jvm.MethodName)) ∈ lw_st := st_in (List.mem_append_left _ (List.mem_of_getElem? (i := 11) rfl)) rfl
set_option maxRecDepth 20000 in
theorem q_12 : (Jvm.Cond.selects "BoilerDesk" ({ cls := "BoilerDesk", name := "modeBehindInitial", desc := "()I" } : Jvm.MethodName) ({ cls := "BoilerDesk", name := "modeBehindInitial", desc := "()I" } : Jvm.MethodName)) ∈ lw_st := st_in (List.mem_append_left _ (List.mem_of_getElem? (i := 12) rfl)) rfl
set_option maxRecDepth 20000 in
theorem q_13 : (Jvm.Cond.selects "BoilerDesk" ({ cls := "BoilerDesk", name := "modeByAnyFailure", desc := "()I" } : Jvm.MethodName) ({ cls := "BoilerDesk", name := "modeByAnyFailure", desc := "()I" } : Jvm.MethodName)) ∈ lw_st := st_in (List.mem_append_left _ (List.mem_of_getElem? (i := 13) rfl)) rfl
set_option maxRecDepth 20000 in
theorem q_14 : (Jvm.Cond.selects "BoilerDesk" ({ cls := "BoilerDesk", name := "modeInOperation", desc := "()I" } : Jvm.MethodName) ({ cls := "BoilerDesk", name := "modeInOperation", desc := "()I" } : Jvm.MethodName)) ∈ lw_st := st_in (List.mem_append_left _ (List.mem_of_getElem? (i := 14) rfl)) rfl
set_option maxRecDepth 20000 in
theorem q_15 : (Jvm.Cond.selects "BoilerDesk" ({ cls := "BoilerDesk", name := "giveCommands", desc := "()V" } : Jvm.MethodName) ({ cls := "BoilerDesk", name := "giveCommands", desc := "()V" } : Jvm.MethodName)) ∈ lw_st := st_in (List.mem_append_left _ (List.mem_of_getElem? (i := 15) rfl)) rfl
set_option maxRecDepth 20000 in
theorem q_16 : (Jvm.Cond.selects "BoilerDesk" ({ cls := "BoilerDesk", name := "commandInOperation", desc := "()V" } : Jvm.MethodName) ({ cls := "BoilerDesk", name := "commandInOperation", desc := "()V" } : Jvm.MethodName)) ∈ lw_st := st_in (List.mem_append_left _ (List.mem_of_getElem? (i := 16) rfl)) rfl
set_option maxRecDepth 20000 in
theorem q_17 : (Jvm.Cond.selects "BoilerDesk" ({ cls := "BoilerDesk", name := "commandValve", desc := "(Z)V" } : Jvm.MethodName) ({ cls := "BoilerDesk", name := "commandValve", desc := "(Z)V" } : Jvm.MethodName)) ∈ lw_st := st_in (List.mem_append_left _ (List.mem_of_getElem? (i := 17) rfl)) rfl
set_option maxRecDepth 20000 in
theorem q_18 : (Jvm.Cond.selects "BoilerDesk" ({ cls := "BoilerDesk", name := "turnOnGoodPumps", desc := "()V" } : Jvm.MethodName) ({ cls := "BoilerDesk", name := "turnOnGoodPumps", desc := "()V" } : Jvm.MethodName)) ∈ lw_st := st_in (List.mem_append_left _ (List.mem_of_getElem? (i := 18) rfl)) rfl
set_option maxRecDepth 20000 in
theorem q_19 : (Jvm.Cond.selects "BoilerDesk" ({ cls := "BoilerDesk", name := "commandPumps", desc := "(I)V" } : Jvm.MethodName) ({ cls := "BoilerDesk", name := "commandPumps", desc := "(I)V" } : Jvm.MethodName)) ∈ lw_st := st_in (List.mem_append_left _ (List.mem_of_getElem? (i := 19) rfl)) rfl
set_option maxRecDepth 20000 in
theorem q_20 : (Jvm.Cond.selects "BoilerDesk" ({ cls := "BoilerDesk", name := "commandInInitial", desc := "()V" } : Jvm.MethodName) ({ cls := "BoilerDesk", name := "commandInInitial", desc := "()V" } : Jvm.MethodName)) ∈ lw_st := st_in (List.mem_append_left _ (List.mem_of_getElem? (i := 20) rfl)) rfl
set_option maxRecDepth 20000 in
theorem q_21 : (Jvm.Cond.selects "BoilerDeskModel" ({ cls := "BoilerDeskModel", name := "anew", desc := "(IIIIIIIII)V" } : Jvm.MethodName) ({ cls := "BoilerDeskModel", name := "anew", desc := "(IIIIIIIII)V" } : Jvm.MethodName)) ∈ lw_st := st_in (List.mem_append_left _ (List.mem_of_getElem? (i := 21) rfl)) rfl
set_option maxRecDepth 20000 in
theorem q_22 : (Jvm.Cond.selects "BoilerDeskModel" ({ cls := "BoilerDeskModel", name := "forget", desc := "()V" } : Jvm.MethodName) ({ cls := "BoilerDeskModel", name := "forget", desc := "()V" } : Jvm.MethodName)) ∈ lw_st := st_in (List.mem_append_left _ (List.mem_of_getElem? (i := 22) rfl)) rfl
set_option maxRecDepth 20000 in
theorem q_23 : (Jvm.Cond.selects "BoilerDeskModel" ({ cls := "BoilerDeskModel", name := "quiet", desc := "()V" } : Jvm.MethodName) ({ cls := "BoilerDeskModel", name := "quiet", desc := "()V" } : Jvm.MethodName)) ∈ lw_st := st_in (List.mem_append_left _ (List.mem_of_getElem? (i := 23) rfl)) rfl
set_option maxRecDepth 20000 in
theorem q_24 : (Jvm.Cond.selects "BoilerDeskModel" ({ cls := "BoilerDeskModel", name := "fails", desc := "(ZI)Z" } : Jvm.MethodName) ({ cls := "BoilerDeskModel", name := "fails", desc := "(ZI)Z" } : Jvm.MethodName)) ∈ lw_st := st_in (List.mem_append_left _ (List.mem_of_getElem? (i := 24) rfl)) rfl
set_option maxRecDepth 20000 in
theorem q_25 : (Jvm.Cond.selects "BoilerDeskModel" ({ cls := "BoilerDeskModel", name := "turn", desc := "()Z" } : Jvm.MethodName) ({ cls := "BoilerDeskModel", name := "turn", desc := "()Z" } : Jvm.MethodName)) ∈ lw_st := st_in (List.mem_append_left _ (List.mem_of_getElem? (i := 25) rfl)) rfl
set_option maxRecDepth 20000 in
theorem q_26 : (Jvm.Cond.selects "BoilerDeskModel" ({ cls := "BoilerDeskModel", name := "units", desc := "()Z" } : Jvm.MethodName) ({ cls := "BoilerDeskModel", name := "units", desc := "()Z" } : Jvm.MethodName)) ∈ lw_st := st_in (List.mem_append_left _ (List.mem_of_getElem? (i := 26) rfl)) rfl
set_option maxRecDepth 20000 in
theorem q_27 : (Jvm.Cond.selects "BoilerDeskModel" ({ cls := "BoilerDeskModel", name := "find", desc := "(IZ)V" } : Jvm.MethodName) ({ cls := "BoilerDeskModel", name := "find", desc := "(IZ)V" } : Jvm.MethodName)) ∈ lw_st := st_in (List.mem_append_left _ (List.mem_of_getElem? (i := 27) rfl)) rfl
set_option maxRecDepth 20000 in
theorem q_28 : (Jvm.Cond.selects "BoilerDeskModel" ({ cls := "BoilerDeskModel", name := "first", desc := "()Z" } : Jvm.MethodName) ({ cls := "BoilerDeskModel", name := "first", desc := "()Z" } : Jvm.MethodName)) ∈ lw_st := st_in (List.mem_append_left _ (List.mem_of_getElem? (i := 28) rfl)) rfl
set_option maxRecDepth 20000 in
theorem q_29 : (Jvm.Cond.selects "BoilerDeskModel" ({ cls := "BoilerDeskModel", name := "some", desc := "(II)Z" } : Jvm.MethodName) ({ cls := "BoilerDeskModel", name := "some", desc := "(II)Z" } : Jvm.MethodName)) ∈ lw_st := st_in (List.mem_append_left _ (List.mem_of_getElem? (i := 29) rfl)) rfl
set_option maxRecDepth 20000 in
theorem q_30 : (Jvm.Cond.selects "BoilerDeskModel" ({ cls := "BoilerDeskModel", name := "others", desc := "()Z" } : Jvm.MethodName) ({ cls := "BoilerDeskModel", name := "others", desc := "()Z" } : Jvm.MethodName)) ∈ lw_st := st_in (List.mem_append_left _ (List.mem_of_getElem? (i := 30) rfl)) rfl
set_option maxRecDepth 20000 in
theorem q_31 : (Jvm.Cond.selects "BoilerDeskModel" ({ cls := "BoilerDeskModel", name := "command", desc := "()V" } : Jvm.MethodName) ({ cls := "BoilerDeskModel", name := "command", desc := "()V" } : Jvm.MethodName)) ∈ lw_st := st_in (List.mem_append_left _ (List.mem_of_getElem? (i := 31) rfl)) rfl
set_option maxRecDepth 20000 in
theorem q_32 : (Jvm.Cond.initialized "BoilerDeskLaw") ∈ lw_st := st_in (List.mem_append_right _ (List.mem_append_left _ (List.mem_of_getElem? (i := 0) rfl))) rfl
set_option maxRecDepth 20000 in
theorem q_33 : (Jvm.Cond.initialized "BoilerDesk") ∈ lw_st := st_in (List.mem_append_right _ (List.mem_append_left _ (List.mem_of_getElem? (i := 1) rfl))) rfl
set_option maxRecDepth 20000 in
theorem q_34 : (Jvm.Cond.initialized "BoilerDesk$Plant") ∈ lw_st := st_in (List.mem_append_right _ (List.mem_append_left _ (List.mem_of_getElem? (i := 2) rfl))) rfl
set_option maxRecDepth 20000 in
theorem q_35 : (Jvm.Cond.initialized "BoilerDesk$Inbox") ∈ lw_st := st_in (List.mem_append_right _ (List.mem_append_left _ (List.mem_of_getElem? (i := 3) rfl))) rfl
set_option maxRecDepth 20000 in
theorem q_36 : (Jvm.Cond.initialized "BoilerDesk$Units") ∈ lw_st := st_in (List.mem_append_right _ (List.mem_append_left _ (List.mem_of_getElem? (i := 4) rfl))) rfl
set_option maxRecDepth 20000 in
theorem q_37 : (Jvm.Cond.initialized "BoilerDesk$Machines") ∈ lw_st := st_in (List.mem_append_right _ (List.mem_append_left _ (List.mem_of_getElem? (i := 5) rfl))) rfl
set_option maxRecDepth 20000 in
theorem q_38 : (Jvm.Cond.initialized "BoilerDesk$Report") ∈ lw_st := st_in (List.mem_append_right _ (List.mem_append_left _ (List.mem_of_getElem? (i := 6) rfl))) rfl
set_option maxRecDepth 20000 in
theorem q_39 : (Jvm.Cond.initialized "BoilerDesk$Span") ∈ lw_st := st_in (List.mem_append_right _ (List.mem_append_left _ (List.mem_of_getElem? (i := 7) rfl))) rfl
set_option maxRecDepth 20000 in
theorem q_40 : (Jvm.Cond.initialized "BoilerDeskModel") ∈ lw_st := st_in (List.mem_append_right _ (List.mem_append_left _ (List.mem_of_getElem? (i := 8) rfl))) rfl
set_option maxRecDepth 20000 in
theorem q_41 : (Jvm.Cond.initialized "java/lang/Throwable") ∈ lw_st := st_in (List.mem_append_right _ (List.mem_append_left _ (List.mem_of_getElem? (i := 9) rfl))) rfl
set_option maxRecDepth 20000 in
theorem q_42 : (Jvm.Cond.initialized "java/lang/Exception") ∈ lw_st := st_in (List.mem_append_right _ (List.mem_append_left _ (List.mem_of_getElem? (i := 10) rfl))) rfl
set_option maxRecDepth 20000 in
theorem q_43 : (Jvm.Cond.initialized "java/lang/RuntimeException") ∈ lw_st := st_in (List.mem_append_right _ (List.mem_append_left _ (List.mem_of_getElem? (i := 11) rfl))) rfl
set_option maxRecDepth 20000 in
theorem q_44 : (Jvm.Cond.initialized "java/lang/IllegalArgumentException") ∈ lw_st := st_in (List.mem_append_right _ (List.mem_append_left _ (List.mem_of_getElem? (i := 12) rfl))) rfl
set_option maxRecDepth 20000 in
theorem q_45 : (Jvm.Cond.initialized "java/lang/IllegalStateException") ∈ lw_st := st_in (List.mem_append_right _ (List.mem_append_left _ (List.mem_of_getElem? (i := 13) rfl))) rfl
set_option maxRecDepth 20000 in
theorem q_46 : (Jvm.Cond.initialized "java/lang/Math") ∈ lw_st := st_in (List.mem_append_right _ (List.mem_append_left _ (List.mem_of_getElem? (i := 14) rfl))) rfl
set_option maxRecDepth 20000 in
theorem q_47 : (Jvm.Cond.initialized "java/lang/Integer") ∈ lw_st := st_in (List.mem_append_right _ (List.mem_append_left _ (List.mem_of_getElem? (i := 15) rfl))) rfl
set_option maxRecDepth 20000 in
theorem q_48 : (Jvm.Cond.classLink "BoilerDeskLaw" (8 : Nat) "BoilerDesk") ∈ lw_st := st_in (List.mem_append_right _ (List.mem_append_left _ (List.mem_of_getElem? (i := 16) rfl))) rfl
set_option maxRecDepth 20000 in
theorem q_49 : (Jvm.Cond.instantiable "BoilerDesk" (13 : Nat)) ∈ lw_st := st_in (List.mem_append_right _ (List.mem_append_left _ (List.mem_of_getElem? (i := 17) rfl))) rfl
set_option maxRecDepth 20000 in
theorem q_50 : (Jvm.Cond.methodLink "BoilerDeskLaw" (40 : Nat) ({ cls := "BoilerDesk", name := "<init>", desc := "()V" } : Jvm.MethodName)) ∈ lw_st := st_in (List.mem_append_right _ (List.mem_append_left _ (List.mem_of_getElem? (i := 18) rfl))) rfl
set_option maxRecDepth 20000 in
theorem q_51 : (Jvm.Cond.instanceMethod ({ cls := "BoilerDesk", name := "<init>", desc := "()V" } : Jvm.MethodName)) ∈ lw_st := st_in (List.mem_append_right _ (List.mem_append_left _ (List.mem_of_getElem? (i := 19) rfl))) rfl
set_option maxRecDepth 20000 in
theorem q_52 : (Jvm.Cond.code ({ cls := "BoilerDesk", name := "<init>", desc := "()V" } : Jvm.MethodName) prog_1_method_1_code (1 : Nat) (Option.none : Option Jvm.ClassFile.FieldType)) ∈ lw_st := st_in (List.mem_append_right _ (List.mem_append_left _ (List.mem_of_getElem? (i := 20) rfl))) rfl
set_option maxRecDepth 20000 in
theorem q_53 : (Jvm.Cond.methodLink "BoilerDesk" (3 : Nat) ({ cls := "java/lang/Object", name := "<init>", desc := "()V" } : Jvm.MethodName)) ∈ lw_st := st_in (List.mem_append_right _ (List.mem_append_left _ (List.mem_of_getElem? (i := 21) rfl))) rfl
set_option maxRecDepth 20000 in
theorem q_54 : (Jvm.Cond.instanceMethod ({ cls := "java/lang/Object", name := "<init>", desc := "()V" } : Jvm.MethodName)) ∈ lw_st := st_in (List.mem_append_right _ (List.mem_append_left _ (List.mem_of_getElem? (i := 22) rfl))) rfl
set_option maxRecDepth 20000 in
theorem q_55 : (Jvm.Cond.code ({ cls := "java/lang/Object", name := "<init>", desc := "()V" } : Jvm.MethodName) object_method_1_code (1 : Nat) (Option.none : Option Jvm.ClassFile.FieldType)) ∈ lw_st := st_in (List.mem_append_right _ (List.mem_append_left _ (List.mem_of_getElem? (i := 23) rfl))) rfl
set_option maxRecDepth 20000 in
theorem q_56 : (Jvm.Cond.classLink "BoilerDesk" (9 : Nat) "BoilerDesk$Plant") ∈ lw_st := st_in (List.mem_append_right _ (List.mem_append_left _ (List.mem_of_getElem? (i := 24) rfl))) rfl
set_option maxRecDepth 20000 in
theorem q_57 : (Jvm.Cond.instantiable "BoilerDesk$Plant" (9 : Nat)) ∈ lw_st := st_in (List.mem_append_right _ (List.mem_append_left _ (List.mem_of_getElem? (i := 25) rfl))) rfl
set_option maxRecDepth 20000 in
theorem q_58 : (Jvm.Cond.methodLinkNest "BoilerDesk" (11 : Nat) ({ cls := "BoilerDesk$Plant", name := "<init>", desc := "()V" } : Jvm.MethodName) "BoilerDesk") ∈ lw_st := st_in (List.mem_append_right _ (List.mem_append_left _ (List.mem_of_getElem? (i := 26) rfl))) rfl
set_option maxRecDepth 20000 in
theorem q_59 : (Jvm.Cond.instanceMethod ({ cls := "BoilerDesk$Plant", name := "<init>", desc := "()V" } : Jvm.MethodName)) ∈ lw_st := st_in (List.mem_append_right _ (List.mem_append_left _ (List.mem_of_getElem? (i := 27) rfl))) rfl
set_option maxRecDepth 20000 in
theorem q_60 : (Jvm.Cond.code ({ cls := "BoilerDesk$Plant", name := "<init>", desc := "()V" } : Jvm.MethodName) prog_4_method_1_code (1 : Nat) (Option.none : Option Jvm.ClassFile.FieldType)) ∈ lw_st := st_in (List.mem_append_right _ (List.mem_append_left _ (List.mem_of_getElem? (i := 28) rfl))) rfl
set_option maxRecDepth 20000 in
theorem q_61 : (Jvm.Cond.methodLink "BoilerDesk$Plant" (1 : Nat) ({ cls := "java/lang/Object", name := "<init>", desc := "()V" } : Jvm.MethodName)) ∈ lw_st := st_in (List.mem_append_right _ (List.mem_append_left _ (List.mem_of_getElem? (i := 29) rfl))) rfl
set_option maxRecDepth 20000 in
theorem q_62 : (Jvm.Cond.fieldLink "BoilerDesk$Plant" (7 : Nat) "BoilerDesk$Plant" "capacity" "I") ∈ lw_st := st_in (List.mem_append_right _ (List.mem_append_left _ (List.mem_of_getElem? (i := 30) rfl))) rfl
set_option maxRecDepth 20000 in
theorem q_63 : (Jvm.Cond.fieldLink "BoilerDesk" (209 : Nat) "BoilerDesk$Plant" "capacity" "I") ∈ lw_st := st_in (List.mem_append_right _ (List.mem_append_left _ (List.mem_of_getElem? (i := 31) rfl))) rfl
set_option maxRecDepth 20000 in
theorem q_64 : (Jvm.Cond.fieldLink "BoilerDesk$Plant" (13 : Nat) "BoilerDesk$Plant" "lowLimit" "I") ∈ lw_st := st_in (List.mem_append_right _ (List.mem_append_left _ (List.mem_of_getElem? (i := 32) rfl))) rfl
set_option maxRecDepth 20000 in
theorem q_65 : (Jvm.Cond.fieldLink "BoilerDesk" (324 : Nat) "BoilerDesk$Plant" "lowLimit" "I") ∈ lw_st := st_in (List.mem_append_right _ (List.mem_append_left _ (List.mem_of_getElem? (i := 33) rfl))) rfl
set_option maxRecDepth 20000 in
theorem q_66 : (Jvm.Cond.fieldLink "BoilerDesk$Plant" (16 : Nat) "BoilerDesk$Plant" "normalFrom" "I") ∈ lw_st := st_in (List.mem_append_right _ (List.mem_append_left _ (List.mem_of_getElem? (i := 34) rfl))) rfl
set_option maxRecDepth 20000 in
theorem q_67 : (Jvm.Cond.fieldLink "BoilerDesk" (343 : Nat) "BoilerDesk$Plant" "normalFrom" "I") ∈ lw_st := st_in (List.mem_append_right _ (List.mem_append_left _ (List.mem_of_getElem? (i := 35) rfl))) rfl
set_option maxRecDepth 20000 in
theorem q_68 : (Jvm.Cond.fieldLink "BoilerDesk$Plant" (19 : Nat) "BoilerDesk$Plant" "normalTo" "I") ∈ lw_st := st_in (List.mem_append_right _ (List.mem_append_left _ (List.mem_of_getElem? (i := 36) rfl))) rfl
set_option maxRecDepth 20000 in
theorem q_69 : (Jvm.Cond.fieldLink "BoilerDesk" (336 : Nat) "BoilerDesk$Plant" "normalTo" "I") ∈ lw_st := st_in (List.mem_append_right _ (List.mem_append_left _ (List.mem_of_getElem? (i := 37) rfl))) rfl
set_option maxRecDepth 20000 in
theorem q_70 : (Jvm.Cond.fieldLink "BoilerDesk$Plant" (22 : Nat) "BoilerDesk$Plant" "highLimit" "I") ∈ lw_st := st_in (List.mem_append_right _ (List.mem_append_left _ (List.mem_of_getElem? (i := 38) rfl))) rfl
set_option maxRecDepth 20000 in
theorem q_71 : (Jvm.Cond.fieldLink "BoilerDesk" (327 : Nat) "BoilerDesk$Plant" "highLimit" "I") ∈ lw_st := st_in (List.mem_append_right _ (List.mem_append_left _ (List.mem_of_getElem? (i := 39) rfl))) rfl
set_option maxRecDepth 20000 in
theorem q_72 : (Jvm.Cond.fieldLink "BoilerDesk$Plant" (25 : Nat) "BoilerDesk$Plant" "mostSteam" "I") ∈ lw_st := st_in (List.mem_append_right _ (List.mem_append_left _ (List.mem_of_getElem? (i := 40) rfl))) rfl
set_option maxRecDepth 20000 in
theorem q_73 : (Jvm.Cond.fieldLink "BoilerDesk" (216 : Nat) "BoilerDesk$Plant" "mostSteam" "I") ∈ lw_st := st_in (List.mem_append_right _ (List.mem_append_left _ (List.mem_of_getElem? (i := 41) rfl))) rfl
set_option maxRecDepth 20000 in
theorem q_74 : (Jvm.Cond.fieldLink "BoilerDesk$Plant" (28 : Nat) "BoilerDesk$Plant" "steamRise" "I") ∈ lw_st := st_in (List.mem_append_right _ (List.mem_append_left _ (List.mem_of_getElem? (i := 42) rfl))) rfl
set_option maxRecDepth 20000 in
theorem q_75 : (Jvm.Cond.fieldLink "BoilerDesk" (284 : Nat) "BoilerDesk$Plant" "steamRise" "I") ∈ lw_st := st_in (List.mem_append_right _ (List.mem_append_left _ (List.mem_of_getElem? (i := 43) rfl))) rfl
set_option maxRecDepth 20000 in
theorem q_76 : (Jvm.Cond.fieldLink "BoilerDesk$Plant" (31 : Nat) "BoilerDesk$Plant" "steamFall" "I") ∈ lw_st := st_in (List.mem_append_right _ (List.mem_append_left _ (List.mem_of_getElem? (i := 44) rfl))) rfl
set_option maxRecDepth 20000 in
theorem q_77 : (Jvm.Cond.fieldLink "BoilerDesk" (275 : Nat) "BoilerDesk$Plant" "steamFall" "I") ∈ lw_st := st_in (List.mem_append_right _ (List.mem_append_left _ (List.mem_of_getElem? (i := 45) rfl))) rfl
set_option maxRecDepth 20000 in
theorem q_78 : (Jvm.Cond.fieldLink "BoilerDesk$Plant" (34 : Nat) "BoilerDesk$Plant" "pumpRate" "I") ∈ lw_st := st_in (List.mem_append_right _ (List.mem_append_left _ (List.mem_of_getElem? (i := 46) rfl))) rfl
set_option maxRecDepth 20000 in
theorem q_79 : (Jvm.Cond.lays "BoilerDesk$Plant" "BoilerDesk$Plant" "capacity" "I") ∈ lw_st := st_in (List.mem_append_right _ (List.mem_append_left _ (List.mem_of_getElem? (i := 47) rfl))) rfl
set_option maxRecDepth 20000 in
theorem q_81 : (Jvm.Cond.lays "BoilerDesk$Plant" "BoilerDesk$Plant" "lowLimit" "I") ∈ lw_st := st_in (List.mem_append_right _ (List.mem_append_left _ (List.mem_of_getElem? (i := 49) rfl))) rfl
set_option maxRecDepth 20000 in
theorem q_83 : (Jvm.Cond.lays "BoilerDesk$Plant" "BoilerDesk$Plant" "normalFrom" "I") ∈ lw_st := st_in (List.mem_append_right _ (List.mem_append_left _ (List.mem_of_getElem? (i := 51) rfl))) rfl
set_option maxRecDepth 20000 in
theorem q_85 : (Jvm.Cond.lays "BoilerDesk$Plant" "BoilerDesk$Plant" "normalTo" "I") ∈ lw_st := st_in (List.mem_append_right _ (List.mem_append_left _ (List.mem_of_getElem? (i := 53) rfl))) rfl
set_option maxRecDepth 20000 in
theorem q_87 : (Jvm.Cond.lays "BoilerDesk$Plant" "BoilerDesk$Plant" "highLimit" "I") ∈ lw_st := st_in (List.mem_append_right _ (List.mem_append_left _ (List.mem_of_getElem? (i := 55) rfl))) rfl
set_option maxRecDepth 20000 in
theorem q_89 : (Jvm.Cond.lays "BoilerDesk$Plant" "BoilerDesk$Plant" "mostSteam" "I") ∈ lw_st := st_in (List.mem_append_right _ (List.mem_append_left _ (List.mem_of_getElem? (i := 57) rfl))) rfl
set_option maxRecDepth 20000 in
theorem q_91 : (Jvm.Cond.lays "BoilerDesk$Plant" "BoilerDesk$Plant" "steamRise" "I") ∈ lw_st := st_in (List.mem_append_right _ (List.mem_append_left _ (List.mem_of_getElem? (i := 59) rfl))) rfl
set_option maxRecDepth 20000 in
theorem q_93 : (Jvm.Cond.lays "BoilerDesk$Plant" "BoilerDesk$Plant" "steamFall" "I") ∈ lw_st := st_in (List.mem_append_right _ (List.mem_append_left _ (List.mem_of_getElem? (i := 61) rfl))) rfl
set_option maxRecDepth 20000 in
theorem q_95 : (Jvm.Cond.lays "BoilerDesk$Plant" "BoilerDesk$Plant" "pumpRate" "I") ∈ lw_st := st_in (List.mem_append_right _ (List.mem_append_left _ (List.mem_of_getElem? (i := 63) rfl))) rfl
set_option maxRecDepth 20000 in
theorem q_98 : (Jvm.Cond.classLink "BoilerDesk" (16 : Nat) "BoilerDesk$Inbox") ∈ lw_st := st_in (List.mem_append_right _ (List.mem_append_left _ (List.mem_of_getElem? (i := 66) rfl))) rfl
set_option maxRecDepth 20000 in
theorem q_99 : (Jvm.Cond.instantiable "BoilerDesk$Inbox" (12 : Nat)) ∈ lw_st := st_in (List.mem_append_right _ (List.mem_append_left _ (List.mem_of_getElem? (i := 67) rfl))) rfl
set_option maxRecDepth 20000 in
theorem q_100 : (Jvm.Cond.methodLinkNest "BoilerDesk" (18 : Nat) ({ cls := "BoilerDesk$Inbox", name := "<init>", desc := "()V" } : Jvm.MethodName) "BoilerDesk") ∈ lw_st := st_in (List.mem_append_right _ (List.mem_append_left _ (List.mem_of_getElem? (i := 68) rfl))) rfl
set_option maxRecDepth 20000 in
theorem q_101 : (Jvm.Cond.instanceMethod ({ cls := "BoilerDesk$Inbox", name := "<init>", desc := "()V" } : Jvm.MethodName)) ∈ lw_st := st_in (List.mem_append_right _ (List.mem_append_left _ (List.mem_of_getElem? (i := 69) rfl))) rfl
set_option maxRecDepth 20000 in
theorem q_102 : (Jvm.Cond.code ({ cls := "BoilerDesk$Inbox", name := "<init>", desc := "()V" } : Jvm.MethodName) prog_2_method_1_code (1 : Nat) (Option.none : Option Jvm.ClassFile.FieldType)) ∈ lw_st := st_in (List.mem_append_right _ (List.mem_append_left _ (List.mem_of_getElem? (i := 70) rfl))) rfl
set_option maxRecDepth 20000 in
theorem q_103 : (Jvm.Cond.methodLink "BoilerDesk$Inbox" (3 : Nat) ({ cls := "java/lang/Object", name := "<init>", desc := "()V" } : Jvm.MethodName)) ∈ lw_st := st_in (List.mem_append_right _ (List.mem_append_left _ (List.mem_of_getElem? (i := 71) rfl))) rfl
set_option maxRecDepth 20000 in
theorem q_104 : (Jvm.Cond.fieldLink "BoilerDesk$Inbox" (9 : Nat) "BoilerDesk$Inbox" "hasLevel" "Z") ∈ lw_st := st_in (List.mem_append_right _ (List.mem_append_left _ (List.mem_of_getElem? (i := 72) rfl))) rfl
set_option maxRecDepth 20000 in
theorem q_105 : (Jvm.Cond.fieldLink "BoilerDesk" (86 : Nat) "BoilerDesk$Inbox" "hasLevel" "Z") ∈ lw_st := st_in (List.mem_append_right _ (List.mem_append_left _ (List.mem_of_getElem? (i := 73) rfl))) rfl
set_option maxRecDepth 20000 in
theorem q_106 : (Jvm.Cond.fieldLink "BoilerDesk$Inbox" (22 : Nat) "BoilerDesk$Inbox" "level" "I") ∈ lw_st := st_in (List.mem_append_right _ (List.mem_append_left _ (List.mem_of_getElem? (i := 74) rfl))) rfl
set_option maxRecDepth 20000 in
theorem q_107 : (Jvm.Cond.fieldLink "BoilerDesk" (90 : Nat) "BoilerDesk$Inbox" "level" "I") ∈ lw_st := st_in (List.mem_append_right _ (List.mem_append_left _ (List.mem_of_getElem? (i := 75) rfl))) rfl
set_option maxRecDepth 20000 in
theorem q_108 : (Jvm.Cond.fieldLink "BoilerDesk$Inbox" (15 : Nat) "BoilerDesk$Inbox" "hasSteam" "Z") ∈ lw_st := st_in (List.mem_append_right _ (List.mem_append_left _ (List.mem_of_getElem? (i := 76) rfl))) rfl
set_option maxRecDepth 20000 in
theorem q_109 : (Jvm.Cond.fieldLink "BoilerDesk" (94 : Nat) "BoilerDesk$Inbox" "hasSteam" "Z") ∈ lw_st := st_in (List.mem_append_right _ (List.mem_append_left _ (List.mem_of_getElem? (i := 77) rfl))) rfl
set_option maxRecDepth 20000 in
theorem q_110 : (Jvm.Cond.fieldLink "BoilerDesk$Inbox" (25 : Nat) "BoilerDesk$Inbox" "steam" "I") ∈ lw_st := st_in (List.mem_append_right _ (List.mem_append_left _ (List.mem_of_getElem? (i := 78) rfl))) rfl
set_option maxRecDepth 20000 in
theorem q_111 : (Jvm.Cond.fieldLink "BoilerDesk" (97 : Nat) "BoilerDesk$Inbox" "steam" "I") ∈ lw_st := st_in (List.mem_append_right _ (List.mem_append_left _ (List.mem_of_getElem? (i := 79) rfl))) rfl
set_option maxRecDepth 20000 in
theorem q_112 : (Jvm.Cond.fieldLink "BoilerDesk$Inbox" (18 : Nat) "BoilerDesk$Inbox" "pumpsHeard" "I") ∈ lw_st := st_in (List.mem_append_right _ (List.mem_append_left _ (List.mem_of_getElem? (i := 80) rfl))) rfl
set_option maxRecDepth 20000 in
theorem q_113 : (Jvm.Cond.fieldLink "BoilerDesk" (102 : Nat) "BoilerDesk$Inbox" "pumpsHeard" "I") ∈ lw_st := st_in (List.mem_append_right _ (List.mem_append_left _ (List.mem_of_getElem? (i := 81) rfl))) rfl
set_option maxRecDepth 20000 in
theorem q_114 : (Jvm.Cond.fieldLink "BoilerDesk$Inbox" (28 : Nat) "BoilerDesk$Inbox" "pumpsSaidOn" "I") ∈ lw_st := st_in (List.mem_append_right _ (List.mem_append_left _ (List.mem_of_getElem? (i := 82) rfl))) rfl
set_option maxRecDepth 20000 in
theorem q_115 : (Jvm.Cond.fieldLink "BoilerDesk" (109 : Nat) "BoilerDesk$Inbox" "pumpsSaidOn" "I") ∈ lw_st := st_in (List.mem_append_right _ (List.mem_append_left _ (List.mem_of_getElem? (i := 83) rfl))) rfl
set_option maxRecDepth 20000 in
theorem q_116 : (Jvm.Cond.fieldLink "BoilerDesk$Inbox" (31 : Nat) "BoilerDesk$Inbox" "pumpsSaidGiving" "I") ∈ lw_st := st_in (List.mem_append_right _ (List.mem_append_left _ (List.mem_of_getElem? (i := 84) rfl))) rfl
set_option maxRecDepth 20000 in
theorem q_117 : (Jvm.Cond.fieldLink "BoilerDesk" (112 : Nat) "BoilerDesk$Inbox" "pumpsSaidGiving" "I") ∈ lw_st := st_in (List.mem_append_right _ (List.mem_append_left _ (List.mem_of_getElem? (i := 85) rfl))) rfl
set_option maxRecDepth 20000 in
theorem q_118 : (Jvm.Cond.fieldLink "BoilerDesk$Inbox" (34 : Nat) "BoilerDesk$Inbox" "waiting" "Z") ∈ lw_st := st_in (List.mem_append_right _ (List.mem_append_left _ (List.mem_of_getElem? (i := 86) rfl))) rfl
set_option maxRecDepth 20000 in
theorem q_119 : (Jvm.Cond.fieldLink "BoilerDesk" (115 : Nat) "BoilerDesk$Inbox" "waiting" "Z") ∈ lw_st := st_in (List.mem_append_right _ (List.mem_append_left _ (List.mem_of_getElem? (i := 87) rfl))) rfl
set_option maxRecDepth 20000 in
theorem q_120 : (Jvm.Cond.fieldLink "BoilerDesk$Inbox" (37 : Nat) "BoilerDesk$Inbox" "ready" "Z") ∈ lw_st := st_in (List.mem_append_right _ (List.mem_append_left _ (List.mem_of_getElem? (i := 88) rfl))) rfl
set_option maxRecDepth 20000 in
theorem q_121 : (Jvm.Cond.fieldLink "BoilerDesk" (118 : Nat) "BoilerDesk$Inbox" "ready" "Z") ∈ lw_st := st_in (List.mem_append_right _ (List.mem_append_left _ (List.mem_of_getElem? (i := 89) rfl))) rfl
set_option maxRecDepth 20000 in
theorem q_122 : (Jvm.Cond.fieldLink "BoilerDesk$Inbox" (40 : Nat) "BoilerDesk$Inbox" "stop" "Z") ∈ lw_st := st_in (List.mem_append_right _ (List.mem_append_left _ (List.mem_of_getElem? (i := 90) rfl))) rfl
set_option maxRecDepth 20000 in
theorem q_123 : (Jvm.Cond.fieldLink "BoilerDesk" (121 : Nat) "BoilerDesk$Inbox" "stop" "Z") ∈ lw_st := st_in (List.mem_append_right _ (List.mem_append_left _ (List.mem_of_getElem? (i := 91) rfl))) rfl
set_option maxRecDepth 20000 in
theorem q_124 : (Jvm.Cond.fieldLink "BoilerDesk$Inbox" (43 : Nat) "BoilerDesk$Inbox" "repairs" "I") ∈ lw_st := st_in (List.mem_append_right _ (List.mem_append_left _ (List.mem_of_getElem? (i := 92) rfl))) rfl
set_option maxRecDepth 20000 in
theorem q_125 : (Jvm.Cond.fieldLink "BoilerDesk" (128 : Nat) "BoilerDesk$Inbox" "repairs" "I") ∈ lw_st := st_in (List.mem_append_right _ (List.mem_append_left _ (List.mem_of_getElem? (i := 93) rfl))) rfl
set_option maxRecDepth 20000 in
theorem q_126 : (Jvm.Cond.fieldLink "BoilerDesk$Inbox" (46 : Nat) "BoilerDesk$Inbox" "acknowledgements" "I") ∈ lw_st := st_in (List.mem_append_right _ (List.mem_append_left _ (List.mem_of_getElem? (i := 94) rfl))) rfl
set_option maxRecDepth 20000 in
theorem q_127 : (Jvm.Cond.fieldLink "BoilerDesk" (131 : Nat) "BoilerDesk$Inbox" "acknowledgements" "I") ∈ lw_st := st_in (List.mem_append_right _ (List.mem_append_left _ (List.mem_of_getElem? (i := 95) rfl))) rfl
set_option maxRecDepth 20000 in
theorem q_128 : (Jvm.Cond.lays "BoilerDesk$Inbox" "BoilerDesk$Inbox" "hasLevel" "Z") ∈ lw_st := st_in (List.mem_append_right _ (List.mem_append_left _ (List.mem_of_getElem? (i := 96) rfl))) rfl
set_option maxRecDepth 20000 in
theorem q_130 : (Jvm.Cond.lays "BoilerDesk$Inbox" "BoilerDesk$Inbox" "level" "I") ∈ lw_st := st_in (List.mem_append_right _ (List.mem_append_left _ (List.mem_of_getElem? (i := 98) rfl))) rfl
set_option maxRecDepth 20000 in
theorem q_132 : (Jvm.Cond.lays "BoilerDesk$Inbox" "BoilerDesk$Inbox" "hasSteam" "Z") ∈ lw_st := st_in (List.mem_append_right _ (List.mem_append_left _ (List.mem_of_getElem? (i := 100) rfl))) rfl
set_option maxRecDepth 20000 in
theorem q_134 : (Jvm.Cond.lays "BoilerDesk$Inbox" "BoilerDesk$Inbox" "steam" "I") ∈ lw_st := st_in (List.mem_append_right _ (List.mem_append_left _ (List.mem_of_getElem? (i := 102) rfl))) rfl
set_option maxRecDepth 20000 in
theorem q_136 : (Jvm.Cond.lays "BoilerDesk$Inbox" "BoilerDesk$Inbox" "pumpsHeard" "I") ∈ lw_st := st_in (List.mem_append_right _ (List.mem_append_left _ (List.mem_of_getElem? (i := 104) rfl))) rfl
set_option maxRecDepth 20000 in
theorem q_138 : (Jvm.Cond.lays "BoilerDesk$Inbox" "BoilerDesk$Inbox" "pumpsSaidOn" "I") ∈ lw_st := st_in (List.mem_append_right _ (List.mem_append_left _ (List.mem_of_getElem? (i := 106) rfl))) rfl
set_option maxRecDepth 20000 in
theorem q_140 : (Jvm.Cond.lays "BoilerDesk$Inbox" "BoilerDesk$Inbox" "pumpsSaidGiving" "I") ∈ lw_st := st_in (List.mem_append_right _ (List.mem_append_left _ (List.mem_of_getElem? (i := 108) rfl))) rfl
set_option maxRecDepth 20000 in
theorem q_142 : (Jvm.Cond.lays "BoilerDesk$Inbox" "BoilerDesk$Inbox" "waiting" "Z") ∈ lw_st := st_in (List.mem_append_right _ (List.mem_append_left _ (List.mem_of_getElem? (i := 110) rfl))) rfl
set_option maxRecDepth 20000 in
theorem q_144 : (Jvm.Cond.lays "BoilerDesk$Inbox" "BoilerDesk$Inbox" "ready" "Z") ∈ lw_st := st_in (List.mem_append_right _ (List.mem_append_left _ (List.mem_of_getElem? (i := 112) rfl))) rfl
set_option maxRecDepth 20000 in
theorem q_146 : (Jvm.Cond.lays "BoilerDesk$Inbox" "BoilerDesk$Inbox" "stop" "Z") ∈ lw_st := st_in (List.mem_append_right _ (List.mem_append_left _ (List.mem_of_getElem? (i := 114) rfl))) rfl
set_option maxRecDepth 20000 in
theorem q_148 : (Jvm.Cond.lays "BoilerDesk$Inbox" "BoilerDesk$Inbox" "repairs" "I") ∈ lw_st := st_in (List.mem_append_right _ (List.mem_append_left _ (List.mem_of_getElem? (i := 116) rfl))) rfl
set_option maxRecDepth 20000 in
theorem q_150 : (Jvm.Cond.lays "BoilerDesk$Inbox" "BoilerDesk$Inbox" "acknowledgements" "I") ∈ lw_st := st_in (List.mem_append_right _ (List.mem_append_left _ (List.mem_of_getElem? (i := 118) rfl))) rfl
set_option maxRecDepth 20000 in
theorem q_153 : (Jvm.Cond.classLink "BoilerDesk" (23 : Nat) "BoilerDesk$Units") ∈ lw_st := st_in (List.mem_append_right _ (List.mem_append_left _ (List.mem_of_getElem? (i := 121) rfl))) rfl
set_option maxRecDepth 20000 in
theorem q_154 : (Jvm.Cond.instantiable "BoilerDesk$Units" (2 : Nat)) ∈ lw_st := st_in (List.mem_append_right _ (List.mem_append_left _ (List.mem_of_getElem? (i := 122) rfl))) rfl
set_option maxRecDepth 20000 in
theorem q_155 : (Jvm.Cond.methodLinkNest "BoilerDesk" (25 : Nat) ({ cls := "BoilerDesk$Units", name := "<init>", desc := "()V" } : Jvm.MethodName) "BoilerDesk") ∈ lw_st := st_in (List.mem_append_right _ (List.mem_append_left _ (List.mem_of_getElem? (i := 123) rfl))) rfl
set_option maxRecDepth 20000 in
theorem q_156 : (Jvm.Cond.instanceMethod ({ cls := "BoilerDesk$Units", name := "<init>", desc := "()V" } : Jvm.MethodName)) ∈ lw_st := st_in (List.mem_append_right _ (List.mem_append_left _ (List.mem_of_getElem? (i := 124) rfl))) rfl
set_option maxRecDepth 20000 in
theorem q_157 : (Jvm.Cond.code ({ cls := "BoilerDesk$Units", name := "<init>", desc := "()V" } : Jvm.MethodName) prog_7_method_1_code (1 : Nat) (Option.none : Option Jvm.ClassFile.FieldType)) ∈ lw_st := st_in (List.mem_append_right _ (List.mem_append_left _ (List.mem_of_getElem? (i := 125) rfl))) rfl
set_option maxRecDepth 20000 in
theorem q_158 : (Jvm.Cond.methodLink "BoilerDesk$Units" (1 : Nat) ({ cls := "java/lang/Object", name := "<init>", desc := "()V" } : Jvm.MethodName)) ∈ lw_st := st_in (List.mem_append_right _ (List.mem_append_left _ (List.mem_of_getElem? (i := 126) rfl))) rfl
set_option maxRecDepth 20000 in
theorem q_159 : (Jvm.Cond.fieldLink "BoilerDesk$Units" (7 : Nat) "BoilerDesk$Units" "failed" "I") ∈ lw_st := st_in (List.mem_append_right _ (List.mem_append_left _ (List.mem_of_getElem? (i := 127) rfl))) rfl
set_option maxRecDepth 20000 in
theorem q_160 : (Jvm.Cond.fieldLink "BoilerDesk" (182 : Nat) "BoilerDesk$Units" "failed" "I") ∈ lw_st := st_in (List.mem_append_right _ (List.mem_append_left _ (List.mem_of_getElem? (i := 128) rfl))) rfl
set_option maxRecDepth 20000 in
theorem q_161 : (Jvm.Cond.fieldLink "BoilerDesk$Units" (19 : Nat) "BoilerDesk$Units" "acknowledged" "I") ∈ lw_st := st_in (List.mem_append_right _ (List.mem_append_left _ (List.mem_of_getElem? (i := 129) rfl))) rfl
set_option maxRecDepth 20000 in
theorem q_162 : (Jvm.Cond.fieldLink "BoilerDesk" (185 : Nat) "BoilerDesk$Units" "acknowledged" "I") ∈ lw_st := st_in (List.mem_append_right _ (List.mem_append_left _ (List.mem_of_getElem? (i := 130) rfl))) rfl
set_option maxRecDepth 20000 in
theorem q_163 : (Jvm.Cond.lays "BoilerDesk$Units" "BoilerDesk$Units" "failed" "I") ∈ lw_st := st_in (List.mem_append_right _ (List.mem_append_left _ (List.mem_of_getElem? (i := 131) rfl))) rfl
set_option maxRecDepth 20000 in
theorem q_165 : (Jvm.Cond.lays "BoilerDesk$Units" "BoilerDesk$Units" "acknowledged" "I") ∈ lw_st := st_in (List.mem_append_right _ (List.mem_append_left _ (List.mem_of_getElem? (i := 133) rfl))) rfl
set_option maxRecDepth 20000 in
theorem q_168 : (Jvm.Cond.classLink "BoilerDesk" (30 : Nat) "BoilerDesk$Machines") ∈ lw_st := st_in (List.mem_append_right _ (List.mem_append_left _ (List.mem_of_getElem? (i := 136) rfl))) rfl
set_option maxRecDepth 20000 in
theorem q_169 : (Jvm.Cond.instantiable "BoilerDesk$Machines" (4 : Nat)) ∈ lw_st := st_in (List.mem_append_right _ (List.mem_append_left _ (List.mem_of_getElem? (i := 137) rfl))) rfl
set_option maxRecDepth 20000 in
theorem q_170 : (Jvm.Cond.methodLinkNest "BoilerDesk" (32 : Nat) ({ cls := "BoilerDesk$Machines", name := "<init>", desc := "()V" } : Jvm.MethodName) "BoilerDesk") ∈ lw_st := st_in (List.mem_append_right _ (List.mem_append_left _ (List.mem_of_getElem? (i := 138) rfl))) rfl
set_option maxRecDepth 20000 in
theorem q_171 : (Jvm.Cond.instanceMethod ({ cls := "BoilerDesk$Machines", name := "<init>", desc := "()V" } : Jvm.MethodName)) ∈ lw_st := st_in (List.mem_append_right _ (List.mem_append_left _ (List.mem_of_getElem? (i := 139) rfl))) rfl
set_option maxRecDepth 20000 in
theorem q_172 : (Jvm.Cond.code ({ cls := "BoilerDesk$Machines", name := "<init>", desc := "()V" } : Jvm.MethodName) prog_3_method_1_code (1 : Nat) (Option.none : Option Jvm.ClassFile.FieldType)) ∈ lw_st := st_in (List.mem_append_right _ (List.mem_append_left _ (List.mem_of_getElem? (i := 140) rfl))) rfl
set_option maxRecDepth 20000 in
theorem q_173 : (Jvm.Cond.methodLink "BoilerDesk$Machines" (3 : Nat) ({ cls := "java/lang/Object", name := "<init>", desc := "()V" } : Jvm.MethodName)) ∈ lw_st := st_in (List.mem_append_right _ (List.mem_append_left _ (List.mem_of_getElem? (i := 141) rfl))) rfl
set_option maxRecDepth 20000 in
theorem q_174 : (Jvm.Cond.fieldLink "BoilerDesk$Machines" (9 : Nat) "BoilerDesk$Machines" "pumpsOn" "I") ∈ lw_st := st_in (List.mem_append_right _ (List.mem_append_left _ (List.mem_of_getElem? (i := 142) rfl))) rfl
set_option maxRecDepth 20000 in
theorem q_175 : (Jvm.Cond.fieldLink "BoilerDesk" (188 : Nat) "BoilerDesk$Machines" "pumpsOn" "I") ∈ lw_st := st_in (List.mem_append_right _ (List.mem_append_left _ (List.mem_of_getElem? (i := 143) rfl))) rfl
set_option maxRecDepth 20000 in
theorem q_176 : (Jvm.Cond.fieldLink "BoilerDesk$Machines" (15 : Nat) "BoilerDesk$Machines" "pumpsOnBefore" "I") ∈ lw_st := st_in (List.mem_append_right _ (List.mem_append_left _ (List.mem_of_getElem? (i := 144) rfl))) rfl
set_option maxRecDepth 20000 in
theorem q_177 : (Jvm.Cond.fieldLink "BoilerDesk" (312 : Nat) "BoilerDesk$Machines" "pumpsOnBefore" "I") ∈ lw_st := st_in (List.mem_append_right _ (List.mem_append_left _ (List.mem_of_getElem? (i := 145) rfl))) rfl
set_option maxRecDepth 20000 in
theorem q_178 : (Jvm.Cond.fieldLink "BoilerDesk$Machines" (18 : Nat) "BoilerDesk$Machines" "pumpsSaidGivingBefore" "I") ∈ lw_st := st_in (List.mem_append_right _ (List.mem_append_left _ (List.mem_of_getElem? (i := 146) rfl))) rfl
set_option maxRecDepth 20000 in
theorem q_179 : (Jvm.Cond.fieldLink "BoilerDesk$Machines" (25 : Nat) "BoilerDesk$Machines" "valveOpen" "Z") ∈ lw_st := st_in (List.mem_append_right _ (List.mem_append_left _ (List.mem_of_getElem? (i := 147) rfl))) rfl
set_option maxRecDepth 20000 in
theorem q_180 : (Jvm.Cond.fieldLink "BoilerDesk" (191 : Nat) "BoilerDesk$Machines" "valveOpen" "Z") ∈ lw_st := st_in (List.mem_append_right _ (List.mem_append_left _ (List.mem_of_getElem? (i := 148) rfl))) rfl
set_option maxRecDepth 20000 in
theorem q_181 : (Jvm.Cond.lays "BoilerDesk$Machines" "BoilerDesk$Machines" "pumpsOn" "I") ∈ lw_st := st_in (List.mem_append_right _ (List.mem_append_left _ (List.mem_of_getElem? (i := 149) rfl))) rfl
set_option maxRecDepth 20000 in
theorem q_183 : (Jvm.Cond.lays "BoilerDesk$Machines" "BoilerDesk$Machines" "pumpsOnBefore" "I") ∈ lw_st := st_in (List.mem_append_right _ (List.mem_append_left _ (List.mem_of_getElem? (i := 151) rfl))) rfl
set_option maxRecDepth 20000 in
theorem q_185 : (Jvm.Cond.lays "BoilerDesk$Machines" "BoilerDesk$Machines" "pumpsSaidGivingBefore" "I") ∈ lw_st := st_in (List.mem_append_right _ (List.mem_append_left _ (List.mem_of_getElem? (i := 153) rfl))) rfl
set_option maxRecDepth 20000 in
theorem q_187 : (Jvm.Cond.lays "BoilerDesk$Machines" "BoilerDesk$Machines" "valveOpen" "Z") ∈ lw_st := st_in (List.mem_append_right _ (List.mem_append_left _ (List.mem_of_getElem? (i := 155) rfl))) rfl
set_option maxRecDepth 20000 in
theorem q_190 : (Jvm.Cond.classLink "BoilerDesk" (37 : Nat) "BoilerDesk$Report") ∈ lw_st := st_in (List.mem_append_right _ (List.mem_append_left _ (List.mem_of_getElem? (i := 158) rfl))) rfl
set_option maxRecDepth 20000 in
theorem q_191 : (Jvm.Cond.instantiable "BoilerDesk$Report" (7 : Nat)) ∈ lw_st := st_in (List.mem_append_right _ (List.mem_append_left _ (List.mem_of_getElem? (i := 159) rfl))) rfl
set_option maxRecDepth 20000 in
theorem q_192 : (Jvm.Cond.methodLinkNest "BoilerDesk" (39 : Nat) ({ cls := "BoilerDesk$Report", name := "<init>", desc := "()V" } : Jvm.MethodName) "BoilerDesk") ∈ lw_st := st_in (List.mem_append_right _ (List.mem_append_left _ (List.mem_of_getElem? (i := 160) rfl))) rfl
set_option maxRecDepth 20000 in
theorem q_193 : (Jvm.Cond.instanceMethod ({ cls := "BoilerDesk$Report", name := "<init>", desc := "()V" } : Jvm.MethodName)) ∈ lw_st := st_in (List.mem_append_right _ (List.mem_append_left _ (List.mem_of_getElem? (i := 161) rfl))) rfl
set_option maxRecDepth 20000 in
theorem q_194 : (Jvm.Cond.code ({ cls := "BoilerDesk$Report", name := "<init>", desc := "()V" } : Jvm.MethodName) prog_5_method_1_code (1 : Nat) (Option.none : Option Jvm.ClassFile.FieldType)) ∈ lw_st := st_in (List.mem_append_right _ (List.mem_append_left _ (List.mem_of_getElem? (i := 162) rfl))) rfl
set_option maxRecDepth 20000 in
theorem q_195 : (Jvm.Cond.methodLink "BoilerDesk$Report" (1 : Nat) ({ cls := "java/lang/Object", name := "<init>", desc := "()V" } : Jvm.MethodName)) ∈ lw_st := st_in (List.mem_append_right _ (List.mem_append_left _ (List.mem_of_getElem? (i := 163) rfl))) rfl
set_option maxRecDepth 20000 in
theorem q_196 : (Jvm.Cond.fieldLink "BoilerDesk$Report" (7 : Nat) "BoilerDesk$Report" "pumpsTurnedOn" "I") ∈ lw_st := st_in (List.mem_append_right _ (List.mem_append_left _ (List.mem_of_getElem? (i := 164) rfl))) rfl
set_option maxRecDepth 20000 in
theorem q_197 : (Jvm.Cond.fieldLink "BoilerDesk" (153 : Nat) "BoilerDesk$Report" "pumpsTurnedOn" "I") ∈ lw_st := st_in (List.mem_append_right _ (List.mem_append_left _ (List.mem_of_getElem? (i := 165) rfl))) rfl
set_option maxRecDepth 20000 in
theorem q_198 : (Jvm.Cond.fieldLink "BoilerDesk$Report" (13 : Nat) "BoilerDesk$Report" "pumpsShut" "I") ∈ lw_st := st_in (List.mem_append_right _ (List.mem_append_left _ (List.mem_of_getElem? (i := 166) rfl))) rfl
set_option maxRecDepth 20000 in
theorem q_199 : (Jvm.Cond.fieldLink "BoilerDesk" (156 : Nat) "BoilerDesk$Report" "pumpsShut" "I") ∈ lw_st := st_in (List.mem_append_right _ (List.mem_append_left _ (List.mem_of_getElem? (i := 167) rfl))) rfl
set_option maxRecDepth 20000 in
theorem q_200 : (Jvm.Cond.fieldLink "BoilerDesk$Report" (16 : Nat) "BoilerDesk$Report" "valveOpened" "Z") ∈ lw_st := st_in (List.mem_append_right _ (List.mem_append_left _ (List.mem_of_getElem? (i := 168) rfl))) rfl
set_option maxRecDepth 20000 in
theorem q_201 : (Jvm.Cond.fieldLink "BoilerDesk" (159 : Nat) "BoilerDesk$Report" "valveOpened" "Z") ∈ lw_st := st_in (List.mem_append_right _ (List.mem_append_left _ (List.mem_of_getElem? (i := 169) rfl))) rfl
set_option maxRecDepth 20000 in
theorem q_202 : (Jvm.Cond.fieldLink "BoilerDesk$Report" (20 : Nat) "BoilerDesk$Report" "valveShut" "Z") ∈ lw_st := st_in (List.mem_append_right _ (List.mem_append_left _ (List.mem_of_getElem? (i := 170) rfl))) rfl
set_option maxRecDepth 20000 in
theorem q_203 : (Jvm.Cond.fieldLink "BoilerDesk" (162 : Nat) "BoilerDesk$Report" "valveShut" "Z") ∈ lw_st := st_in (List.mem_append_right _ (List.mem_append_left _ (List.mem_of_getElem? (i := 171) rfl))) rfl
set_option maxRecDepth 20000 in
theorem q_204 : (Jvm.Cond.fieldLink "BoilerDesk$Report" (23 : Nat) "BoilerDesk$Report" "detected" "I") ∈ lw_st := st_in (List.mem_append_right _ (List.mem_append_left _ (List.mem_of_getElem? (i := 172) rfl))) rfl
set_option maxRecDepth 20000 in
theorem q_205 : (Jvm.Cond.fieldLink "BoilerDesk" (165 : Nat) "BoilerDesk$Report" "detected" "I") ∈ lw_st := st_in (List.mem_append_right _ (List.mem_append_left _ (List.mem_of_getElem? (i := 173) rfl))) rfl
set_option maxRecDepth 20000 in
theorem q_206 : (Jvm.Cond.fieldLink "BoilerDesk$Report" (26 : Nat) "BoilerDesk$Report" "repaired" "I") ∈ lw_st := st_in (List.mem_append_right _ (List.mem_append_left _ (List.mem_of_getElem? (i := 174) rfl))) rfl
set_option maxRecDepth 20000 in
theorem q_207 : (Jvm.Cond.fieldLink "BoilerDesk" (168 : Nat) "BoilerDesk$Report" "repaired" "I") ∈ lw_st := st_in (List.mem_append_right _ (List.mem_append_left _ (List.mem_of_getElem? (i := 175) rfl))) rfl
set_option maxRecDepth 20000 in
theorem q_208 : (Jvm.Cond.fieldLink "BoilerDesk$Report" (29 : Nat) "BoilerDesk$Report" "programReady" "Z") ∈ lw_st := st_in (List.mem_append_right _ (List.mem_append_left _ (List.mem_of_getElem? (i := 176) rfl))) rfl
set_option maxRecDepth 20000 in
theorem q_209 : (Jvm.Cond.fieldLink "BoilerDesk" (171 : Nat) "BoilerDesk$Report" "programReady" "Z") ∈ lw_st := st_in (List.mem_append_right _ (List.mem_append_left _ (List.mem_of_getElem? (i := 177) rfl))) rfl
set_option maxRecDepth 20000 in
theorem q_210 : (Jvm.Cond.lays "BoilerDesk$Report" "BoilerDesk$Report" "pumpsTurnedOn" "I") ∈ lw_st := st_in (List.mem_append_right _ (List.mem_append_left _ (List.mem_of_getElem? (i := 178) rfl))) rfl
set_option maxRecDepth 20000 in
theorem q_212 : (Jvm.Cond.lays "BoilerDesk$Report" "BoilerDesk$Report" "pumpsShut" "I") ∈ lw_st := st_in (List.mem_append_right _ (List.mem_append_left _ (List.mem_of_getElem? (i := 180) rfl))) rfl
set_option maxRecDepth 20000 in
theorem q_214 : (Jvm.Cond.lays "BoilerDesk$Report" "BoilerDesk$Report" "valveOpened" "Z") ∈ lw_st := st_in (List.mem_append_right _ (List.mem_append_left _ (List.mem_of_getElem? (i := 182) rfl))) rfl
set_option maxRecDepth 20000 in
theorem q_216 : (Jvm.Cond.lays "BoilerDesk$Report" "BoilerDesk$Report" "valveShut" "Z") ∈ lw_st := st_in (List.mem_append_right _ (List.mem_append_left _ (List.mem_of_getElem? (i := 184) rfl))) rfl
set_option maxRecDepth 20000 in
theorem q_218 : (Jvm.Cond.lays "BoilerDesk$Report" "BoilerDesk$Report" "detected" "I") ∈ lw_st := st_in (List.mem_append_right _ (List.mem_append_left _ (List.mem_of_getElem? (i := 186) rfl))) rfl
set_option maxRecDepth 20000 in
theorem q_220 : (Jvm.Cond.lays "BoilerDesk$Report" "BoilerDesk$Report" "repaired" "I") ∈ lw_st := st_in (List.mem_append_right _ (List.mem_append_left _ (List.mem_of_getElem? (i := 188) rfl))) rfl
set_option maxRecDepth 20000 in
theorem q_222 : (Jvm.Cond.lays "BoilerDesk$Report" "BoilerDesk$Report" "programReady" "Z") ∈ lw_st := st_in (List.mem_append_right _ (List.mem_append_left _ (List.mem_of_getElem? (i := 190) rfl))) rfl
set_option maxRecDepth 20000 in
theorem q_225 : (Jvm.Cond.classLink "BoilerDesk" (44 : Nat) "BoilerDesk$Span") ∈ lw_st := st_in (List.mem_append_right _ (List.mem_append_left _ (List.mem_of_getElem? (i := 193) rfl))) rfl
set_option maxRecDepth 20000 in
theorem q_226 : (Jvm.Cond.instantiable "BoilerDesk$Span" (2 : Nat)) ∈ lw_st := st_in (List.mem_append_right _ (List.mem_append_left _ (List.mem_of_getElem? (i := 194) rfl))) rfl
set_option maxRecDepth 20000 in
theorem q_227 : (Jvm.Cond.methodLinkNest "BoilerDesk" (46 : Nat) ({ cls := "BoilerDesk$Span", name := "<init>", desc := "()V" } : Jvm.MethodName) "BoilerDesk") ∈ lw_st := st_in (List.mem_append_right _ (List.mem_append_left _ (List.mem_of_getElem? (i := 195) rfl))) rfl
set_option maxRecDepth 20000 in
theorem q_228 : (Jvm.Cond.instanceMethod ({ cls := "BoilerDesk$Span", name := "<init>", desc := "()V" } : Jvm.MethodName)) ∈ lw_st := st_in (List.mem_append_right _ (List.mem_append_left _ (List.mem_of_getElem? (i := 196) rfl))) rfl
set_option maxRecDepth 20000 in
theorem q_229 : (Jvm.Cond.code ({ cls := "BoilerDesk$Span", name := "<init>", desc := "()V" } : Jvm.MethodName) prog_6_method_1_code (1 : Nat) (Option.none : Option Jvm.ClassFile.FieldType)) ∈ lw_st := st_in (List.mem_append_right _ (List.mem_append_left _ (List.mem_of_getElem? (i := 197) rfl))) rfl
set_option maxRecDepth 20000 in
theorem q_230 : (Jvm.Cond.methodLink "BoilerDesk$Span" (1 : Nat) ({ cls := "java/lang/Object", name := "<init>", desc := "()V" } : Jvm.MethodName)) ∈ lw_st := st_in (List.mem_append_right _ (List.mem_append_left _ (List.mem_of_getElem? (i := 198) rfl))) rfl
set_option maxRecDepth 20000 in
theorem q_231 : (Jvm.Cond.fieldLink "BoilerDesk$Span" (7 : Nat) "BoilerDesk$Span" "from" "I") ∈ lw_st := st_in (List.mem_append_right _ (List.mem_append_left _ (List.mem_of_getElem? (i := 199) rfl))) rfl
set_option maxRecDepth 20000 in
theorem q_232 : (Jvm.Cond.fieldLink "BoilerDesk" (176 : Nat) "BoilerDesk$Span" "from" "I") ∈ lw_st := st_in (List.mem_append_right _ (List.mem_append_left _ (List.mem_of_getElem? (i := 200) rfl))) rfl
set_option maxRecDepth 20000 in
theorem q_233 : (Jvm.Cond.fieldLink "BoilerDesk$Span" (13 : Nat) "BoilerDesk$Span" "to" "I") ∈ lw_st := st_in (List.mem_append_right _ (List.mem_append_left _ (List.mem_of_getElem? (i := 201) rfl))) rfl
set_option maxRecDepth 20000 in
theorem q_234 : (Jvm.Cond.fieldLink "BoilerDesk" (179 : Nat) "BoilerDesk$Span" "to" "I") ∈ lw_st := st_in (List.mem_append_right _ (List.mem_append_left _ (List.mem_of_getElem? (i := 202) rfl))) rfl
set_option maxRecDepth 20000 in
theorem q_235 : (Jvm.Cond.lays "BoilerDesk$Span" "BoilerDesk$Span" "from" "I") ∈ lw_st := st_in (List.mem_append_right _ (List.mem_append_left _ (List.mem_of_getElem? (i := 203) rfl))) rfl
set_option maxRecDepth 20000 in
theorem q_237 : (Jvm.Cond.lays "BoilerDesk$Span" "BoilerDesk$Span" "to" "I") ∈ lw_st := st_in (List.mem_append_right _ (List.mem_append_left _ (List.mem_of_getElem? (i := 205) rfl))) rfl
set_option maxRecDepth 20000 in
theorem q_240 : (Jvm.Cond.methodLink "BoilerDesk" (60 : Nat) ({ cls := "BoilerDesk$Plant", name := "setLimits", desc := "(IIIII)V" } : Jvm.MethodName)) ∈ lw_st := st_in (List.mem_append_right _ (List.mem_append_left _ (List.mem_of_getElem? (i := 208) rfl))) rfl
set_option maxRecDepth 20000 in
theorem q_241 : (Jvm.Cond.instanceMethod ({ cls := "BoilerDesk$Plant", name := "setLimits", desc := "(IIIII)V" } : Jvm.MethodName)) ∈ lw_st := st_in (List.mem_append_right _ (List.mem_append_left _ (List.mem_of_getElem? (i := 209) rfl))) rfl
set_option maxRecDepth 20000 in
theorem q_242 : (Jvm.Cond.selects "BoilerDesk$Plant" ({ cls := "BoilerDesk$Plant", name := "setLimits", desc := "(IIIII)V" } : Jvm.MethodName) ({ cls := "BoilerDesk$Plant", name := "setLimits", desc := "(IIIII)V" } : Jvm.MethodName)) ∈ lw_st := st_in (List.mem_append_right _ (List.mem_append_left _ (List.mem_of_getElem? (i := 210) rfl))) rfl
set_option maxRecDepth 20000 in
theorem q_243 : (Jvm.Cond.code ({ cls := "BoilerDesk$Plant", name := "setLimits", desc := "(IIIII)V" } : Jvm.MethodName) prog_4_method_2_code (6 : Nat) (Option.none : Option Jvm.ClassFile.FieldType)) ∈ lw_st := st_in (List.mem_append_right _ (List.mem_append_left _ (List.mem_of_getElem? (i := 211) rfl))) rfl
set_option maxRecDepth 20000 in
theorem q_244 : (Jvm.Cond.methodLink "BoilerDesk" (64 : Nat) ({ cls := "BoilerDesk$Plant", name := "setRates", desc := "(IIII)V" } : Jvm.MethodName)) ∈ lw_st := st_in (List.mem_append_right _ (List.mem_append_left _ (List.mem_of_getElem? (i := 212) rfl))) rfl
set_option maxRecDepth 20000 in
theorem q_245 : (Jvm.Cond.instanceMethod ({ cls := "BoilerDesk$Plant", name := "setRates", desc := "(IIII)V" } : Jvm.MethodName)) ∈ lw_st := st_in (List.mem_append_right _ (List.mem_append_left _ (List.mem_of_getElem? (i := 213) rfl))) rfl
set_option maxRecDepth 20000 in
theorem q_246 : (Jvm.Cond.selects "BoilerDesk$Plant" ({ cls := "BoilerDesk$Plant", name := "setRates", desc := "(IIII)V" } : Jvm.MethodName) ({ cls := "BoilerDesk$Plant", name := "setRates", desc := "(IIII)V" } : Jvm.MethodName)) ∈ lw_st := st_in (List.mem_append_right _ (List.mem_append_left _ (List.mem_of_getElem? (i := 214) rfl))) rfl
set_option maxRecDepth 20000 in
theorem q_247 : (Jvm.Cond.code ({ cls := "BoilerDesk$Plant", name := "setRates", desc := "(IIII)V" } : Jvm.MethodName) prog_4_method_3_code (5 : Nat) (Option.none : Option Jvm.ClassFile.FieldType)) ∈ lw_st := st_in (List.mem_append_right _ (List.mem_append_left _ (List.mem_of_getElem? (i := 215) rfl))) rfl
set_option maxRecDepth 20000 in
theorem q_248 : (Jvm.Cond.methodLink "BoilerDesk" (68 : Nat) ({ cls := "BoilerDesk", name := "startAnew", desc := "()V" } : Jvm.MethodName)) ∈ lw_st := st_in (List.mem_append_right _ (List.mem_append_left _ (List.mem_of_getElem? (i := 216) rfl))) rfl
set_option maxRecDepth 20000 in
theorem q_250 : (Jvm.Cond.instanceMethod ({ cls := "BoilerDesk", name := "startAnew", desc := "()V" } : Jvm.MethodName)) ∈ lw_st := st_in (List.mem_append_right _ (List.mem_append_left _ (List.mem_of_getElem? (i := 218) rfl))) rfl
set_option maxRecDepth 20000 in
theorem q_251 : (Jvm.Cond.code ({ cls := "BoilerDesk", name := "startAnew", desc := "()V" } : Jvm.MethodName) prog_1_method_13_code (1 : Nat) (Option.none : Option Jvm.ClassFile.FieldType)) ∈ lw_st := st_in (List.mem_append_right _ (List.mem_append_left _ (List.mem_of_getElem? (i := 219) rfl))) rfl
set_option maxRecDepth 20000 in
theorem q_252 : (Jvm.Cond.methodLink "BoilerDesk" (152 : Nat) ({ cls := "BoilerDesk$Inbox", name := "clear", desc := "()V" } : Jvm.MethodName)) ∈ lw_st := st_in (List.mem_append_right _ (List.mem_append_left _ (List.mem_of_getElem? (i := 220) rfl))) rfl
set_option maxRecDepth 20000 in
theorem q_253 : (Jvm.Cond.instanceMethod ({ cls := "BoilerDesk$Inbox", name := "clear", desc := "()V" } : Jvm.MethodName)) ∈ lw_st := st_in (List.mem_append_right _ (List.mem_append_left _ (List.mem_of_getElem? (i := 221) rfl))) rfl
set_option maxRecDepth 20000 in
theorem q_254 : (Jvm.Cond.selects "BoilerDesk$Inbox" ({ cls := "BoilerDesk$Inbox", name := "clear", desc := "()V" } : Jvm.MethodName) ({ cls := "BoilerDesk$Inbox", name := "clear", desc := "()V" } : Jvm.MethodName)) ∈ lw_st := st_in (List.mem_append_right _ (List.mem_append_left _ (List.mem_of_getElem? (i := 222) rfl))) rfl
set_option maxRecDepth 20000 in
theorem q_255 : (Jvm.Cond.code ({ cls := "BoilerDesk$Inbox", name := "clear", desc := "()V" } : Jvm.MethodName) prog_2_method_3_code (1 : Nat) (Option.none : Option Jvm.ClassFile.FieldType)) ∈ lw_st := st_in (List.mem_append_right _ (List.mem_append_left _ (List.mem_of_getElem? (i := 223) rfl))) rfl
set_option maxRecDepth 20000 in
theorem q_256 : (Jvm.Cond.methodLink "BoilerDesk" (207 : Nat) ({ cls := "BoilerDesk$Units", name := "clear", desc := "()V" } : Jvm.MethodName)) ∈ lw_st := st_in (List.mem_append_right _ (List.mem_append_left _ (List.mem_of_getElem? (i := 224) rfl))) rfl
set_option maxRecDepth 20000 in
theorem q_257 : (Jvm.Cond.instanceMethod ({ cls := "BoilerDesk$Units", name := "clear", desc := "()V" } : Jvm.MethodName)) ∈ lw_st := st_in (List.mem_append_right _ (List.mem_append_left _ (List.mem_of_getElem? (i := 225) rfl))) rfl
set_option maxRecDepth 20000 in
theorem q_258 : (Jvm.Cond.selects "BoilerDesk$Units" ({ cls := "BoilerDesk$Units", name := "clear", desc := "()V" } : Jvm.MethodName) ({ cls := "BoilerDesk$Units", name := "clear", desc := "()V" } : Jvm.MethodName)) ∈ lw_st := st_in (List.mem_append_right _ (List.mem_append_left _ (List.mem_of_getElem? (i := 226) rfl))) rfl
set_option maxRecDepth 20000 in
theorem q_259 : (Jvm.Cond.code ({ cls := "BoilerDesk$Units", name := "clear", desc := "()V" } : Jvm.MethodName) prog_7_method_7_code (1 : Nat) (Option.none : Option Jvm.ClassFile.FieldType)) ∈ lw_st := st_in (List.mem_append_right _ (List.mem_append_left _ (List.mem_of_getElem? (i := 227) rfl))) rfl
set_option maxRecDepth 20000 in
theorem q_260 : (Jvm.Cond.methodLink "BoilerDesk" (208 : Nat) ({ cls := "BoilerDesk$Machines", name := "clear", desc := "()V" } : Jvm.MethodName)) ∈ lw_st := st_in (List.mem_append_right _ (List.mem_append_left _ (List.mem_of_getElem? (i := 228) rfl))) rfl
set_option maxRecDepth 20000 in
theorem q_261 : (Jvm.Cond.instanceMethod ({ cls := "BoilerDesk$Machines", name := "clear", desc := "()V" } : Jvm.MethodName)) ∈ lw_st := st_in (List.mem_append_right _ (List.mem_append_left _ (List.mem_of_getElem? (i := 229) rfl))) rfl
set_option maxRecDepth 20000 in
theorem q_262 : (Jvm.Cond.selects "BoilerDesk$Machines" ({ cls := "BoilerDesk$Machines", name := "clear", desc := "()V" } : Jvm.MethodName) ({ cls := "BoilerDesk$Machines", name := "clear", desc := "()V" } : Jvm.MethodName)) ∈ lw_st := st_in (List.mem_append_right _ (List.mem_append_left _ (List.mem_of_getElem? (i := 230) rfl))) rfl
set_option maxRecDepth 20000 in
theorem q_263 : (Jvm.Cond.code ({ cls := "BoilerDesk$Machines", name := "clear", desc := "()V" } : Jvm.MethodName) prog_3_method_6_code (1 : Nat) (Option.none : Option Jvm.ClassFile.FieldType)) ∈ lw_st := st_in (List.mem_append_right _ (List.mem_append_left _ (List.mem_of_getElem? (i := 231) rfl))) rfl
set_option maxRecDepth 20000 in
theorem q_264 : (Jvm.Cond.methodLink "BoilerDesk" (143 : Nat) ({ cls := "BoilerDesk$Report", name := "clear", desc := "()V" } : Jvm.MethodName)) ∈ lw_st := st_in (List.mem_append_right _ (List.mem_append_left _ (List.mem_of_getElem? (i := 232) rfl))) rfl
set_option maxRecDepth 20000 in
theorem q_265 : (Jvm.Cond.instanceMethod ({ cls := "BoilerDesk$Report", name := "clear", desc := "()V" } : Jvm.MethodName)) ∈ lw_st := st_in (List.mem_append_right _ (List.mem_append_left _ (List.mem_of_getElem? (i := 233) rfl))) rfl
set_option maxRecDepth 20000 in
theorem q_266 : (Jvm.Cond.selects "BoilerDesk$Report" ({ cls := "BoilerDesk$Report", name := "clear", desc := "()V" } : Jvm.MethodName) ({ cls := "BoilerDesk$Report", name := "clear", desc := "()V" } : Jvm.MethodName)) ∈ lw_st := st_in (List.mem_append_right _ (List.mem_append_left _ (List.mem_of_getElem? (i := 234) rfl))) rfl
set_option maxRecDepth 20000 in
theorem q_267 : (Jvm.Cond.code ({ cls := "BoilerDesk$Report", name := "clear", desc := "()V" } : Jvm.MethodName) prog_5_method_2_code (1 : Nat) (Option.none : Option Jvm.ClassFile.FieldType)) ∈ lw_st := st_in (List.mem_append_right _ (List.mem_append_left _ (List.mem_of_getElem? (i := 235) rfl))) rfl
set_option maxRecDepth 20000 in
theorem q_268 : (Jvm.Cond.methodLink "BoilerDesk" (212 : Nat) ({ cls := "BoilerDesk$Span", name := "put", desc := "(II)V" } : Jvm.MethodName)) ∈ lw_st := st_in (List.mem_append_right _ (List.mem_append_left _ (List.mem_of_getElem? (i := 236) rfl))) rfl
set_option maxRecDepth 20000 in
theorem q_269 : (Jvm.Cond.instanceMethod ({ cls := "BoilerDesk$Span", name := "put", desc := "(II)V" } : Jvm.MethodName)) ∈ lw_st := st_in (List.mem_append_right _ (List.mem_append_left _ (List.mem_of_getElem? (i := 237) rfl))) rfl
set_option maxRecDepth 20000 in
theorem q_270 : (Jvm.Cond.selects "BoilerDesk$Span" ({ cls := "BoilerDesk$Span", name := "put", desc := "(II)V" } : Jvm.MethodName) ({ cls := "BoilerDesk$Span", name := "put", desc := "(II)V" } : Jvm.MethodName)) ∈ lw_st := st_in (List.mem_append_right _ (List.mem_append_left _ (List.mem_of_getElem? (i := 238) rfl))) rfl
set_option maxRecDepth 20000 in
theorem q_271 : (Jvm.Cond.code ({ cls := "BoilerDesk$Span", name := "put", desc := "(II)V" } : Jvm.MethodName) prog_6_method_2_code (3 : Nat) (Option.none : Option Jvm.ClassFile.FieldType)) ∈ lw_st := st_in (List.mem_append_right _ (List.mem_append_left _ (List.mem_of_getElem? (i := 239) rfl))) rfl
set_option maxRecDepth 20000 in
theorem q_272 : (Jvm.Cond.fieldLink "BoilerDesk" (12 : Nat) "BoilerDesk" "plant" "LBoilerDesk$Plant;") ∈ lw_st := st_in (List.mem_append_right _ (List.mem_append_right _ (List.mem_append_left _ (List.mem_of_getElem? (i := 0) rfl)))) rfl
set_option maxRecDepth 20000 in
theorem q_273 : (Jvm.Cond.fieldLink "BoilerDesk" (19 : Nat) "BoilerDesk" "inbox" "LBoilerDesk$Inbox;") ∈ lw_st := st_in (List.mem_append_right _ (List.mem_append_right _ (List.mem_append_left _ (List.mem_of_getElem? (i := 1) rfl)))) rfl
set_option maxRecDepth 20000 in
theorem q_274 : (Jvm.Cond.fieldLink "BoilerDesk" (26 : Nat) "BoilerDesk" "units" "LBoilerDesk$Units;") ∈ lw_st := st_in (List.mem_append_right _ (List.mem_append_right _ (List.mem_append_left _ (List.mem_of_getElem? (i := 2) rfl)))) rfl
set_option maxRecDepth 20000 in
theorem q_275 : (Jvm.Cond.fieldLink "BoilerDesk" (33 : Nat) "BoilerDesk" "machines" "LBoilerDesk$Machines;") ∈ lw_st := st_in (List.mem_append_right _ (List.mem_append_right _ (List.mem_append_left _ (List.mem_of_getElem? (i := 3) rfl)))) rfl
set_option maxRecDepth 20000 in
theorem q_276 : (Jvm.Cond.fieldLink "BoilerDesk" (40 : Nat) "BoilerDesk" "report" "LBoilerDesk$Report;") ∈ lw_st := st_in (List.mem_append_right _ (List.mem_append_right _ (List.mem_append_left _ (List.mem_of_getElem? (i := 4) rfl)))) rfl
set_option maxRecDepth 20000 in
theorem q_277 : (Jvm.Cond.fieldLink "BoilerDesk" (47 : Nat) "BoilerDesk" "levelEstimate" "LBoilerDesk$Span;") ∈ lw_st := st_in (List.mem_append_right _ (List.mem_append_right _ (List.mem_append_left _ (List.mem_of_getElem? (i := 5) rfl)))) rfl
set_option maxRecDepth 20000 in
theorem q_278 : (Jvm.Cond.fieldLink "BoilerDesk" (51 : Nat) "BoilerDesk" "steamEstimate" "LBoilerDesk$Span;") ∈ lw_st := st_in (List.mem_append_right _ (List.mem_append_right _ (List.mem_append_left _ (List.mem_of_getElem? (i := 6) rfl)))) rfl
set_option maxRecDepth 20000 in
theorem q_279 : (Jvm.Cond.fieldLink "BoilerDesk" (54 : Nat) "BoilerDesk" "levelExpected" "LBoilerDesk$Span;") ∈ lw_st := st_in (List.mem_append_right _ (List.mem_append_right _ (List.mem_append_left _ (List.mem_of_getElem? (i := 7) rfl)))) rfl
set_option maxRecDepth 20000 in
theorem q_280 : (Jvm.Cond.fieldLink "BoilerDesk" (57 : Nat) "BoilerDesk" "steamExpected" "LBoilerDesk$Span;") ∈ lw_st := st_in (List.mem_append_right _ (List.mem_append_right _ (List.mem_append_left _ (List.mem_of_getElem? (i := 8) rfl)))) rfl
set_option maxRecDepth 20000 in
theorem q_281 : (Jvm.Cond.fieldLink "BoilerDesk" (146 : Nat) "BoilerDesk" "mode" "I") ∈ lw_st := st_in (List.mem_append_right _ (List.mem_append_right _ (List.mem_append_left _ (List.mem_of_getElem? (i := 9) rfl)))) rfl
set_option maxRecDepth 20000 in
theorem q_282 : (Jvm.Cond.fieldLink "BoilerDesk" (134 : Nat) "BoilerDesk" "cycles" "I") ∈ lw_st := st_in (List.mem_append_right _ (List.mem_append_right _ (List.mem_append_left _ (List.mem_of_getElem? (i := 10) rfl)))) rfl
set_option maxRecDepth 20000 in
theorem q_283 : (Jvm.Cond.fieldLink "BoilerDesk" (201 : Nat) "BoilerDesk" "stopsInARow" "I") ∈ lw_st := st_in (List.mem_append_right _ (List.mem_append_right _ (List.mem_append_left _ (List.mem_of_getElem? (i := 11) rfl)))) rfl
set_option maxRecDepth 20000 in
theorem q_284 : (Jvm.Cond.fieldLink "BoilerDesk" (204 : Nat) "BoilerDesk" "hasWaited" "Z") ∈ lw_st := st_in (List.mem_append_right _ (List.mem_append_right _ (List.mem_append_left _ (List.mem_of_getElem? (i := 12) rfl)))) rfl
set_option maxRecDepth 20000 in
theorem q_285 : (Jvm.Cond.laysFinal "BoilerDesk" "BoilerDesk" "plant" "LBoilerDesk$Plant;") ∈ lw_st := st_in (List.mem_append_right _ (List.mem_append_right _ (List.mem_append_left _ (List.mem_of_getElem? (i := 13) rfl)))) rfl
set_option maxRecDepth 20000 in
theorem q_287 : (Jvm.Cond.laysFinal "BoilerDesk" "BoilerDesk" "inbox" "LBoilerDesk$Inbox;") ∈ lw_st := st_in (List.mem_append_right _ (List.mem_append_right _ (List.mem_append_left _ (List.mem_of_getElem? (i := 15) rfl)))) rfl
set_option maxRecDepth 20000 in
theorem q_289 : (Jvm.Cond.laysFinal "BoilerDesk" "BoilerDesk" "units" "LBoilerDesk$Units;") ∈ lw_st := st_in (List.mem_append_right _ (List.mem_append_right _ (List.mem_append_left _ (List.mem_of_getElem? (i := 17) rfl)))) rfl
set_option maxRecDepth 20000 in
theorem q_291 : (Jvm.Cond.laysFinal "BoilerDesk" "BoilerDesk" "machines" "LBoilerDesk$Machines;") ∈ lw_st := st_in (List.mem_append_right _ (List.mem_append_right _ (List.mem_append_left _ (List.mem_of_getElem? (i := 19) rfl)))) rfl
set_option maxRecDepth 20000 in
theorem q_293 : (Jvm.Cond.laysFinal "BoilerDesk" "BoilerDesk" "report" "LBoilerDesk$Report;") ∈ lw_st := st_in (List.mem_append_right _ (List.mem_append_right _ (List.mem_append_left _ (List.mem_of_getElem? (i := 21) rfl)))) rfl
set_option maxRecDepth 20000 in
theorem q_295 : (Jvm.Cond.laysFinal "BoilerDesk" "BoilerDesk" "levelEstimate" "LBoilerDesk$Span;") ∈ lw_st := st_in (List.mem_append_right _ (List.mem_append_right _ (List.mem_append_left _ (List.mem_of_getElem? (i := 23) rfl)))) rfl
set_option maxRecDepth 20000 in
theorem q_297 : (Jvm.Cond.laysFinal "BoilerDesk" "BoilerDesk" "steamEstimate" "LBoilerDesk$Span;") ∈ lw_st := st_in (List.mem_append_right _ (List.mem_append_right _ (List.mem_append_left _ (List.mem_of_getElem? (i := 25) rfl)))) rfl
set_option maxRecDepth 20000 in
theorem q_299 : (Jvm.Cond.laysFinal "BoilerDesk" "BoilerDesk" "levelExpected" "LBoilerDesk$Span;") ∈ lw_st := st_in (List.mem_append_right _ (List.mem_append_right _ (List.mem_append_left _ (List.mem_of_getElem? (i := 27) rfl)))) rfl
set_option maxRecDepth 20000 in
theorem q_301 : (Jvm.Cond.laysFinal "BoilerDesk" "BoilerDesk" "steamExpected" "LBoilerDesk$Span;") ∈ lw_st := st_in (List.mem_append_right _ (List.mem_append_right _ (List.mem_append_left _ (List.mem_of_getElem? (i := 29) rfl)))) rfl
set_option maxRecDepth 20000 in
theorem q_303 : (Jvm.Cond.lays "BoilerDesk" "BoilerDesk" "mode" "I") ∈ lw_st := st_in (List.mem_append_right _ (List.mem_append_right _ (List.mem_append_left _ (List.mem_of_getElem? (i := 31) rfl)))) rfl
set_option maxRecDepth 20000 in
theorem q_305 : (Jvm.Cond.lays "BoilerDesk" "BoilerDesk" "cycles" "I") ∈ lw_st := st_in (List.mem_append_right _ (List.mem_append_right _ (List.mem_append_left _ (List.mem_of_getElem? (i := 33) rfl)))) rfl
set_option maxRecDepth 20000 in
theorem q_307 : (Jvm.Cond.lays "BoilerDesk" "BoilerDesk" "stopsInARow" "I") ∈ lw_st := st_in (List.mem_append_right _ (List.mem_append_right _ (List.mem_append_left _ (List.mem_of_getElem? (i := 35) rfl)))) rfl
set_option maxRecDepth 20000 in
theorem q_309 : (Jvm.Cond.lays "BoilerDesk" "BoilerDesk" "hasWaited" "Z") ∈ lw_st := st_in (List.mem_append_right _ (List.mem_append_right _ (List.mem_append_left _ (List.mem_of_getElem? (i := 37) rfl)))) rfl
set_option maxRecDepth 20000 in
theorem q_312 : (Jvm.Cond.methodLink "BoilerDeskLaw" (53 : Nat) ({ cls := "BoilerDesk", name := "level", desc := "(I)V" } : Jvm.MethodName)) ∈ lw_st := st_in (List.mem_append_right _ (List.mem_append_right _ (List.mem_append_left _ (List.mem_of_getElem? (i := 40) rfl)))) rfl
set_option maxRecDepth 20000 in
theorem q_313 : (Jvm.Cond.instanceMethod ({ cls := "BoilerDesk", name := "level", desc := "(I)V" } : Jvm.MethodName)) ∈ lw_st := st_in (List.mem_append_right _ (List.mem_append_right _ (List.mem_append_left _ (List.mem_of_getElem? (i := 41) rfl)))) rfl
set_option maxRecDepth 20000 in
theorem q_314 : (Jvm.Cond.selects "BoilerDesk" ({ cls := "BoilerDesk", name := "level", desc := "(I)V" } : Jvm.MethodName) ({ cls := "BoilerDesk", name := "level", desc := "(I)V" } : Jvm.MethodName)) ∈ lw_st := st_in (List.mem_append_right _ (List.mem_append_right _ (List.mem_append_left _ (List.mem_of_getElem? (i := 42) rfl)))) rfl
set_option maxRecDepth 20000 in
theorem q_315 : (Jvm.Cond.code ({ cls := "BoilerDesk", name := "level", desc := "(I)V" } : Jvm.MethodName) prog_1_method_3_code (2 : Nat) (Option.none : Option Jvm.ClassFile.FieldType)) ∈ lw_st := st_in (List.mem_append_right _ (List.mem_append_right _ (List.mem_append_left _ (List.mem_of_getElem? (i := 43) rfl)))) rfl
set_option maxRecDepth 20000 in
theorem q_316 : (Jvm.Cond.methodLink "BoilerDeskLaw" (57 : Nat) ({ cls := "BoilerDesk", name := "steam", desc := "(I)V" } : Jvm.MethodName)) ∈ lw_st := st_in (List.mem_append_right _ (List.mem_append_right _ (List.mem_append_left _ (List.mem_of_getElem? (i := 44) rfl)))) rfl
set_option maxRecDepth 20000 in
theorem q_317 : (Jvm.Cond.instanceMethod ({ cls := "BoilerDesk", name := "steam", desc := "(I)V" } : Jvm.MethodName)) ∈ lw_st := st_in (List.mem_append_right _ (List.mem_append_right _ (List.mem_append_left _ (List.mem_of_getElem? (i := 45) rfl)))) rfl
set_option maxRecDepth 20000 in
theorem q_318 : (Jvm.Cond.selects "BoilerDesk" ({ cls := "BoilerDesk", name := "steam", desc := "(I)V" } : Jvm.MethodName) ({ cls := "BoilerDesk", name := "steam", desc := "(I)V" } : Jvm.MethodName)) ∈ lw_st := st_in (List.mem_append_right _ (List.mem_append_right _ (List.mem_append_left _ (List.mem_of_getElem? (i := 46) rfl)))) rfl
set_option maxRecDepth 20000 in
theorem q_319 : (Jvm.Cond.code ({ cls := "BoilerDesk", name := "steam", desc := "(I)V" } : Jvm.MethodName) prog_1_method_4_code (2 : Nat) (Option.none : Option Jvm.ClassFile.FieldType)) ∈ lw_st := st_in (List.mem_append_right _ (List.mem_append_right _ (List.mem_append_left _ (List.mem_of_getElem? (i := 47) rfl)))) rfl
set_option maxRecDepth 20000 in
theorem q_320 : (Jvm.Cond.methodLink "BoilerDeskLaw" (44 : Nat) ({ cls := "BoilerDeskLaw", name := "begin", desc := "(LBoilerDesk;IIIIIIIII)I" } : Jvm.MethodName)) ∈ lw_st := st_in (List.mem_append_right _ (List.mem_append_right _ (List.mem_append_left _ (List.mem_of_getElem? (i := 48) rfl)))) rfl
set_option maxRecDepth 20000 in
theorem q_321 : (Jvm.Cond.static ({ cls := "BoilerDeskLaw", name := "begin", desc := "(LBoilerDesk;IIIIIIIII)I" } : Jvm.MethodName)) ∈ lw_st := st_in (List.mem_append_right _ (List.mem_append_right _ (List.mem_append_left _ (List.mem_of_getElem? (i := 49) rfl)))) rfl
set_option maxRecDepth 20000 in
theorem q_322 : (Jvm.Cond.codeWith ({ cls := "BoilerDeskLaw", name := "begin", desc := "(LBoilerDesk;IIIIIIIII)I" } : Jvm.MethodName) method_3_code (11 : Nat) (Option.some Jvm.ClassFile.FieldType.int) [((0 : Nat), (19 : Nat), (22 : Nat), (13 : Nat))]) ∈ lw_st := st_in (List.mem_append_right _ (List.mem_append_right _ (List.mem_append_left _ (List.mem_of_getElem? (i := 50) rfl)))) rfl
set_option maxRecDepth 20000 in
theorem q_323 : (Jvm.Cond.classLink "BoilerDeskLaw" (13 : Nat) "java/lang/IllegalArgumentException") ∈ lw_st := st_in (List.mem_append_right _ (List.mem_append_right _ (List.mem_append_left _ (List.mem_of_getElem? (i := 51) rfl)))) rfl
set_option maxRecDepth 20000 in
theorem q_324 : (Jvm.Cond.methodLink "BoilerDeskLaw" (7 : Nat) ({ cls := "BoilerDesk", name := "begin", desc := "(IIIIIIIII)V" } : Jvm.MethodName)) ∈ lw_st := st_in (List.mem_append_right _ (List.mem_append_right _ (List.mem_append_left _ (List.mem_of_getElem? (i := 52) rfl)))) rfl
set_option maxRecDepth 20000 in
theorem q_325 : (Jvm.Cond.instanceMethod ({ cls := "BoilerDesk", name := "begin", desc := "(IIIIIIIII)V" } : Jvm.MethodName)) ∈ lw_st := st_in (List.mem_append_right _ (List.mem_append_right _ (List.mem_append_left _ (List.mem_of_getElem? (i := 53) rfl)))) rfl
set_option maxRecDepth 20000 in
theorem q_326 : (Jvm.Cond.selects "BoilerDesk" ({ cls := "BoilerDesk", name := "begin", desc := "(IIIIIIIII)V" } : Jvm.MethodName) ({ cls := "BoilerDesk", name := "begin", desc := "(IIIIIIIII)V" } : Jvm.MethodName)) ∈ lw_st := st_in (List.mem_append_right _ (List.mem_append_right _ (List.mem_append_left _ (List.mem_of_getElem? (i := 54) rfl)))) rfl
set_option maxRecDepth 20000 in
theorem q_327 : (Jvm.Cond.code ({ cls := "BoilerDesk", name := "begin", desc := "(IIIIIIIII)V" } : Jvm.MethodName) prog_1_method_2_code (10 : Nat) (Option.none : Option Jvm.ClassFile.FieldType)) ∈ lw_st := st_in (List.mem_append_right _ (List.mem_append_right _ (List.mem_append_left _ (List.mem_of_getElem? (i := 55) rfl)))) rfl
set_option maxRecDepth 20000 in
theorem q_328 : (Jvm.Cond.methodLink "BoilerDesk" (71 : Nat) ({ cls := "BoilerDesk", name := "limitsAreSound", desc := "(IIIII)Z" } : Jvm.MethodName)) ∈ lw_st := st_in (List.mem_append_right _ (List.mem_append_right _ (List.mem_append_left _ (List.mem_of_getElem? (i := 56) rfl)))) rfl
set_option maxRecDepth 20000 in
theorem q_329 : (Jvm.Cond.static ({ cls := "BoilerDesk", name := "limitsAreSound", desc := "(IIIII)Z" } : Jvm.MethodName)) ∈ lw_st := st_in (List.mem_append_right _ (List.mem_append_right _ (List.mem_append_left _ (List.mem_of_getElem? (i := 57) rfl)))) rfl
set_option maxRecDepth 20000 in
theorem q_330 : (Jvm.Cond.code ({ cls := "BoilerDesk", name := "limitsAreSound", desc := "(IIIII)Z" } : Jvm.MethodName) prog_1_method_11_code (5 : Nat) (Option.some Jvm.ClassFile.FieldType.boolean)) ∈ lw_st := st_in (List.mem_append_right _ (List.mem_append_right _ (List.mem_append_left _ (List.mem_of_getElem? (i := 58) rfl)))) rfl
set_option maxRecDepth 20000 in
theorem q_331 : (Jvm.Cond.constant "BoilerDesk" (137 : Nat) (1000000 : Int32)) ∈ lw_st := st_in (List.mem_append_right _ (List.mem_append_right _ (List.mem_append_left _ (List.mem_of_getElem? (i := 59) rfl)))) rfl
set_option maxRecDepth 20000 in
theorem q_332 : (Jvm.Cond.methodLink "BoilerDesk" (75 : Nat) ({ cls := "BoilerDesk", name := "ratesAreSound", desc := "(IIII)Z" } : Jvm.MethodName)) ∈ lw_st := st_in (List.mem_append_right _ (List.mem_append_right _ (List.mem_append_left _ (List.mem_of_getElem? (i := 60) rfl)))) rfl
set_option maxRecDepth 20000 in
theorem q_333 : (Jvm.Cond.static ({ cls := "BoilerDesk", name := "ratesAreSound", desc := "(IIII)Z" } : Jvm.MethodName)) ∈ lw_st := st_in (List.mem_append_right _ (List.mem_append_right _ (List.mem_append_left _ (List.mem_of_getElem? (i := 61) rfl)))) rfl
set_option maxRecDepth 20000 in
theorem q_334 : (Jvm.Cond.code ({ cls := "BoilerDesk", name := "ratesAreSound", desc := "(IIII)Z" } : Jvm.MethodName) prog_1_method_12_code (4 : Nat) (Option.some Jvm.ClassFile.FieldType.boolean)) ∈ lw_st := st_in (List.mem_append_right _ (List.mem_append_right _ (List.mem_append_left _ (List.mem_of_getElem? (i := 62) rfl)))) rfl
set_option maxRecDepth 20000 in
theorem q_335 : (Jvm.Cond.constant "BoilerDesk" (196 : Nat) (100000 : Int32)) ∈ lw_st := st_in (List.mem_append_right _ (List.mem_append_right _ (List.mem_append_left _ (List.mem_of_getElem? (i := 63) rfl)))) rfl
set_option maxRecDepth 20000 in
theorem q_336 : (Jvm.Cond.methodLink "BoilerDesk" (197 : Nat) ({ cls := "BoilerDesk", name := "isWithin", desc := "(III)Z" } : Jvm.MethodName)) ∈ lw_st := st_in (List.mem_append_right _ (List.mem_append_right _ (List.mem_append_left _ (List.mem_of_getElem? (i := 64) rfl)))) rfl
set_option maxRecDepth 20000 in
theorem q_337 : (Jvm.Cond.static ({ cls := "BoilerDesk", name := "isWithin", desc := "(III)Z" } : Jvm.MethodName)) ∈ lw_st := st_in (List.mem_append_right _ (List.mem_append_right _ (List.mem_append_left _ (List.mem_of_getElem? (i := 65) rfl)))) rfl
set_option maxRecDepth 20000 in
theorem q_338 : (Jvm.Cond.code ({ cls := "BoilerDesk", name := "isWithin", desc := "(III)Z" } : Jvm.MethodName) prog_1_method_33_code (3 : Nat) (Option.some Jvm.ClassFile.FieldType.boolean)) ∈ lw_st := st_in (List.mem_append_right _ (List.mem_append_right _ (List.mem_append_left _ (List.mem_of_getElem? (i := 66) rfl)))) rfl
set_option maxRecDepth 20000 in
theorem q_339 : (Jvm.Cond.classLink "BoilerDesk" (79 : Nat) "java/lang/IllegalArgumentException") ∈ lw_st := st_in (List.mem_append_right _ (List.mem_append_right _ (List.mem_append_left _ (List.mem_of_getElem? (i := 67) rfl)))) rfl
set_option maxRecDepth 20000 in
theorem q_340 : (Jvm.Cond.instantiable "java/lang/IllegalArgumentException" (6 : Nat)) ∈ lw_st := st_in (List.mem_append_right _ (List.mem_append_right _ (List.mem_append_left _ (List.mem_of_getElem? (i := 68) rfl)))) rfl
set_option maxRecDepth 20000 in
theorem q_348 : (Jvm.Cond.selects "java/lang/IllegalArgumentException" ({ cls := "java/lang/Throwable", name := "fillInStackTrace", desc := "(I)Ljava/lang/Throwable;" } : Jvm.MethodName) ({ cls := "java/lang/Throwable", name := "fillInStackTrace", desc := "(I)Ljava/lang/Throwable;" } : Jvm.MethodName)) ∈ lw_st := st_in (List.mem_append_right _ (List.mem_append_right _ (List.mem_append_left _ (List.mem_of_getElem? (i := 76) rfl)))) rfl
set_option maxRecDepth 20000 in
theorem q_349 : (Jvm.Cond.selects "java/lang/IllegalArgumentException" ({ cls := "java/lang/Throwable", name := "fillInStackTrace", desc := "()Ljava/lang/Throwable;" } : Jvm.MethodName) ({ cls := "java/lang/Throwable", name := "fillInStackTrace", desc := "()Ljava/lang/Throwable;" } : Jvm.MethodName)) ∈ lw_st := st_in (List.mem_append_right _ (List.mem_append_right _ (List.mem_append_left _ (List.mem_of_getElem? (i := 77) rfl)))) rfl
set_option maxRecDepth 20000 in
theorem q_350 : (Jvm.Cond.lays "java/lang/IllegalArgumentException" "java/lang/Throwable" "cause" "Ljava/lang/Throwable;") ∈ lw_st := st_in (List.mem_append_right _ (List.mem_append_right _ (List.mem_append_left _ (List.mem_of_getElem? (i := 78) rfl)))) rfl
set_option maxRecDepth 20000 in
theorem q_351 : (Jvm.Cond.lays "java/lang/Throwable" "java/lang/Throwable" "cause" "Ljava/lang/Throwable;") ∈ lw_st := st_in (List.mem_append_right _ (List.mem_append_right _ (List.mem_append_left _ (List.mem_of_getElem? (i := 79) rfl)))) rfl
set_option maxRecDepth 20000 in
theorem q_352 : (Jvm.Cond.lays "java/lang/IllegalArgumentException" "java/lang/Throwable" "stackTrace" "[Ljava/lang/StackTraceElement;") ∈ lw_st := st_in (List.mem_append_right _ (List.mem_append_right _ (List.mem_append_left _ (List.mem_of_getElem? (i := 80) rfl)))) rfl
set_option maxRecDepth 20000 in
theorem q_353 : (Jvm.Cond.lays "java/lang/Throwable" "java/lang/Throwable" "stackTrace" "[Ljava/lang/StackTraceElement;") ∈ lw_st := st_in (List.mem_append_right _ (List.mem_append_right _ (List.mem_append_left _ (List.mem_of_getElem? (i := 81) rfl)))) rfl
set_option maxRecDepth 20000 in
theorem q_354 : (Jvm.Cond.lays "java/lang/IllegalArgumentException" "java/lang/Throwable" "suppressedExceptions" "Ljava/util/List;") ∈ lw_st := st_in (List.mem_append_right _ (List.mem_append_right _ (List.mem_append_left _ (List.mem_of_getElem? (i := 82) rfl)))) rfl
set_option maxRecDepth 20000 in
theorem q_355 : (Jvm.Cond.lays "java/lang/Throwable" "java/lang/Throwable" "suppressedExceptions" "Ljava/util/List;") ∈ lw_st := st_in (List.mem_append_right _ (List.mem_append_right _ (List.mem_append_left _ (List.mem_of_getElem? (i := 83) rfl)))) rfl
set_option maxRecDepth 20000 in
theorem q_356 : (Jvm.Cond.lays "java/lang/IllegalArgumentException" "java/lang/Throwable" "detailMessage" "Ljava/lang/String;") ∈ lw_st := st_in (List.mem_append_right _ (List.mem_append_right _ (List.mem_append_left _ (List.mem_of_getElem? (i := 84) rfl)))) rfl
set_option maxRecDepth 20000 in
theorem q_357 : (Jvm.Cond.lays "java/lang/Throwable" "java/lang/Throwable" "detailMessage" "Ljava/lang/String;") ∈ lw_st := st_in (List.mem_append_right _ (List.mem_append_right _ (List.mem_append_left _ (List.mem_of_getElem? (i := 85) rfl)))) rfl
set_option maxRecDepth 20000 in
theorem q_358 : (Jvm.Cond.lays "java/lang/IllegalArgumentException" "java/lang/Throwable" "backtrace" "Ljava/lang/Object;") ∈ lw_st := st_in (List.mem_append_right _ (List.mem_append_right _ (List.mem_append_left _ (List.mem_of_getElem? (i := 86) rfl)))) rfl
set_option maxRecDepth 20000 in
theorem q_359 : (Jvm.Cond.lays "java/lang/Throwable" "java/lang/Throwable" "backtrace" "Ljava/lang/Object;") ∈ lw_st := st_in (List.mem_append_right _ (List.mem_append_right _ (List.mem_append_left _ (List.mem_of_getElem? (i := 87) rfl)))) rfl
set_option maxRecDepth 20000 in
theorem q_360 : (Jvm.Cond.fieldLink "java/lang/Throwable" (198 : Nat) "java/lang/Throwable" "backtrace" "Ljava/lang/Object;") ∈ lw_st := st_in (List.mem_append_right _ (List.mem_append_right _ (List.mem_append_left _ (List.mem_of_getElem? (i := 88) rfl)))) rfl
set_option maxRecDepth 20000 in
theorem q_362 : (Jvm.Cond.instanceMethod ({ cls := "java/lang/Throwable", name := "<init>", desc := "()V" } : Jvm.MethodName)) ∈ lw_st := st_in (List.mem_append_right _ (List.mem_append_right _ (List.mem_append_left _ (List.mem_of_getElem? (i := 90) rfl)))) rfl
set_option maxRecDepth 20000 in
theorem q_363 : (Jvm.Cond.code ({ cls := "java/lang/Throwable", name := "<init>", desc := "()V" } : Jvm.MethodName) prog_17_method_1_code (1 : Nat) (Option.none : Option Jvm.ClassFile.FieldType)) ∈ lw_st := st_in (List.mem_append_right _ (List.mem_append_right _ (List.mem_append_left _ (List.mem_of_getElem? (i := 91) rfl)))) rfl
set_option maxRecDepth 20000 in
theorem q_364 : (Jvm.Cond.methodLink "java/lang/Throwable" (1 : Nat) ({ cls := "java/lang/Object", name := "<init>", desc := "()V" } : Jvm.MethodName)) ∈ lw_st := st_in (List.mem_append_right _ (List.mem_append_right _ (List.mem_append_left _ (List.mem_of_getElem? (i := 92) rfl)))) rfl
set_option maxRecDepth 20000 in
theorem q_365 : (Jvm.Cond.fieldLink "java/lang/Throwable" (13 : Nat) "java/lang/Throwable" "UNASSIGNED_STACK" "[Ljava/lang/StackTraceElement;") ∈ lw_st := st_in (List.mem_append_right _ (List.mem_append_right _ (List.mem_append_left _ (List.mem_of_getElem? (i := 93) rfl)))) rfl
set_option maxRecDepth 20000 in
theorem q_367 : (Jvm.Cond.fieldLink "java/lang/Throwable" (20 : Nat) "java/lang/Throwable" "SUPPRESSED_SENTINEL" "Ljava/util/List;") ∈ lw_st := st_in (List.mem_append_right _ (List.mem_append_right _ (List.mem_append_left _ (List.mem_of_getElem? (i := 95) rfl)))) rfl
set_option maxRecDepth 20000 in
theorem q_369 : (Jvm.Cond.methodLink "java/lang/Throwable" (27 : Nat) ({ cls := "java/lang/Throwable", name := "fillInStackTrace", desc := "()Ljava/lang/Throwable;" } : Jvm.MethodName)) ∈ lw_st := st_in (List.mem_append_right _ (List.mem_append_right _ (List.mem_append_left _ (List.mem_of_getElem? (i := 97) rfl)))) rfl
set_option maxRecDepth 20000 in
theorem q_370 : (Jvm.Cond.instanceMethod ({ cls := "java/lang/Throwable", name := "fillInStackTrace", desc := "()Ljava/lang/Throwable;" } : Jvm.MethodName)) ∈ lw_st := st_in (List.mem_append_right _ (List.mem_append_right _ (List.mem_append_left _ (List.mem_of_getElem? (i := 98) rfl)))) rfl
set_option maxRecDepth 20000 in
theorem q_372 : (Jvm.Cond.selects "java/lang/IllegalStateException" ({ cls := "java/lang/Throwable", name := "fillInStackTrace", desc := "()Ljava/lang/Throwable;" } : Jvm.MethodName) ({ cls := "java/lang/Throwable", name := "fillInStackTrace", desc := "()Ljava/lang/Throwable;" } : Jvm.MethodName)) ∈ lw_st := st_in (List.mem_append_right _ (List.mem_append_right _ (List.mem_append_left _ (List.mem_of_getElem? (i := 100) rfl)))) rfl
set_option maxRecDepth 20000 in
theorem q_374 : (Jvm.Cond.methodLink "java/lang/Throwable" (202 : Nat) ({ cls := "java/lang/Throwable", name := "fillInStackTrace", desc := "(I)Ljava/lang/Throwable;" } : Jvm.MethodName)) ∈ lw_st := st_in (List.mem_append_right _ (List.mem_append_right _ (List.mem_append_left _ (List.mem_of_getElem? (i := 102) rfl)))) rfl
set_option maxRecDepth 20000 in
theorem q_376 : (Jvm.Cond.instanceMethod ({ cls := "java/lang/Throwable", name := "fillInStackTrace", desc := "(I)Ljava/lang/Throwable;" } : Jvm.MethodName)) ∈ lw_st := st_in (List.mem_append_right _ (List.mem_append_right _ (List.mem_append_left _ (List.mem_of_getElem? (i := 104) rfl)))) rfl
set_option maxRecDepth 20000 in
theorem q_377 : (Jvm.Cond.instantiable "java/lang/Throwable" (6 : Nat)) ∈ lw_st := st_in (List.mem_append_right _ (List.mem_append_right _ (List.mem_append_left _ (List.mem_of_getElem? (i := 105) rfl)))) rfl
set_option maxRecDepth 20000 in
theorem q_380 : (Jvm.Cond.methodLink "BoilerDesk" (83 : Nat) ({ cls := "java/lang/IllegalArgumentException", name := "<init>", desc := "(Ljava/lang/String;)V" } : Jvm.MethodName)) ∈ lw_st := st_in (List.mem_append_right _ (List.mem_append_right _ (List.mem_append_left _ (List.mem_of_getElem? (i := 108) rfl)))) rfl
set_option maxRecDepth 20000 in
theorem q_381 : (Jvm.Cond.instanceMethod ({ cls := "java/lang/IllegalArgumentException", name := "<init>", desc := "(Ljava/lang/String;)V" } : Jvm.MethodName)) ∈ lw_st := st_in (List.mem_append_right _ (List.mem_append_right _ (List.mem_append_left _ (List.mem_of_getElem? (i := 109) rfl)))) rfl
set_option maxRecDepth 20000 in
theorem q_382 : (Jvm.Cond.code ({ cls := "java/lang/IllegalArgumentException", name := "<init>", desc := "(Ljava/lang/String;)V" } : Jvm.MethodName) prog_11_method_2_code (2 : Nat) (Option.none : Option Jvm.ClassFile.FieldType)) ∈ lw_st := st_in (List.mem_append_right _ (List.mem_append_right _ (List.mem_append_left _ (List.mem_of_getElem? (i := 110) rfl)))) rfl
set_option maxRecDepth 20000 in
theorem q_383 : (Jvm.Cond.methodLink "java/lang/IllegalArgumentException" (7 : Nat) ({ cls := "java/lang/RuntimeException", name := "<init>", desc := "(Ljava/lang/String;)V" } : Jvm.MethodName)) ∈ lw_st := st_in (List.mem_append_right _ (List.mem_append_right _ (List.mem_append_left _ (List.mem_of_getElem? (i := 111) rfl)))) rfl
set_option maxRecDepth 20000 in
theorem q_384 : (Jvm.Cond.instanceMethod ({ cls := "java/lang/RuntimeException", name := "<init>", desc := "(Ljava/lang/String;)V" } : Jvm.MethodName)) ∈ lw_st := st_in (List.mem_append_right _ (List.mem_append_right _ (List.mem_append_left _ (List.mem_of_getElem? (i := 112) rfl)))) rfl
set_option maxRecDepth 20000 in
theorem q_385 : (Jvm.Cond.code ({ cls := "java/lang/RuntimeException", name := "<init>", desc := "(Ljava/lang/String;)V" } : Jvm.MethodName) prog_15_method_2_code (2 : Nat) (Option.none : Option Jvm.ClassFile.FieldType)) ∈ lw_st := st_in (List.mem_append_right _ (List.mem_append_right _ (List.mem_append_left _ (List.mem_of_getElem? (i := 113) rfl)))) rfl
set_option maxRecDepth 20000 in
theorem q_386 : (Jvm.Cond.methodLink "java/lang/RuntimeException" (7 : Nat) ({ cls := "java/lang/Exception", name := "<init>", desc := "(Ljava/lang/String;)V" } : Jvm.MethodName)) ∈ lw_st := st_in (List.mem_append_right _ (List.mem_append_right _ (List.mem_append_left _ (List.mem_of_getElem? (i := 114) rfl)))) rfl
set_option maxRecDepth 20000 in
theorem q_387 : (Jvm.Cond.instanceMethod ({ cls := "java/lang/Exception", name := "<init>", desc := "(Ljava/lang/String;)V" } : Jvm.MethodName)) ∈ lw_st := st_in (List.mem_append_right _ (List.mem_append_right _ (List.mem_append_left _ (List.mem_of_getElem? (i := 115) rfl)))) rfl
set_option maxRecDepth 20000 in
theorem q_388 : (Jvm.Cond.code ({ cls := "java/lang/Exception", name := "<init>", desc := "(Ljava/lang/String;)V" } : Jvm.MethodName) prog_10_method_2_code (2 : Nat) (Option.none : Option Jvm.ClassFile.FieldType)) ∈ lw_st := st_in (List.mem_append_right _ (List.mem_append_right _ (List.mem_append_left _ (List.mem_of_getElem? (i := 116) rfl)))) rfl
set_option maxRecDepth 20000 in
theorem q_389 : (Jvm.Cond.methodLink "java/lang/Exception" (7 : Nat) ({ cls := "java/lang/Throwable", name := "<init>", desc := "(Ljava/lang/String;)V" } : Jvm.MethodName)) ∈ lw_st := st_in (List.mem_append_right _ (List.mem_append_right _ (List.mem_append_left _ (List.mem_of_getElem? (i := 117) rfl)))) rfl
set_option maxRecDepth 20000 in
theorem q_390 : (Jvm.Cond.instanceMethod ({ cls := "java/lang/Throwable", name := "<init>", desc := "(Ljava/lang/String;)V" } : Jvm.MethodName)) ∈ lw_st := st_in (List.mem_append_right _ (List.mem_append_right _ (List.mem_append_left _ (List.mem_of_getElem? (i := 118) rfl)))) rfl
set_option maxRecDepth 20000 in
theorem q_391 : (Jvm.Cond.code ({ cls := "java/lang/Throwable", name := "<init>", desc := "(Ljava/lang/String;)V" } : Jvm.MethodName) prog_17_method_2_code (2 : Nat) (Option.none : Option Jvm.ClassFile.FieldType)) ∈ lw_st := st_in (List.mem_append_right _ (List.mem_append_right _ (List.mem_append_left _ (List.mem_of_getElem? (i := 119) rfl)))) rfl
set_option maxRecDepth 20000 in
theorem q_392 : (Jvm.Cond.fieldLink "java/lang/Throwable" (198 : Nat) "java/lang/Throwable" "backtrace" "Ljava/lang/Object;") ∈ lw_st := st_in (List.mem_append_right _ (List.mem_append_right _ (List.mem_append_left _ (List.mem_of_getElem? (i := 120) rfl)))) rfl
set_option maxRecDepth 20000 in
theorem q_393 : (Jvm.Cond.fieldLink "java/lang/Throwable" (31 : Nat) "java/lang/Throwable" "detailMessage" "Ljava/lang/String;") ∈ lw_st := st_in (List.mem_append_right _ (List.mem_append_right _ (List.mem_append_left _ (List.mem_of_getElem? (i := 121) rfl)))) rfl
set_option maxRecDepth 20000 in
theorem q_394 : (Jvm.Cond.fieldLink "java/lang/Throwable" (7 : Nat) "java/lang/Throwable" "cause" "Ljava/lang/Throwable;") ∈ lw_st := st_in (List.mem_append_right _ (List.mem_append_right _ (List.mem_append_left _ (List.mem_of_getElem? (i := 122) rfl)))) rfl
set_option maxRecDepth 20000 in
theorem q_395 : (Jvm.Cond.fieldLink "java/lang/Throwable" (17 : Nat) "java/lang/Throwable" "stackTrace" "[Ljava/lang/StackTraceElement;") ∈ lw_st := st_in (List.mem_append_right _ (List.mem_append_right _ (List.mem_append_left _ (List.mem_of_getElem? (i := 123) rfl)))) rfl
set_option maxRecDepth 20000 in
theorem q_396 : (Jvm.Cond.fieldLink "java/lang/Throwable" (24 : Nat) "java/lang/Throwable" "suppressedExceptions" "Ljava/util/List;") ∈ lw_st := st_in (List.mem_append_right _ (List.mem_append_right _ (List.mem_append_left _ (List.mem_of_getElem? (i := 124) rfl)))) rfl
set_option maxRecDepth 20000 in
theorem q_401 : (Jvm.Cond.lays "java/lang/IllegalArgumentException" "java/lang/Throwable" "depth" "I") ∈ lw_st := st_in (List.mem_append_right _ (List.mem_append_right _ (List.mem_append_left _ (List.mem_of_getElem? (i := 129) rfl)))) rfl
set_option maxRecDepth 20000 in
theorem q_405 : (Jvm.Cond.arrayClass Jvm.ClassFile.FieldType.byte) ∈ lw_st := st_in (List.mem_append_right _ (List.mem_append_right _ (List.mem_append_left _ (List.mem_of_getElem? (i := 133) rfl)))) rfl
set_option maxRecDepth 20000 in
theorem q_406 : (Jvm.Cond.methodLink "BoilerDeskLaw" (61 : Nat) ({ cls := "BoilerDeskLaw", name := "pump", desc := "(LBoilerDesk;IZZ)I" } : Jvm.MethodName)) ∈ lw_st := st_in (List.mem_append_right _ (List.mem_append_right _ (List.mem_append_left _ (List.mem_of_getElem? (i := 134) rfl)))) rfl
set_option maxRecDepth 20000 in
theorem q_407 : (Jvm.Cond.static ({ cls := "BoilerDeskLaw", name := "pump", desc := "(LBoilerDesk;IZZ)I" } : Jvm.MethodName)) ∈ lw_st := st_in (List.mem_append_right _ (List.mem_append_right _ (List.mem_append_left _ (List.mem_of_getElem? (i := 135) rfl)))) rfl
set_option maxRecDepth 20000 in
theorem q_408 : (Jvm.Cond.codeWith ({ cls := "BoilerDeskLaw", name := "pump", desc := "(LBoilerDesk;IZZ)I" } : Jvm.MethodName) method_4_code (5 : Nat) (Option.some Jvm.ClassFile.FieldType.int) [((0 : Nat), (7 : Nat), (10 : Nat), (13 : Nat))]) ∈ lw_st := st_in (List.mem_append_right _ (List.mem_append_right _ (List.mem_append_left _ (List.mem_of_getElem? (i := 136) rfl)))) rfl
set_option maxRecDepth 20000 in
theorem q_409 : (Jvm.Cond.methodLink "BoilerDeskLaw" (15 : Nat) ({ cls := "BoilerDesk", name := "pump", desc := "(IZZ)V" } : Jvm.MethodName)) ∈ lw_st := st_in (List.mem_append_right _ (List.mem_append_right _ (List.mem_append_left _ (List.mem_of_getElem? (i := 137) rfl)))) rfl
set_option maxRecDepth 20000 in
theorem q_410 : (Jvm.Cond.instanceMethod ({ cls := "BoilerDesk", name := "pump", desc := "(IZZ)V" } : Jvm.MethodName)) ∈ lw_st := st_in (List.mem_append_right _ (List.mem_append_right _ (List.mem_append_left _ (List.mem_of_getElem? (i := 138) rfl)))) rfl
set_option maxRecDepth 20000 in
theorem q_411 : (Jvm.Cond.selects "BoilerDesk" ({ cls := "BoilerDesk", name := "pump", desc := "(IZZ)V" } : Jvm.MethodName) ({ cls := "BoilerDesk", name := "pump", desc := "(IZZ)V" } : Jvm.MethodName)) ∈ lw_st := st_in (List.mem_append_right _ (List.mem_append_right _ (List.mem_append_left _ (List.mem_of_getElem? (i := 139) rfl)))) rfl
set_option maxRecDepth 20000 in
theorem q_412 : (Jvm.Cond.code ({ cls := "BoilerDesk", name := "pump", desc := "(IZZ)V" } : Jvm.MethodName) prog_1_method_5_code (4 : Nat) (Option.none : Option Jvm.ClassFile.FieldType)) ∈ lw_st := st_in (List.mem_append_right _ (List.mem_append_right _ (List.mem_append_left _ (List.mem_of_getElem? (i := 140) rfl)))) rfl
set_option maxRecDepth 20000 in
theorem q_414 : (Jvm.Cond.methodLink "BoilerDesk" (105 : Nat) ({ cls := "BoilerDesk", name := "withBit", desc := "(IIZ)I" } : Jvm.MethodName)) ∈ lw_st := st_in (List.mem_append_right _ (List.mem_append_right _ (List.mem_append_left _ (List.mem_of_getElem? (i := 142) rfl)))) rfl
set_option maxRecDepth 20000 in
theorem q_415 : (Jvm.Cond.static ({ cls := "BoilerDesk", name := "withBit", desc := "(IIZ)I" } : Jvm.MethodName)) ∈ lw_st := st_in (List.mem_append_right _ (List.mem_append_right _ (List.mem_append_left _ (List.mem_of_getElem? (i := 143) rfl)))) rfl
set_option maxRecDepth 20000 in
theorem q_416 : (Jvm.Cond.code ({ cls := "BoilerDesk", name := "withBit", desc := "(IIZ)I" } : Jvm.MethodName) prog_1_method_35_code (3 : Nat) (Option.some Jvm.ClassFile.FieldType.int)) ∈ lw_st := st_in (List.mem_append_right _ (List.mem_append_right _ (List.mem_append_left _ (List.mem_of_getElem? (i := 144) rfl)))) rfl
set_option maxRecDepth 20000 in
theorem q_417 : (Jvm.Cond.methodLink "BoilerDeskLaw" (65 : Nat) ({ cls := "BoilerDeskLaw", name := "say", desc := "(LBoilerDesk;I)I" } : Jvm.MethodName)) ∈ lw_st := st_in (List.mem_append_right _ (List.mem_append_right _ (List.mem_append_left _ (List.mem_of_getElem? (i := 145) rfl)))) rfl
set_option maxRecDepth 20000 in
theorem q_418 : (Jvm.Cond.static ({ cls := "BoilerDeskLaw", name := "say", desc := "(LBoilerDesk;I)I" } : Jvm.MethodName)) ∈ lw_st := st_in (List.mem_append_right _ (List.mem_append_right _ (List.mem_append_left _ (List.mem_of_getElem? (i := 146) rfl)))) rfl
set_option maxRecDepth 20000 in
theorem q_419 : (Jvm.Cond.codeWith ({ cls := "BoilerDeskLaw", name := "say", desc := "(LBoilerDesk;I)I" } : Jvm.MethodName) method_5_code (3 : Nat) (Option.some Jvm.ClassFile.FieldType.int) [((0 : Nat), (5 : Nat), (8 : Nat), (13 : Nat))]) ∈ lw_st := st_in (List.mem_append_right _ (List.mem_append_right _ (List.mem_append_left _ (List.mem_of_getElem? (i := 147) rfl)))) rfl
set_option maxRecDepth 20000 in
theorem q_420 : (Jvm.Cond.methodLink "BoilerDeskLaw" (19 : Nat) ({ cls := "BoilerDesk", name := "say", desc := "(I)V" } : Jvm.MethodName)) ∈ lw_st := st_in (List.mem_append_right _ (List.mem_append_right _ (List.mem_append_left _ (List.mem_of_getElem? (i := 148) rfl)))) rfl
set_option maxRecDepth 20000 in
theorem q_421 : (Jvm.Cond.instanceMethod ({ cls := "BoilerDesk", name := "say", desc := "(I)V" } : Jvm.MethodName)) ∈ lw_st := st_in (List.mem_append_right _ (List.mem_append_right _ (List.mem_append_left _ (List.mem_of_getElem? (i := 149) rfl)))) rfl
set_option maxRecDepth 20000 in
theorem q_422 : (Jvm.Cond.selects "BoilerDesk" ({ cls := "BoilerDesk", name := "say", desc := "(I)V" } : Jvm.MethodName) ({ cls := "BoilerDesk", name := "say", desc := "(I)V" } : Jvm.MethodName)) ∈ lw_st := st_in (List.mem_append_right _ (List.mem_append_right _ (List.mem_append_left _ (List.mem_of_getElem? (i := 150) rfl)))) rfl
set_option maxRecDepth 20000 in
theorem q_423 : (Jvm.Cond.code ({ cls := "BoilerDesk", name := "say", desc := "(I)V" } : Jvm.MethodName) prog_1_method_6_code (2 : Nat) (Option.none : Option Jvm.ClassFile.FieldType)) ∈ lw_st := st_in (List.mem_append_right _ (List.mem_append_right _ (List.mem_append_left _ (List.mem_of_getElem? (i := 151) rfl)))) rfl
set_option maxRecDepth 20000 in
theorem q_425 : (Jvm.Cond.methodLink "BoilerDeskLaw" (69 : Nat) ({ cls := "BoilerDeskLaw", name := "unit", desc := "(LBoilerDesk;IZ)I" } : Jvm.MethodName)) ∈ lw_st := st_in (List.mem_append_right _ (List.mem_append_right _ (List.mem_append_left _ (List.mem_of_getElem? (i := 153) rfl)))) rfl
set_option maxRecDepth 20000 in
theorem q_426 : (Jvm.Cond.static ({ cls := "BoilerDeskLaw", name := "unit", desc := "(LBoilerDesk;IZ)I" } : Jvm.MethodName)) ∈ lw_st := st_in (List.mem_append_right _ (List.mem_append_right _ (List.mem_append_left _ (List.mem_of_getElem? (i := 154) rfl)))) rfl
set_option maxRecDepth 20000 in
theorem q_427 : (Jvm.Cond.codeWith ({ cls := "BoilerDeskLaw", name := "unit", desc := "(LBoilerDesk;IZ)I" } : Jvm.MethodName) method_6_code (4 : Nat) (Option.some Jvm.ClassFile.FieldType.int) [((0 : Nat), (6 : Nat), (9 : Nat), (13 : Nat))]) ∈ lw_st := st_in (List.mem_append_right _ (List.mem_append_right _ (List.mem_append_left _ (List.mem_of_getElem? (i := 155) rfl)))) rfl
set_option maxRecDepth 20000 in
theorem q_428 : (Jvm.Cond.methodLink "BoilerDeskLaw" (23 : Nat) ({ cls := "BoilerDesk", name := "unit", desc := "(IZ)V" } : Jvm.MethodName)) ∈ lw_st := st_in (List.mem_append_right _ (List.mem_append_right _ (List.mem_append_left _ (List.mem_of_getElem? (i := 156) rfl)))) rfl
set_option maxRecDepth 20000 in
theorem q_429 : (Jvm.Cond.instanceMethod ({ cls := "BoilerDesk", name := "unit", desc := "(IZ)V" } : Jvm.MethodName)) ∈ lw_st := st_in (List.mem_append_right _ (List.mem_append_right _ (List.mem_append_left _ (List.mem_of_getElem? (i := 157) rfl)))) rfl
set_option maxRecDepth 20000 in
theorem q_430 : (Jvm.Cond.selects "BoilerDesk" ({ cls := "BoilerDesk", name := "unit", desc := "(IZ)V" } : Jvm.MethodName) ({ cls := "BoilerDesk", name := "unit", desc := "(IZ)V" } : Jvm.MethodName)) ∈ lw_st := st_in (List.mem_append_right _ (List.mem_append_right _ (List.mem_append_left _ (List.mem_of_getElem? (i := 158) rfl)))) rfl
set_option maxRecDepth 20000 in
theorem q_431 : (Jvm.Cond.code ({ cls := "BoilerDesk", name := "unit", desc := "(IZ)V" } : Jvm.MethodName) prog_1_method_7_code (3 : Nat) (Option.none : Option Jvm.ClassFile.FieldType)) ∈ lw_st := st_in (List.mem_append_right _ (List.mem_append_right _ (List.mem_append_left _ (List.mem_of_getElem? (i := 159) rfl)))) rfl
set_option maxRecDepth 20000 in
theorem q_433 : (Jvm.Cond.methodLink "BoilerDeskLaw" (73 : Nat) ({ cls := "BoilerDeskLaw", name := "cycle", desc := "(LBoilerDesk;[J)I" } : Jvm.MethodName)) ∈ lw_st := st_in (List.mem_append_right _ (List.mem_append_right _ (List.mem_append_left _ (List.mem_of_getElem? (i := 161) rfl)))) rfl
set_option maxRecDepth 20000 in
theorem q_434 : (Jvm.Cond.static ({ cls := "BoilerDeskLaw", name := "cycle", desc := "(LBoilerDesk;[J)I" } : Jvm.MethodName)) ∈ lw_st := st_in (List.mem_append_right _ (List.mem_append_right _ (List.mem_append_left _ (List.mem_of_getElem? (i := 162) rfl)))) rfl
set_option maxRecDepth 20000 in
theorem q_435 : (Jvm.Cond.codeWith ({ cls := "BoilerDeskLaw", name := "cycle", desc := "(LBoilerDesk;[J)I" } : Jvm.MethodName) method_7_code (3 : Nat) (Option.some Jvm.ClassFile.FieldType.int) [((0 : Nat), (8 : Nat), (11 : Nat), (31 : Nat))]) ∈ lw_st := st_in (List.mem_append_right _ (List.mem_append_right _ (List.mem_append_left _ (List.mem_of_getElem? (i := 163) rfl)))) rfl
set_option maxRecDepth 20000 in
theorem q_436 : (Jvm.Cond.classLink "BoilerDeskLaw" (31 : Nat) "java/lang/IllegalStateException") ∈ lw_st := st_in (List.mem_append_right _ (List.mem_append_right _ (List.mem_append_left _ (List.mem_of_getElem? (i := 164) rfl)))) rfl
set_option maxRecDepth 20000 in
theorem q_437 : (Jvm.Cond.methodLink "BoilerDeskLaw" (27 : Nat) ({ cls := "BoilerDesk", name := "cycle", desc := "()I" } : Jvm.MethodName)) ∈ lw_st := st_in (List.mem_append_right _ (List.mem_append_right _ (List.mem_append_left _ (List.mem_of_getElem? (i := 165) rfl)))) rfl
set_option maxRecDepth 20000 in
theorem q_438 : (Jvm.Cond.instanceMethod ({ cls := "BoilerDesk", name := "cycle", desc := "()I" } : Jvm.MethodName)) ∈ lw_st := st_in (List.mem_append_right _ (List.mem_append_right _ (List.mem_append_left _ (List.mem_of_getElem? (i := 166) rfl)))) rfl
set_option maxRecDepth 20000 in
theorem q_439 : (Jvm.Cond.selects "BoilerDesk" ({ cls := "BoilerDesk", name := "cycle", desc := "()I" } : Jvm.MethodName) ({ cls := "BoilerDesk", name := "cycle", desc := "()I" } : Jvm.MethodName)) ∈ lw_st := st_in (List.mem_append_right _ (List.mem_append_right _ (List.mem_append_left _ (List.mem_of_getElem? (i := 167) rfl)))) rfl
set_option maxRecDepth 20000 in
theorem q_440 : (Jvm.Cond.code ({ cls := "BoilerDesk", name := "cycle", desc := "()I" } : Jvm.MethodName) prog_1_method_8_code (1 : Nat) (Option.some Jvm.ClassFile.FieldType.int)) ∈ lw_st := st_in (List.mem_append_right _ (List.mem_append_right _ (List.mem_append_left _ (List.mem_of_getElem? (i := 168) rfl)))) rfl
set_option maxRecDepth 20000 in
theorem q_441 : (Jvm.Cond.classLink "BoilerDesk" (138 : Nat) "java/lang/IllegalStateException") ∈ lw_st := st_in (List.mem_append_right _ (List.mem_append_right _ (List.mem_append_left _ (List.mem_of_getElem? (i := 169) rfl)))) rfl
set_option maxRecDepth 20000 in
theorem q_442 : (Jvm.Cond.instantiable "java/lang/IllegalStateException" (6 : Nat)) ∈ lw_st := st_in (List.mem_append_right _ (List.mem_append_right _ (List.mem_append_left _ (List.mem_of_getElem? (i := 170) rfl)))) rfl
set_option maxRecDepth 20000 in
theorem q_444 : (Jvm.Cond.selects "java/lang/IllegalStateException" ({ cls := "java/lang/Throwable", name := "fillInStackTrace", desc := "(I)Ljava/lang/Throwable;" } : Jvm.MethodName) ({ cls := "java/lang/Throwable", name := "fillInStackTrace", desc := "(I)Ljava/lang/Throwable;" } : Jvm.MethodName)) ∈ lw_st := st_in (List.mem_append_right _ (List.mem_append_right _ (List.mem_append_left _ (List.mem_of_getElem? (i := 172) rfl)))) rfl
set_option maxRecDepth 20000 in
theorem q_445 : (Jvm.Cond.lays "java/lang/IllegalStateException" "java/lang/Throwable" "cause" "Ljava/lang/Throwable;") ∈ lw_st := st_in (List.mem_append_right _ (List.mem_append_right _ (List.mem_append_left _ (List.mem_of_getElem? (i := 173) rfl)))) rfl
set_option maxRecDepth 20000 in
theorem q_446 : (Jvm.Cond.lays "java/lang/IllegalStateException" "java/lang/Throwable" "stackTrace" "[Ljava/lang/StackTraceElement;") ∈ lw_st := st_in (List.mem_append_right _ (List.mem_append_right _ (List.mem_append_left _ (List.mem_of_getElem? (i := 174) rfl)))) rfl
set_option maxRecDepth 20000 in
theorem q_447 : (Jvm.Cond.lays "java/lang/IllegalStateException" "java/lang/Throwable" "suppressedExceptions" "Ljava/util/List;") ∈ lw_st := st_in (List.mem_append_right _ (List.mem_append_right _ (List.mem_append_left _ (List.mem_of_getElem? (i := 175) rfl)))) rfl
set_option maxRecDepth 20000 in
theorem q_448 : (Jvm.Cond.lays "java/lang/IllegalStateException" "java/lang/Throwable" "detailMessage" "Ljava/lang/String;") ∈ lw_st := st_in (List.mem_append_right _ (List.mem_append_right _ (List.mem_append_left _ (List.mem_of_getElem? (i := 176) rfl)))) rfl
set_option maxRecDepth 20000 in
theorem q_449 : (Jvm.Cond.lays "java/lang/IllegalStateException" "java/lang/Throwable" "backtrace" "Ljava/lang/Object;") ∈ lw_st := st_in (List.mem_append_right _ (List.mem_append_right _ (List.mem_append_left _ (List.mem_of_getElem? (i := 177) rfl)))) rfl
set_option maxRecDepth 20000 in
theorem q_451 : (Jvm.Cond.methodLink "BoilerDesk" (142 : Nat) ({ cls := "java/lang/IllegalStateException", name := "<init>", desc := "(Ljava/lang/String;)V" } : Jvm.MethodName)) ∈ lw_st := st_in (List.mem_append_right _ (List.mem_append_right _ (List.mem_append_left _ (List.mem_of_getElem? (i := 179) rfl)))) rfl
set_option maxRecDepth 20000 in
theorem q_452 : (Jvm.Cond.instanceMethod ({ cls := "java/lang/IllegalStateException", name := "<init>", desc := "(Ljava/lang/String;)V" } : Jvm.MethodName)) ∈ lw_st := st_in (List.mem_append_right _ (List.mem_append_right _ (List.mem_append_left _ (List.mem_of_getElem? (i := 180) rfl)))) rfl
set_option maxRecDepth 20000 in
theorem q_453 : (Jvm.Cond.code ({ cls := "java/lang/IllegalStateException", name := "<init>", desc := "(Ljava/lang/String;)V" } : Jvm.MethodName) prog_12_method_2_code (2 : Nat) (Option.none : Option Jvm.ClassFile.FieldType)) ∈ lw_st := st_in (List.mem_append_right _ (List.mem_append_right _ (List.mem_append_left _ (List.mem_of_getElem? (i := 181) rfl)))) rfl
set_option maxRecDepth 20000 in
theorem q_454 : (Jvm.Cond.methodLink "java/lang/IllegalStateException" (7 : Nat) ({ cls := "java/lang/RuntimeException", name := "<init>", desc := "(Ljava/lang/String;)V" } : Jvm.MethodName)) ∈ lw_st := st_in (List.mem_append_right _ (List.mem_append_right _ (List.mem_append_left _ (List.mem_of_getElem? (i := 182) rfl)))) rfl
set_option maxRecDepth 20000 in
theorem q_455 : (Jvm.Cond.lays "java/lang/IllegalStateException" "java/lang/Throwable" "depth" "I") ∈ lw_st := st_in (List.mem_append_right _ (List.mem_append_right _ (List.mem_append_left _ (List.mem_of_getElem? (i := 183) rfl)))) rfl
set_option maxRecDepth 20000 in
theorem q_457 : (Jvm.Cond.methodLink "BoilerDesk" (149 : Nat) ({ cls := "BoilerDesk", name := "runSteps", desc := "()V" } : Jvm.MethodName)) ∈ lw_st := st_in (List.mem_append_right _ (List.mem_append_right _ (List.mem_append_left _ (List.mem_of_getElem? (i := 185) rfl)))) rfl
set_option maxRecDepth 20000 in
theorem q_459 : (Jvm.Cond.instanceMethod ({ cls := "BoilerDesk", name := "runSteps", desc := "()V" } : Jvm.MethodName)) ∈ lw_st := st_in (List.mem_append_right _ (List.mem_append_right _ (List.mem_append_left _ (List.mem_of_getElem? (i := 187) rfl)))) rfl
set_option maxRecDepth 20000 in
theorem q_460 : (Jvm.Cond.code ({ cls := "BoilerDesk", name := "runSteps", desc := "()V" } : Jvm.MethodName) prog_1_method_14_code (2 : Nat) (Option.none : Option Jvm.ClassFile.FieldType)) ∈ lw_st := st_in (List.mem_append_right _ (List.mem_append_right _ (List.mem_append_left _ (List.mem_of_getElem? (i := 188) rfl)))) rfl
set_option maxRecDepth 20000 in
theorem q_461 : (Jvm.Cond.methodLink "BoilerDesk" (219 : Nat) ({ cls := "BoilerDesk", name := "noteWords", desc := "()V" } : Jvm.MethodName)) ∈ lw_st := st_in (List.mem_append_right _ (List.mem_append_right _ (List.mem_append_left _ (List.mem_of_getElem? (i := 189) rfl)))) rfl
set_option maxRecDepth 20000 in
theorem q_463 : (Jvm.Cond.instanceMethod ({ cls := "BoilerDesk", name := "noteWords", desc := "()V" } : Jvm.MethodName)) ∈ lw_st := st_in (List.mem_append_right _ (List.mem_append_right _ (List.mem_append_left _ (List.mem_of_getElem? (i := 191) rfl)))) rfl
set_option maxRecDepth 20000 in
theorem q_464 : (Jvm.Cond.code ({ cls := "BoilerDesk", name := "noteWords", desc := "()V" } : Jvm.MethodName) prog_1_method_15_code (1 : Nat) (Option.none : Option Jvm.ClassFile.FieldType)) ∈ lw_st := st_in (List.mem_append_right _ (List.mem_append_right _ (List.mem_append_left _ (List.mem_of_getElem? (i := 192) rfl)))) rfl
set_option maxRecDepth 20000 in
theorem q_465 : (Jvm.Cond.methodLink "BoilerDesk" (222 : Nat) ({ cls := "BoilerDesk$Inbox", name := "hasAllReadings", desc := "()Z" } : Jvm.MethodName)) ∈ lw_st := st_in (List.mem_append_right _ (List.mem_append_right _ (List.mem_append_left _ (List.mem_of_getElem? (i := 193) rfl)))) rfl
set_option maxRecDepth 20000 in
theorem q_466 : (Jvm.Cond.instanceMethod ({ cls := "BoilerDesk$Inbox", name := "hasAllReadings", desc := "()Z" } : Jvm.MethodName)) ∈ lw_st := st_in (List.mem_append_right _ (List.mem_append_right _ (List.mem_append_left _ (List.mem_of_getElem? (i := 194) rfl)))) rfl
set_option maxRecDepth 20000 in
theorem q_467 : (Jvm.Cond.selects "BoilerDesk$Inbox" ({ cls := "BoilerDesk$Inbox", name := "hasAllReadings", desc := "()Z" } : Jvm.MethodName) ({ cls := "BoilerDesk$Inbox", name := "hasAllReadings", desc := "()Z" } : Jvm.MethodName)) ∈ lw_st := st_in (List.mem_append_right _ (List.mem_append_right _ (List.mem_append_left _ (List.mem_of_getElem? (i := 195) rfl)))) rfl
set_option maxRecDepth 20000 in
theorem q_468 : (Jvm.Cond.code ({ cls := "BoilerDesk$Inbox", name := "hasAllReadings", desc := "()Z" } : Jvm.MethodName) prog_2_method_2_code (1 : Nat) (Option.some Jvm.ClassFile.FieldType.boolean)) ∈ lw_st := st_in (List.mem_append_right _ (List.mem_append_right _ (List.mem_append_left _ (List.mem_of_getElem? (i := 196) rfl)))) rfl
set_option maxRecDepth 20000 in
theorem q_469 : (Jvm.Cond.methodLink "BoilerDesk" (226 : Nat) ({ cls := "BoilerDesk", name := "takeRepairs", desc := "()V" } : Jvm.MethodName)) ∈ lw_st := st_in (List.mem_append_right _ (List.mem_append_right _ (List.mem_append_left _ (List.mem_of_getElem? (i := 197) rfl)))) rfl
set_option maxRecDepth 20000 in
theorem q_471 : (Jvm.Cond.instanceMethod ({ cls := "BoilerDesk", name := "takeRepairs", desc := "()V" } : Jvm.MethodName)) ∈ lw_st := st_in (List.mem_append_right _ (List.mem_append_right _ (List.mem_append_left _ (List.mem_of_getElem? (i := 199) rfl)))) rfl
set_option maxRecDepth 20000 in
theorem q_472 : (Jvm.Cond.code ({ cls := "BoilerDesk", name := "takeRepairs", desc := "()V" } : Jvm.MethodName) prog_1_method_16_code (2 : Nat) (Option.none : Option Jvm.ClassFile.FieldType)) ∈ lw_st := st_in (List.mem_append_right _ (List.mem_append_right _ (List.mem_append_left _ (List.mem_of_getElem? (i := 200) rfl)))) rfl
set_option maxRecDepth 20000 in
theorem q_473 : (Jvm.Cond.methodLink "BoilerDesk" (255 : Nat) ({ cls := "BoilerDesk", name := "hasBit", desc := "(II)Z" } : Jvm.MethodName)) ∈ lw_st := st_in (List.mem_append_right _ (List.mem_append_right _ (List.mem_append_left _ (List.mem_of_getElem? (i := 201) rfl)))) rfl
set_option maxRecDepth 20000 in
theorem q_474 : (Jvm.Cond.static ({ cls := "BoilerDesk", name := "hasBit", desc := "(II)Z" } : Jvm.MethodName)) ∈ lw_st := st_in (List.mem_append_right _ (List.mem_append_right _ (List.mem_append_left _ (List.mem_of_getElem? (i := 202) rfl)))) rfl
set_option maxRecDepth 20000 in
theorem q_475 : (Jvm.Cond.code ({ cls := "BoilerDesk", name := "hasBit", desc := "(II)Z" } : Jvm.MethodName) prog_1_method_34_code (2 : Nat) (Option.some Jvm.ClassFile.FieldType.boolean)) ∈ lw_st := st_in (List.mem_append_right _ (List.mem_append_right _ (List.mem_append_left _ (List.mem_of_getElem? (i := 203) rfl)))) rfl
set_option maxRecDepth 20000 in
theorem q_476 : (Jvm.Cond.methodLink "BoilerDesk" (259 : Nat) ({ cls := "BoilerDesk$Units", name := "hasFailed", desc := "(I)Z" } : Jvm.MethodName)) ∈ lw_st := st_in (List.mem_append_right _ (List.mem_append_right _ (List.mem_append_left _ (List.mem_of_getElem? (i := 204) rfl)))) rfl
set_option maxRecDepth 20000 in
theorem q_477 : (Jvm.Cond.instanceMethod ({ cls := "BoilerDesk$Units", name := "hasFailed", desc := "(I)Z" } : Jvm.MethodName)) ∈ lw_st := st_in (List.mem_append_right _ (List.mem_append_right _ (List.mem_append_left _ (List.mem_of_getElem? (i := 205) rfl)))) rfl
set_option maxRecDepth 20000 in
theorem q_478 : (Jvm.Cond.selects "BoilerDesk$Units" ({ cls := "BoilerDesk$Units", name := "hasFailed", desc := "(I)Z" } : Jvm.MethodName) ({ cls := "BoilerDesk$Units", name := "hasFailed", desc := "(I)Z" } : Jvm.MethodName)) ∈ lw_st := st_in (List.mem_append_right _ (List.mem_append_right _ (List.mem_append_left _ (List.mem_of_getElem? (i := 206) rfl)))) rfl
set_option maxRecDepth 20000 in
theorem q_479 : (Jvm.Cond.code ({ cls := "BoilerDesk$Units", name := "hasFailed", desc := "(I)Z" } : Jvm.MethodName) prog_7_method_2_code (2 : Nat) (Option.some Jvm.ClassFile.FieldType.boolean)) ∈ lw_st := st_in (List.mem_append_right _ (List.mem_append_right _ (List.mem_append_left _ (List.mem_of_getElem? (i := 207) rfl)))) rfl
set_option maxRecDepth 20000 in
theorem q_480 : (Jvm.Cond.methodLinkNest "BoilerDesk$Units" (13 : Nat) ({ cls := "BoilerDesk", name := "hasBit", desc := "(II)Z" } : Jvm.MethodName) "BoilerDesk") ∈ lw_st := st_in (List.mem_append_right _ (List.mem_append_right _ (List.mem_append_left _ (List.mem_of_getElem? (i := 208) rfl)))) rfl
set_option maxRecDepth 20000 in
theorem q_481 : (Jvm.Cond.methodLink "BoilerDesk" (263 : Nat) ({ cls := "BoilerDesk$Units", name := "repair", desc := "(I)V" } : Jvm.MethodName)) ∈ lw_st := st_in (List.mem_append_right _ (List.mem_append_right _ (List.mem_append_left _ (List.mem_of_getElem? (i := 209) rfl)))) rfl
set_option maxRecDepth 20000 in
theorem q_482 : (Jvm.Cond.instanceMethod ({ cls := "BoilerDesk$Units", name := "repair", desc := "(I)V" } : Jvm.MethodName)) ∈ lw_st := st_in (List.mem_append_right _ (List.mem_append_right _ (List.mem_append_left _ (List.mem_of_getElem? (i := 210) rfl)))) rfl
set_option maxRecDepth 20000 in
theorem q_483 : (Jvm.Cond.selects "BoilerDesk$Units" ({ cls := "BoilerDesk$Units", name := "repair", desc := "(I)V" } : Jvm.MethodName) ({ cls := "BoilerDesk$Units", name := "repair", desc := "(I)V" } : Jvm.MethodName)) ∈ lw_st := st_in (List.mem_append_right _ (List.mem_append_right _ (List.mem_append_left _ (List.mem_of_getElem? (i := 211) rfl)))) rfl
set_option maxRecDepth 20000 in
theorem q_484 : (Jvm.Cond.code ({ cls := "BoilerDesk$Units", name := "repair", desc := "(I)V" } : Jvm.MethodName) prog_7_method_6_code (2 : Nat) (Option.none : Option Jvm.ClassFile.FieldType)) ∈ lw_st := st_in (List.mem_append_right _ (List.mem_append_right _ (List.mem_append_left _ (List.mem_of_getElem? (i := 212) rfl)))) rfl
set_option maxRecDepth 20000 in
theorem q_485 : (Jvm.Cond.methodLinkNest "BoilerDesk$Units" (22 : Nat) ({ cls := "BoilerDesk", name := "withBit", desc := "(IIZ)I" } : Jvm.MethodName) "BoilerDesk") ∈ lw_st := st_in (List.mem_append_right _ (List.mem_append_right _ (List.mem_append_left _ (List.mem_of_getElem? (i := 213) rfl)))) rfl
set_option maxRecDepth 20000 in
theorem q_486 : (Jvm.Cond.methodLink "BoilerDesk" (266 : Nat) ({ cls := "BoilerDesk", name := "stopUnlessInitial", desc := "()V" } : Jvm.MethodName)) ∈ lw_st := st_in (List.mem_append_right _ (List.mem_append_right _ (List.mem_append_left _ (List.mem_of_getElem? (i := 214) rfl)))) rfl
set_option maxRecDepth 20000 in
theorem q_488 : (Jvm.Cond.instanceMethod ({ cls := "BoilerDesk", name := "stopUnlessInitial", desc := "()V" } : Jvm.MethodName)) ∈ lw_st := st_in (List.mem_append_right _ (List.mem_append_right _ (List.mem_append_left _ (List.mem_of_getElem? (i := 216) rfl)))) rfl
set_option maxRecDepth 20000 in
theorem q_489 : (Jvm.Cond.code ({ cls := "BoilerDesk", name := "stopUnlessInitial", desc := "()V" } : Jvm.MethodName) prog_1_method_18_code (1 : Nat) (Option.none : Option Jvm.ClassFile.FieldType)) ∈ lw_st := st_in (List.mem_append_right _ (List.mem_append_right _ (List.mem_append_left _ (List.mem_of_getElem? (i := 217) rfl)))) rfl
set_option maxRecDepth 20000 in
theorem q_490 : (Jvm.Cond.methodLink "BoilerDesk" (229 : Nat) ({ cls := "BoilerDesk", name := "takeAcknowledgements", desc := "()V" } : Jvm.MethodName)) ∈ lw_st := st_in (List.mem_append_right _ (List.mem_append_right _ (List.mem_append_left _ (List.mem_of_getElem? (i := 218) rfl)))) rfl
set_option maxRecDepth 20000 in
theorem q_492 : (Jvm.Cond.instanceMethod ({ cls := "BoilerDesk", name := "takeAcknowledgements", desc := "()V" } : Jvm.MethodName)) ∈ lw_st := st_in (List.mem_append_right _ (List.mem_append_right _ (List.mem_append_left _ (List.mem_of_getElem? (i := 220) rfl)))) rfl
set_option maxRecDepth 20000 in
theorem q_493 : (Jvm.Cond.code ({ cls := "BoilerDesk", name := "takeAcknowledgements", desc := "()V" } : Jvm.MethodName) prog_1_method_17_code (2 : Nat) (Option.none : Option Jvm.ClassFile.FieldType)) ∈ lw_st := st_in (List.mem_append_right _ (List.mem_append_right _ (List.mem_append_left _ (List.mem_of_getElem? (i := 221) rfl)))) rfl
set_option maxRecDepth 20000 in
theorem q_494 : (Jvm.Cond.methodLink "BoilerDesk" (269 : Nat) ({ cls := "BoilerDesk$Units", name := "awaitsAcknowledgement", desc := "(I)Z" } : Jvm.MethodName)) ∈ lw_st := st_in (List.mem_append_right _ (List.mem_append_right _ (List.mem_append_left _ (List.mem_of_getElem? (i := 222) rfl)))) rfl
set_option maxRecDepth 20000 in
theorem q_495 : (Jvm.Cond.instanceMethod ({ cls := "BoilerDesk$Units", name := "awaitsAcknowledgement", desc := "(I)Z" } : Jvm.MethodName)) ∈ lw_st := st_in (List.mem_append_right _ (List.mem_append_right _ (List.mem_append_left _ (List.mem_of_getElem? (i := 223) rfl)))) rfl
set_option maxRecDepth 20000 in
theorem q_496 : (Jvm.Cond.selects "BoilerDesk$Units" ({ cls := "BoilerDesk$Units", name := "awaitsAcknowledgement", desc := "(I)Z" } : Jvm.MethodName) ({ cls := "BoilerDesk$Units", name := "awaitsAcknowledgement", desc := "(I)Z" } : Jvm.MethodName)) ∈ lw_st := st_in (List.mem_append_right _ (List.mem_append_right _ (List.mem_append_left _ (List.mem_of_getElem? (i := 224) rfl)))) rfl
set_option maxRecDepth 20000 in
theorem q_497 : (Jvm.Cond.code ({ cls := "BoilerDesk$Units", name := "awaitsAcknowledgement", desc := "(I)Z" } : Jvm.MethodName) prog_7_method_3_code (2 : Nat) (Option.some Jvm.ClassFile.FieldType.boolean)) ∈ lw_st := st_in (List.mem_append_right _ (List.mem_append_right _ (List.mem_append_left _ (List.mem_of_getElem? (i := 225) rfl)))) rfl
set_option maxRecDepth 20000 in
theorem q_498 : (Jvm.Cond.methodLink "BoilerDesk" (272 : Nat) ({ cls := "BoilerDesk$Units", name := "acknowledge", desc := "(I)V" } : Jvm.MethodName)) ∈ lw_st := st_in (List.mem_append_right _ (List.mem_append_right _ (List.mem_append_left _ (List.mem_of_getElem? (i := 226) rfl)))) rfl
set_option maxRecDepth 20000 in
theorem q_499 : (Jvm.Cond.instanceMethod ({ cls := "BoilerDesk$Units", name := "acknowledge", desc := "(I)V" } : Jvm.MethodName)) ∈ lw_st := st_in (List.mem_append_right _ (List.mem_append_right _ (List.mem_append_left _ (List.mem_of_getElem? (i := 227) rfl)))) rfl
set_option maxRecDepth 20000 in
theorem q_500 : (Jvm.Cond.selects "BoilerDesk$Units" ({ cls := "BoilerDesk$Units", name := "acknowledge", desc := "(I)V" } : Jvm.MethodName) ({ cls := "BoilerDesk$Units", name := "acknowledge", desc := "(I)V" } : Jvm.MethodName)) ∈ lw_st := st_in (List.mem_append_right _ (List.mem_append_right _ (List.mem_append_left _ (List.mem_of_getElem? (i := 228) rfl)))) rfl
set_option maxRecDepth 20000 in
theorem q_501 : (Jvm.Cond.code ({ cls := "BoilerDesk$Units", name := "acknowledge", desc := "(I)V" } : Jvm.MethodName) prog_7_method_5_code (2 : Nat) (Option.none : Option Jvm.ClassFile.FieldType)) ∈ lw_st := st_in (List.mem_append_right _ (List.mem_append_right _ (List.mem_append_left _ (List.mem_of_getElem? (i := 229) rfl)))) rfl
set_option maxRecDepth 20000 in
theorem q_502 : (Jvm.Cond.methodLink "BoilerDesk" (232 : Nat) ({ cls := "BoilerDesk", name := "expectReadings", desc := "(I)V" } : Jvm.MethodName)) ∈ lw_st := st_in (List.mem_append_right _ (List.mem_append_right _ (List.mem_append_left _ (List.mem_of_getElem? (i := 230) rfl)))) rfl
set_option maxRecDepth 20000 in
theorem q_504 : (Jvm.Cond.instanceMethod ({ cls := "BoilerDesk", name := "expectReadings", desc := "(I)V" } : Jvm.MethodName)) ∈ lw_st := st_in (List.mem_append_right _ (List.mem_append_right _ (List.mem_append_left _ (List.mem_of_getElem? (i := 232) rfl)))) rfl
set_option maxRecDepth 20000 in
theorem q_505 : (Jvm.Cond.code ({ cls := "BoilerDesk", name := "expectReadings", desc := "(I)V" } : Jvm.MethodName) prog_1_method_19_code (6 : Nat) (Option.none : Option Jvm.ClassFile.FieldType)) ∈ lw_st := st_in (List.mem_append_right _ (List.mem_append_right _ (List.mem_append_left _ (List.mem_of_getElem? (i := 233) rfl)))) rfl
set_option maxRecDepth 20000 in
theorem q_506 : (Jvm.Cond.methodLink "BoilerDesk" (278 : Nat) ({ cls := "java/lang/Math", name := "max", desc := "(II)I" } : Jvm.MethodName)) ∈ lw_st := st_in (List.mem_append_right _ (List.mem_append_right _ (List.mem_append_left _ (List.mem_of_getElem? (i := 234) rfl)))) rfl
set_option maxRecDepth 20000 in
theorem q_507 : (Jvm.Cond.static ({ cls := "java/lang/Math", name := "max", desc := "(II)I" } : Jvm.MethodName)) ∈ lw_st := st_in (List.mem_append_right _ (List.mem_append_right _ (List.mem_append_left _ (List.mem_of_getElem? (i := 235) rfl)))) rfl
set_option maxRecDepth 20000 in
theorem q_508 : (Jvm.Cond.code ({ cls := "java/lang/Math", name := "max", desc := "(II)I" } : Jvm.MethodName) prog_14_method_65_code (2 : Nat) (Option.some Jvm.ClassFile.FieldType.int)) ∈ lw_st := st_in (List.mem_append_right _ (List.mem_append_right _ (List.mem_append_left _ (List.mem_of_getElem? (i := 236) rfl)))) rfl
set_option maxRecDepth 20000 in
theorem q_509 : (Jvm.Cond.methodLink "BoilerDesk" (287 : Nat) ({ cls := "java/lang/Math", name := "min", desc := "(II)I" } : Jvm.MethodName)) ∈ lw_st := st_in (List.mem_append_right _ (List.mem_append_right _ (List.mem_append_left _ (List.mem_of_getElem? (i := 237) rfl)))) rfl
set_option maxRecDepth 20000 in
theorem q_510 : (Jvm.Cond.static ({ cls := "java/lang/Math", name := "min", desc := "(II)I" } : Jvm.MethodName)) ∈ lw_st := st_in (List.mem_append_right _ (List.mem_append_right _ (List.mem_append_left _ (List.mem_of_getElem? (i := 238) rfl)))) rfl
set_option maxRecDepth 20000 in
theorem q_511 : (Jvm.Cond.code ({ cls := "java/lang/Math", name := "min", desc := "(II)I" } : Jvm.MethodName) prog_14_method_69_code (2 : Nat) (Option.some Jvm.ClassFile.FieldType.int)) ∈ lw_st := st_in (List.mem_append_right _ (List.mem_append_right _ (List.mem_append_left _ (List.mem_of_getElem? (i := 239) rfl)))) rfl
set_option maxRecDepth 20000 in
theorem q_512 : (Jvm.Cond.methodLink "BoilerDesk" (290 : Nat) ({ cls := "BoilerDesk$Machines", name := "pumpsSurelyGiving", desc := "(I)I" } : Jvm.MethodName)) ∈ lw_st := st_in (List.mem_append_right _ (List.mem_append_right _ (List.mem_append_right _ (List.mem_append_left _ (List.mem_of_getElem? (i := 0) rfl))))) rfl
set_option maxRecDepth 20000 in
theorem q_513 : (Jvm.Cond.instanceMethod ({ cls := "BoilerDesk$Machines", name := "pumpsSurelyGiving", desc := "(I)I" } : Jvm.MethodName)) ∈ lw_st := st_in (List.mem_append_right _ (List.mem_append_right _ (List.mem_append_right _ (List.mem_append_left _ (List.mem_of_getElem? (i := 1) rfl))))) rfl
set_option maxRecDepth 20000 in
theorem q_514 : (Jvm.Cond.selects "BoilerDesk$Machines" ({ cls := "BoilerDesk$Machines", name := "pumpsSurelyGiving", desc := "(I)I" } : Jvm.MethodName) ({ cls := "BoilerDesk$Machines", name := "pumpsSurelyGiving", desc := "(I)I" } : Jvm.MethodName)) ∈ lw_st := st_in (List.mem_append_right _ (List.mem_append_right _ (List.mem_append_right _ (List.mem_append_left _ (List.mem_of_getElem? (i := 2) rfl))))) rfl
set_option maxRecDepth 20000 in
theorem q_515 : (Jvm.Cond.code ({ cls := "BoilerDesk$Machines", name := "pumpsSurelyGiving", desc := "(I)I" } : Jvm.MethodName) prog_3_method_3_code (2 : Nat) (Option.some Jvm.ClassFile.FieldType.int)) ∈ lw_st := st_in (List.mem_append_right _ (List.mem_append_right _ (List.mem_append_right _ (List.mem_append_left _ (List.mem_of_getElem? (i := 3) rfl))))) rfl
set_option maxRecDepth 20000 in
theorem q_516 : (Jvm.Cond.methodLink "BoilerDesk$Machines" (21 : Nat) ({ cls := "BoilerDesk$Machines", name := "trusted", desc := "(I)I" } : Jvm.MethodName)) ∈ lw_st := st_in (List.mem_append_right _ (List.mem_append_right _ (List.mem_append_right _ (List.mem_append_left _ (List.mem_of_getElem? (i := 4) rfl))))) rfl
set_option maxRecDepth 20000 in
theorem q_517 : (Jvm.Cond.static ({ cls := "BoilerDesk$Machines", name := "trusted", desc := "(I)I" } : Jvm.MethodName)) ∈ lw_st := st_in (List.mem_append_right _ (List.mem_append_right _ (List.mem_append_right _ (List.mem_append_left _ (List.mem_of_getElem? (i := 5) rfl))))) rfl
set_option maxRecDepth 20000 in
theorem q_518 : (Jvm.Cond.code ({ cls := "BoilerDesk$Machines", name := "trusted", desc := "(I)I" } : Jvm.MethodName) prog_3_method_5_code (1 : Nat) (Option.some Jvm.ClassFile.FieldType.int)) ∈ lw_st := st_in (List.mem_append_right _ (List.mem_append_right _ (List.mem_append_right _ (List.mem_append_left _ (List.mem_of_getElem? (i := 6) rfl))))) rfl
set_option maxRecDepth 20000 in
theorem q_519 : (Jvm.Cond.methodLink "BoilerDesk" (294 : Nat) ({ cls := "BoilerDesk$Machines", name := "pumpsSurelyIdle", desc := "(I)I" } : Jvm.MethodName)) ∈ lw_st := st_in (List.mem_append_right _ (List.mem_append_right _ (List.mem_append_right _ (List.mem_append_left _ (List.mem_of_getElem? (i := 7) rfl))))) rfl
set_option maxRecDepth 20000 in
theorem q_520 : (Jvm.Cond.instanceMethod ({ cls := "BoilerDesk$Machines", name := "pumpsSurelyIdle", desc := "(I)I" } : Jvm.MethodName)) ∈ lw_st := st_in (List.mem_append_right _ (List.mem_append_right _ (List.mem_append_right _ (List.mem_append_left _ (List.mem_of_getElem? (i := 8) rfl))))) rfl
set_option maxRecDepth 20000 in
theorem q_521 : (Jvm.Cond.selects "BoilerDesk$Machines" ({ cls := "BoilerDesk$Machines", name := "pumpsSurelyIdle", desc := "(I)I" } : Jvm.MethodName) ({ cls := "BoilerDesk$Machines", name := "pumpsSurelyIdle", desc := "(I)I" } : Jvm.MethodName)) ∈ lw_st := st_in (List.mem_append_right _ (List.mem_append_right _ (List.mem_append_right _ (List.mem_append_left _ (List.mem_of_getElem? (i := 9) rfl))))) rfl
set_option maxRecDepth 20000 in
theorem q_522 : (Jvm.Cond.code ({ cls := "BoilerDesk$Machines", name := "pumpsSurelyIdle", desc := "(I)I" } : Jvm.MethodName) prog_3_method_4_code (2 : Nat) (Option.some Jvm.ClassFile.FieldType.int)) ∈ lw_st := st_in (List.mem_append_right _ (List.mem_append_right _ (List.mem_append_right _ (List.mem_append_left _ (List.mem_of_getElem? (i := 10) rfl))))) rfl
set_option maxRecDepth 20000 in
theorem q_523 : (Jvm.Cond.methodLink "BoilerDesk" (297 : Nat) ({ cls := "BoilerDesk$Plant", name := "given", desc := "(I)I" } : Jvm.MethodName)) ∈ lw_st := st_in (List.mem_append_right _ (List.mem_append_right _ (List.mem_append_right _ (List.mem_append_left _ (List.mem_of_getElem? (i := 11) rfl))))) rfl
set_option maxRecDepth 20000 in
theorem q_524 : (Jvm.Cond.instanceMethod ({ cls := "BoilerDesk$Plant", name := "given", desc := "(I)I" } : Jvm.MethodName)) ∈ lw_st := st_in (List.mem_append_right _ (List.mem_append_right _ (List.mem_append_right _ (List.mem_append_left _ (List.mem_of_getElem? (i := 12) rfl))))) rfl
set_option maxRecDepth 20000 in
theorem q_525 : (Jvm.Cond.selects "BoilerDesk$Plant" ({ cls := "BoilerDesk$Plant", name := "given", desc := "(I)I" } : Jvm.MethodName) ({ cls := "BoilerDesk$Plant", name := "given", desc := "(I)I" } : Jvm.MethodName)) ∈ lw_st := st_in (List.mem_append_right _ (List.mem_append_right _ (List.mem_append_right _ (List.mem_append_left _ (List.mem_of_getElem? (i := 13) rfl))))) rfl
set_option maxRecDepth 20000 in
theorem q_526 : (Jvm.Cond.code ({ cls := "BoilerDesk$Plant", name := "given", desc := "(I)I" } : Jvm.MethodName) prog_4_method_6_code (2 : Nat) (Option.some Jvm.ClassFile.FieldType.int)) ∈ lw_st := st_in (List.mem_append_right _ (List.mem_append_right _ (List.mem_append_right _ (List.mem_append_left _ (List.mem_of_getElem? (i := 14) rfl))))) rfl
set_option maxRecDepth 20000 in
theorem q_527 : (Jvm.Cond.methodLink "BoilerDesk$Plant" (52 : Nat) ({ cls := "java/lang/Integer", name := "bitCount", desc := "(I)I" } : Jvm.MethodName)) ∈ lw_st := st_in (List.mem_append_right _ (List.mem_append_right _ (List.mem_append_right _ (List.mem_append_left _ (List.mem_of_getElem? (i := 15) rfl))))) rfl
set_option maxRecDepth 20000 in
theorem q_528 : (Jvm.Cond.static ({ cls := "java/lang/Integer", name := "bitCount", desc := "(I)I" } : Jvm.MethodName)) ∈ lw_st := st_in (List.mem_append_right _ (List.mem_append_right _ (List.mem_append_right _ (List.mem_append_left _ (List.mem_of_getElem? (i := 16) rfl))))) rfl
set_option maxRecDepth 20000 in
theorem q_529 : (Jvm.Cond.code ({ cls := "java/lang/Integer", name := "bitCount", desc := "(I)I" } : Jvm.MethodName) prog_13_method_49_code (1 : Nat) (Option.some Jvm.ClassFile.FieldType.int)) ∈ lw_st := st_in (List.mem_append_right _ (List.mem_append_right _ (List.mem_append_right _ (List.mem_append_left _ (List.mem_of_getElem? (i := 17) rfl))))) rfl
set_option maxRecDepth 20000 in
theorem q_530 : (Jvm.Cond.constant "java/lang/Integer" (265 : Nat) (1431655765 : Int32)) ∈ lw_st := st_in (List.mem_append_right _ (List.mem_append_right _ (List.mem_append_right _ (List.mem_append_left _ (List.mem_of_getElem? (i := 18) rfl))))) rfl
set_option maxRecDepth 20000 in
theorem q_531 : (Jvm.Cond.constant "java/lang/Integer" (266 : Nat) (858993459 : Int32)) ∈ lw_st := st_in (List.mem_append_right _ (List.mem_append_right _ (List.mem_append_right _ (List.mem_append_left _ (List.mem_of_getElem? (i := 19) rfl))))) rfl
set_option maxRecDepth 20000 in
theorem q_532 : (Jvm.Cond.constant "java/lang/Integer" (267 : Nat) (252645135 : Int32)) ∈ lw_st := st_in (List.mem_append_right _ (List.mem_append_right _ (List.mem_append_right _ (List.mem_append_left _ (List.mem_of_getElem? (i := 20) rfl))))) rfl
set_option maxRecDepth 20000 in
theorem q_533 : (Jvm.Cond.methodLink "BoilerDesk" (300 : Nat) ({ cls := "BoilerDesk$Plant", name := "withinCapacity", desc := "(I)I" } : Jvm.MethodName)) ∈ lw_st := st_in (List.mem_append_right _ (List.mem_append_right _ (List.mem_append_right _ (List.mem_append_left _ (List.mem_of_getElem? (i := 21) rfl))))) rfl
set_option maxRecDepth 20000 in
theorem q_534 : (Jvm.Cond.instanceMethod ({ cls := "BoilerDesk$Plant", name := "withinCapacity", desc := "(I)I" } : Jvm.MethodName)) ∈ lw_st := st_in (List.mem_append_right _ (List.mem_append_right _ (List.mem_append_right _ (List.mem_append_left _ (List.mem_of_getElem? (i := 22) rfl))))) rfl
set_option maxRecDepth 20000 in
theorem q_535 : (Jvm.Cond.selects "BoilerDesk$Plant" ({ cls := "BoilerDesk$Plant", name := "withinCapacity", desc := "(I)I" } : Jvm.MethodName) ({ cls := "BoilerDesk$Plant", name := "withinCapacity", desc := "(I)I" } : Jvm.MethodName)) ∈ lw_st := st_in (List.mem_append_right _ (List.mem_append_right _ (List.mem_append_right _ (List.mem_append_left _ (List.mem_of_getElem? (i := 23) rfl))))) rfl
set_option maxRecDepth 20000 in
theorem q_536 : (Jvm.Cond.code ({ cls := "BoilerDesk$Plant", name := "withinCapacity", desc := "(I)I" } : Jvm.MethodName) prog_4_method_5_code (2 : Nat) (Option.some Jvm.ClassFile.FieldType.int)) ∈ lw_st := st_in (List.mem_append_right _ (List.mem_append_right _ (List.mem_append_right _ (List.mem_append_left _ (List.mem_of_getElem? (i := 24) rfl))))) rfl
set_option maxRecDepth 20000 in
theorem q_537 : (Jvm.Cond.methodLink "BoilerDesk$Plant" (43 : Nat) ({ cls := "java/lang/Math", name := "min", desc := "(II)I" } : Jvm.MethodName)) ∈ lw_st := st_in (List.mem_append_right _ (List.mem_append_right _ (List.mem_append_right _ (List.mem_append_left _ (List.mem_of_getElem? (i := 25) rfl))))) rfl
set_option maxRecDepth 20000 in
theorem q_538 : (Jvm.Cond.methodLink "BoilerDesk$Plant" (49 : Nat) ({ cls := "java/lang/Math", name := "max", desc := "(II)I" } : Jvm.MethodName)) ∈ lw_st := st_in (List.mem_append_right _ (List.mem_append_right _ (List.mem_append_right _ (List.mem_append_left _ (List.mem_of_getElem? (i := 26) rfl))))) rfl
set_option maxRecDepth 20000 in
theorem q_539 : (Jvm.Cond.methodLink "BoilerDesk" (236 : Nat) ({ cls := "BoilerDesk", name := "detectFailures", desc := "()V" } : Jvm.MethodName)) ∈ lw_st := st_in (List.mem_append_right _ (List.mem_append_right _ (List.mem_append_right _ (List.mem_append_left _ (List.mem_of_getElem? (i := 27) rfl))))) rfl
set_option maxRecDepth 20000 in
theorem q_541 : (Jvm.Cond.instanceMethod ({ cls := "BoilerDesk", name := "detectFailures", desc := "()V" } : Jvm.MethodName)) ∈ lw_st := st_in (List.mem_append_right _ (List.mem_append_right _ (List.mem_append_right _ (List.mem_append_left _ (List.mem_of_getElem? (i := 29) rfl))))) rfl
set_option maxRecDepth 20000 in
theorem q_542 : (Jvm.Cond.code ({ cls := "BoilerDesk", name := "detectFailures", desc := "()V" } : Jvm.MethodName) prog_1_method_20_code (2 : Nat) (Option.none : Option Jvm.ClassFile.FieldType)) ∈ lw_st := st_in (List.mem_append_right _ (List.mem_append_right _ (List.mem_append_right _ (List.mem_append_left _ (List.mem_of_getElem? (i := 30) rfl))))) rfl
set_option maxRecDepth 20000 in
theorem q_543 : (Jvm.Cond.methodLink "BoilerDesk" (303 : Nat) ({ cls := "BoilerDesk$Span", name := "holds", desc := "(I)Z" } : Jvm.MethodName)) ∈ lw_st := st_in (List.mem_append_right _ (List.mem_append_right _ (List.mem_append_right _ (List.mem_append_left _ (List.mem_of_getElem? (i := 31) rfl))))) rfl
set_option maxRecDepth 20000 in
theorem q_544 : (Jvm.Cond.instanceMethod ({ cls := "BoilerDesk$Span", name := "holds", desc := "(I)Z" } : Jvm.MethodName)) ∈ lw_st := st_in (List.mem_append_right _ (List.mem_append_right _ (List.mem_append_right _ (List.mem_append_left _ (List.mem_of_getElem? (i := 32) rfl))))) rfl
set_option maxRecDepth 20000 in
theorem q_545 : (Jvm.Cond.selects "BoilerDesk$Span" ({ cls := "BoilerDesk$Span", name := "holds", desc := "(I)Z" } : Jvm.MethodName) ({ cls := "BoilerDesk$Span", name := "holds", desc := "(I)Z" } : Jvm.MethodName)) ∈ lw_st := st_in (List.mem_append_right _ (List.mem_append_right _ (List.mem_append_right _ (List.mem_append_left _ (List.mem_of_getElem? (i := 33) rfl))))) rfl
set_option maxRecDepth 20000 in
theorem q_546 : (Jvm.Cond.code ({ cls := "BoilerDesk$Span", name := "holds", desc := "(I)Z" } : Jvm.MethodName) prog_6_method_3_code (2 : Nat) (Option.some Jvm.ClassFile.FieldType.boolean)) ∈ lw_st := st_in (List.mem_append_right _ (List.mem_append_right _ (List.mem_append_right _ (List.mem_append_left _ (List.mem_of_getElem? (i := 34) rfl))))) rfl
set_option maxRecDepth 20000 in
theorem q_547 : (Jvm.Cond.methodLinkNest "BoilerDesk$Span" (16 : Nat) ({ cls := "BoilerDesk", name := "isWithin", desc := "(III)Z" } : Jvm.MethodName) "BoilerDesk") ∈ lw_st := st_in (List.mem_append_right _ (List.mem_append_right _ (List.mem_append_right _ (List.mem_append_left _ (List.mem_of_getElem? (i := 35) rfl))))) rfl
set_option maxRecDepth 20000 in
theorem q_548 : (Jvm.Cond.methodLink "BoilerDesk" (306 : Nat) ({ cls := "BoilerDesk", name := "detect", desc := "(I)V" } : Jvm.MethodName)) ∈ lw_st := st_in (List.mem_append_right _ (List.mem_append_right _ (List.mem_append_right _ (List.mem_append_left _ (List.mem_of_getElem? (i := 36) rfl))))) rfl
set_option maxRecDepth 20000 in
theorem q_550 : (Jvm.Cond.instanceMethod ({ cls := "BoilerDesk", name := "detect", desc := "(I)V" } : Jvm.MethodName)) ∈ lw_st := st_in (List.mem_append_right _ (List.mem_append_right _ (List.mem_append_right _ (List.mem_append_left _ (List.mem_of_getElem? (i := 38) rfl))))) rfl
set_option maxRecDepth 20000 in
theorem q_551 : (Jvm.Cond.code ({ cls := "BoilerDesk", name := "detect", desc := "(I)V" } : Jvm.MethodName) prog_1_method_22_code (2 : Nat) (Option.none : Option Jvm.ClassFile.FieldType)) ∈ lw_st := st_in (List.mem_append_right _ (List.mem_append_right _ (List.mem_append_right _ (List.mem_append_left _ (List.mem_of_getElem? (i := 39) rfl))))) rfl
set_option maxRecDepth 20000 in
theorem q_552 : (Jvm.Cond.methodLink "BoilerDesk" (315 : Nat) ({ cls := "BoilerDesk$Units", name := "fail", desc := "(I)V" } : Jvm.MethodName)) ∈ lw_st := st_in (List.mem_append_right _ (List.mem_append_right _ (List.mem_append_right _ (List.mem_append_left _ (List.mem_of_getElem? (i := 40) rfl))))) rfl
set_option maxRecDepth 20000 in
theorem q_553 : (Jvm.Cond.instanceMethod ({ cls := "BoilerDesk$Units", name := "fail", desc := "(I)V" } : Jvm.MethodName)) ∈ lw_st := st_in (List.mem_append_right _ (List.mem_append_right _ (List.mem_append_right _ (List.mem_append_left _ (List.mem_of_getElem? (i := 41) rfl))))) rfl
set_option maxRecDepth 20000 in
theorem q_554 : (Jvm.Cond.selects "BoilerDesk$Units" ({ cls := "BoilerDesk$Units", name := "fail", desc := "(I)V" } : Jvm.MethodName) ({ cls := "BoilerDesk$Units", name := "fail", desc := "(I)V" } : Jvm.MethodName)) ∈ lw_st := st_in (List.mem_append_right _ (List.mem_append_right _ (List.mem_append_right _ (List.mem_append_left _ (List.mem_of_getElem? (i := 42) rfl))))) rfl
set_option maxRecDepth 20000 in
theorem q_555 : (Jvm.Cond.code ({ cls := "BoilerDesk$Units", name := "fail", desc := "(I)V" } : Jvm.MethodName) prog_7_method_4_code (2 : Nat) (Option.none : Option Jvm.ClassFile.FieldType)) ∈ lw_st := st_in (List.mem_append_right _ (List.mem_append_right _ (List.mem_append_right _ (List.mem_append_left _ (List.mem_of_getElem? (i := 43) rfl))))) rfl
set_option maxRecDepth 20000 in
theorem q_556 : (Jvm.Cond.methodLink "BoilerDesk" (309 : Nat) ({ cls := "BoilerDesk", name := "isToldWrongly", desc := "(I)Z" } : Jvm.MethodName)) ∈ lw_st := st_in (List.mem_append_right _ (List.mem_append_right _ (List.mem_append_right _ (List.mem_append_left _ (List.mem_of_getElem? (i := 44) rfl))))) rfl
set_option maxRecDepth 20000 in
theorem q_558 : (Jvm.Cond.instanceMethod ({ cls := "BoilerDesk", name := "isToldWrongly", desc := "(I)Z" } : Jvm.MethodName)) ∈ lw_st := st_in (List.mem_append_right _ (List.mem_append_right _ (List.mem_append_right _ (List.mem_append_left _ (List.mem_of_getElem? (i := 46) rfl))))) rfl
set_option maxRecDepth 20000 in
theorem q_559 : (Jvm.Cond.code ({ cls := "BoilerDesk", name := "isToldWrongly", desc := "(I)Z" } : Jvm.MethodName) prog_1_method_21_code (2 : Nat) (Option.some Jvm.ClassFile.FieldType.boolean)) ∈ lw_st := st_in (List.mem_append_right _ (List.mem_append_right _ (List.mem_append_right _ (List.mem_append_left _ (List.mem_of_getElem? (i := 47) rfl))))) rfl
set_option maxRecDepth 20000 in
theorem q_560 : (Jvm.Cond.methodLink "BoilerDesk" (239 : Nat) ({ cls := "BoilerDesk", name := "estimate", desc := "()V" } : Jvm.MethodName)) ∈ lw_st := st_in (List.mem_append_right _ (List.mem_append_right _ (List.mem_append_right _ (List.mem_append_left _ (List.mem_of_getElem? (i := 48) rfl))))) rfl
set_option maxRecDepth 20000 in
theorem q_562 : (Jvm.Cond.instanceMethod ({ cls := "BoilerDesk", name := "estimate", desc := "()V" } : Jvm.MethodName)) ∈ lw_st := st_in (List.mem_append_right _ (List.mem_append_right _ (List.mem_append_right _ (List.mem_append_left _ (List.mem_of_getElem? (i := 50) rfl))))) rfl
set_option maxRecDepth 20000 in
theorem q_563 : (Jvm.Cond.code ({ cls := "BoilerDesk", name := "estimate", desc := "()V" } : Jvm.MethodName) prog_1_method_23_code (1 : Nat) (Option.none : Option Jvm.ClassFile.FieldType)) ∈ lw_st := st_in (List.mem_append_right _ (List.mem_append_right _ (List.mem_append_right _ (List.mem_append_left _ (List.mem_of_getElem? (i := 51) rfl))))) rfl
set_option maxRecDepth 20000 in
theorem q_564 : (Jvm.Cond.methodLink "BoilerDesk" (242 : Nat) ({ cls := "BoilerDesk", name := "modeBehindInitial", desc := "()I" } : Jvm.MethodName)) ∈ lw_st := st_in (List.mem_append_right _ (List.mem_append_right _ (List.mem_append_right _ (List.mem_append_left _ (List.mem_of_getElem? (i := 52) rfl))))) rfl
set_option maxRecDepth 20000 in
theorem q_566 : (Jvm.Cond.instanceMethod ({ cls := "BoilerDesk", name := "modeBehindInitial", desc := "()I" } : Jvm.MethodName)) ∈ lw_st := st_in (List.mem_append_right _ (List.mem_append_right _ (List.mem_append_right _ (List.mem_append_left _ (List.mem_of_getElem? (i := 54) rfl))))) rfl
set_option maxRecDepth 20000 in
theorem q_567 : (Jvm.Cond.code ({ cls := "BoilerDesk", name := "modeBehindInitial", desc := "()I" } : Jvm.MethodName) prog_1_method_24_code (1 : Nat) (Option.some Jvm.ClassFile.FieldType.int)) ∈ lw_st := st_in (List.mem_append_right _ (List.mem_append_right _ (List.mem_append_right _ (List.mem_append_left _ (List.mem_of_getElem? (i := 55) rfl))))) rfl
set_option maxRecDepth 20000 in
theorem q_568 : (Jvm.Cond.methodLink "BoilerDesk" (318 : Nat) ({ cls := "BoilerDesk$Plant", name := "isNormalLevel", desc := "(I)Z" } : Jvm.MethodName)) ∈ lw_st := st_in (List.mem_append_right _ (List.mem_append_right _ (List.mem_append_right _ (List.mem_append_left _ (List.mem_of_getElem? (i := 56) rfl))))) rfl
set_option maxRecDepth 20000 in
theorem q_569 : (Jvm.Cond.instanceMethod ({ cls := "BoilerDesk$Plant", name := "isNormalLevel", desc := "(I)Z" } : Jvm.MethodName)) ∈ lw_st := st_in (List.mem_append_right _ (List.mem_append_right _ (List.mem_append_right _ (List.mem_append_left _ (List.mem_of_getElem? (i := 57) rfl))))) rfl
set_option maxRecDepth 20000 in
theorem q_570 : (Jvm.Cond.selects "BoilerDesk$Plant" ({ cls := "BoilerDesk$Plant", name := "isNormalLevel", desc := "(I)Z" } : Jvm.MethodName) ({ cls := "BoilerDesk$Plant", name := "isNormalLevel", desc := "(I)Z" } : Jvm.MethodName)) ∈ lw_st := st_in (List.mem_append_right _ (List.mem_append_right _ (List.mem_append_right _ (List.mem_append_left _ (List.mem_of_getElem? (i := 58) rfl))))) rfl
set_option maxRecDepth 20000 in
theorem q_571 : (Jvm.Cond.code ({ cls := "BoilerDesk$Plant", name := "isNormalLevel", desc := "(I)Z" } : Jvm.MethodName) prog_4_method_4_code (2 : Nat) (Option.some Jvm.ClassFile.FieldType.boolean)) ∈ lw_st := st_in (List.mem_append_right _ (List.mem_append_right _ (List.mem_append_right _ (List.mem_append_left _ (List.mem_of_getElem? (i := 59) rfl))))) rfl
set_option maxRecDepth 20000 in
theorem q_572 : (Jvm.Cond.methodLinkNest "BoilerDesk$Plant" (37 : Nat) ({ cls := "BoilerDesk", name := "isWithin", desc := "(III)Z" } : Jvm.MethodName) "BoilerDesk") ∈ lw_st := st_in (List.mem_append_right _ (List.mem_append_right _ (List.mem_append_right _ (List.mem_append_left _ (List.mem_of_getElem? (i := 60) rfl))))) rfl
set_option maxRecDepth 20000 in
theorem q_573 : (Jvm.Cond.methodLink "BoilerDesk" (321 : Nat) ({ cls := "BoilerDesk", name := "modeByAnyFailure", desc := "()I" } : Jvm.MethodName)) ∈ lw_st := st_in (List.mem_append_right _ (List.mem_append_right _ (List.mem_append_right _ (List.mem_append_left _ (List.mem_of_getElem? (i := 61) rfl))))) rfl
set_option maxRecDepth 20000 in
theorem q_575 : (Jvm.Cond.instanceMethod ({ cls := "BoilerDesk", name := "modeByAnyFailure", desc := "()I" } : Jvm.MethodName)) ∈ lw_st := st_in (List.mem_append_right _ (List.mem_append_right _ (List.mem_append_right _ (List.mem_append_left _ (List.mem_of_getElem? (i := 63) rfl))))) rfl
set_option maxRecDepth 20000 in
theorem q_576 : (Jvm.Cond.code ({ cls := "BoilerDesk", name := "modeByAnyFailure", desc := "()I" } : Jvm.MethodName) prog_1_method_26_code (1 : Nat) (Option.some Jvm.ClassFile.FieldType.int)) ∈ lw_st := st_in (List.mem_append_right _ (List.mem_append_right _ (List.mem_append_right _ (List.mem_append_left _ (List.mem_of_getElem? (i := 64) rfl))))) rfl
set_option maxRecDepth 20000 in
theorem q_577 : (Jvm.Cond.methodLink "BoilerDesk" (246 : Nat) ({ cls := "BoilerDesk", name := "modeInOperation", desc := "()I" } : Jvm.MethodName)) ∈ lw_st := st_in (List.mem_append_right _ (List.mem_append_right _ (List.mem_append_right _ (List.mem_append_left _ (List.mem_of_getElem? (i := 65) rfl))))) rfl
set_option maxRecDepth 20000 in
theorem q_579 : (Jvm.Cond.instanceMethod ({ cls := "BoilerDesk", name := "modeInOperation", desc := "()I" } : Jvm.MethodName)) ∈ lw_st := st_in (List.mem_append_right _ (List.mem_append_right _ (List.mem_append_right _ (List.mem_append_left _ (List.mem_of_getElem? (i := 67) rfl))))) rfl
set_option maxRecDepth 20000 in
theorem q_580 : (Jvm.Cond.code ({ cls := "BoilerDesk", name := "modeInOperation", desc := "()I" } : Jvm.MethodName) prog_1_method_25_code (2 : Nat) (Option.some Jvm.ClassFile.FieldType.int)) ∈ lw_st := st_in (List.mem_append_right _ (List.mem_append_right _ (List.mem_append_right _ (List.mem_append_left _ (List.mem_of_getElem? (i := 68) rfl))))) rfl
set_option maxRecDepth 20000 in
theorem q_581 : (Jvm.Cond.methodLink "BoilerDesk" (249 : Nat) ({ cls := "BoilerDesk$Machines", name := "remember", desc := "(I)V" } : Jvm.MethodName)) ∈ lw_st := st_in (List.mem_append_right _ (List.mem_append_right _ (List.mem_append_right _ (List.mem_append_left _ (List.mem_of_getElem? (i := 69) rfl))))) rfl
set_option maxRecDepth 20000 in
theorem q_582 : (Jvm.Cond.instanceMethod ({ cls := "BoilerDesk$Machines", name := "remember", desc := "(I)V" } : Jvm.MethodName)) ∈ lw_st := st_in (List.mem_append_right _ (List.mem_append_right _ (List.mem_append_right _ (List.mem_append_left _ (List.mem_of_getElem? (i := 70) rfl))))) rfl
set_option maxRecDepth 20000 in
theorem q_583 : (Jvm.Cond.selects "BoilerDesk$Machines" ({ cls := "BoilerDesk$Machines", name := "remember", desc := "(I)V" } : Jvm.MethodName) ({ cls := "BoilerDesk$Machines", name := "remember", desc := "(I)V" } : Jvm.MethodName)) ∈ lw_st := st_in (List.mem_append_right _ (List.mem_append_right _ (List.mem_append_right _ (List.mem_append_left _ (List.mem_of_getElem? (i := 71) rfl))))) rfl
set_option maxRecDepth 20000 in
theorem q_584 : (Jvm.Cond.code ({ cls := "BoilerDesk$Machines", name := "remember", desc := "(I)V" } : Jvm.MethodName) prog_3_method_2_code (2 : Nat) (Option.none : Option Jvm.ClassFile.FieldType)) ∈ lw_st := st_in (List.mem_append_right _ (List.mem_append_right _ (List.mem_append_right _ (List.mem_append_left _ (List.mem_of_getElem? (i := 72) rfl))))) rfl
set_option maxRecDepth 20000 in
theorem q_585 : (Jvm.Cond.methodLink "BoilerDesk" (252 : Nat) ({ cls := "BoilerDesk", name := "giveCommands", desc := "()V" } : Jvm.MethodName)) ∈ lw_st := st_in (List.mem_append_right _ (List.mem_append_right _ (List.mem_append_right _ (List.mem_append_left _ (List.mem_of_getElem? (i := 73) rfl))))) rfl
set_option maxRecDepth 20000 in
theorem q_587 : (Jvm.Cond.instanceMethod ({ cls := "BoilerDesk", name := "giveCommands", desc := "()V" } : Jvm.MethodName)) ∈ lw_st := st_in (List.mem_append_right _ (List.mem_append_right _ (List.mem_append_right _ (List.mem_append_left _ (List.mem_of_getElem? (i := 75) rfl))))) rfl
set_option maxRecDepth 20000 in
theorem q_588 : (Jvm.Cond.code ({ cls := "BoilerDesk", name := "giveCommands", desc := "()V" } : Jvm.MethodName) prog_1_method_27_code (1 : Nat) (Option.none : Option Jvm.ClassFile.FieldType)) ∈ lw_st := st_in (List.mem_append_right _ (List.mem_append_right _ (List.mem_append_right _ (List.mem_append_left _ (List.mem_of_getElem? (i := 76) rfl))))) rfl
set_option maxRecDepth 20000 in
theorem q_589 : (Jvm.Cond.methodLink "BoilerDesk" (330 : Nat) ({ cls := "BoilerDesk", name := "commandInOperation", desc := "()V" } : Jvm.MethodName)) ∈ lw_st := st_in (List.mem_append_right _ (List.mem_append_right _ (List.mem_append_right _ (List.mem_append_left _ (List.mem_of_getElem? (i := 77) rfl))))) rfl
set_option maxRecDepth 20000 in
theorem q_591 : (Jvm.Cond.instanceMethod ({ cls := "BoilerDesk", name := "commandInOperation", desc := "()V" } : Jvm.MethodName)) ∈ lw_st := st_in (List.mem_append_right _ (List.mem_append_right _ (List.mem_append_right _ (List.mem_append_left _ (List.mem_of_getElem? (i := 79) rfl))))) rfl
set_option maxRecDepth 20000 in
theorem q_592 : (Jvm.Cond.code ({ cls := "BoilerDesk", name := "commandInOperation", desc := "()V" } : Jvm.MethodName) prog_1_method_29_code (3 : Nat) (Option.none : Option Jvm.ClassFile.FieldType)) ∈ lw_st := st_in (List.mem_append_right _ (List.mem_append_right _ (List.mem_append_right _ (List.mem_append_left _ (List.mem_of_getElem? (i := 80) rfl))))) rfl
set_option maxRecDepth 20000 in
theorem q_593 : (Jvm.Cond.methodLink "BoilerDesk" (339 : Nat) ({ cls := "BoilerDesk", name := "commandValve", desc := "(Z)V" } : Jvm.MethodName)) ∈ lw_st := st_in (List.mem_append_right _ (List.mem_append_right _ (List.mem_append_right _ (List.mem_append_left _ (List.mem_of_getElem? (i := 81) rfl))))) rfl
set_option maxRecDepth 20000 in
theorem q_595 : (Jvm.Cond.instanceMethod ({ cls := "BoilerDesk", name := "commandValve", desc := "(Z)V" } : Jvm.MethodName)) ∈ lw_st := st_in (List.mem_append_right _ (List.mem_append_right _ (List.mem_append_right _ (List.mem_append_left _ (List.mem_of_getElem? (i := 83) rfl))))) rfl
set_option maxRecDepth 20000 in
theorem q_596 : (Jvm.Cond.code ({ cls := "BoilerDesk", name := "commandValve", desc := "(Z)V" } : Jvm.MethodName) prog_1_method_32_code (2 : Nat) (Option.none : Option Jvm.ClassFile.FieldType)) ∈ lw_st := st_in (List.mem_append_right _ (List.mem_append_right _ (List.mem_append_right _ (List.mem_append_left _ (List.mem_of_getElem? (i := 84) rfl))))) rfl
set_option maxRecDepth 20000 in
theorem q_597 : (Jvm.Cond.methodLink "BoilerDesk" (346 : Nat) ({ cls := "BoilerDesk", name := "turnOnGoodPumps", desc := "()V" } : Jvm.MethodName)) ∈ lw_st := st_in (List.mem_append_right _ (List.mem_append_right _ (List.mem_append_right _ (List.mem_append_left _ (List.mem_of_getElem? (i := 85) rfl))))) rfl
set_option maxRecDepth 20000 in
theorem q_599 : (Jvm.Cond.instanceMethod ({ cls := "BoilerDesk", name := "turnOnGoodPumps", desc := "()V" } : Jvm.MethodName)) ∈ lw_st := st_in (List.mem_append_right _ (List.mem_append_right _ (List.mem_append_right _ (List.mem_append_left _ (List.mem_of_getElem? (i := 87) rfl))))) rfl
set_option maxRecDepth 20000 in
theorem q_600 : (Jvm.Cond.code ({ cls := "BoilerDesk", name := "turnOnGoodPumps", desc := "()V" } : Jvm.MethodName) prog_1_method_30_code (2 : Nat) (Option.none : Option Jvm.ClassFile.FieldType)) ∈ lw_st := st_in (List.mem_append_right _ (List.mem_append_right _ (List.mem_append_right _ (List.mem_append_left _ (List.mem_of_getElem? (i := 88) rfl))))) rfl
set_option maxRecDepth 20000 in
theorem q_601 : (Jvm.Cond.methodLink "BoilerDesk" (349 : Nat) ({ cls := "BoilerDesk", name := "commandPumps", desc := "(I)V" } : Jvm.MethodName)) ∈ lw_st := st_in (List.mem_append_right _ (List.mem_append_right _ (List.mem_append_right _ (List.mem_append_left _ (List.mem_of_getElem? (i := 89) rfl))))) rfl
set_option maxRecDepth 20000 in
theorem q_603 : (Jvm.Cond.instanceMethod ({ cls := "BoilerDesk", name := "commandPumps", desc := "(I)V" } : Jvm.MethodName)) ∈ lw_st := st_in (List.mem_append_right _ (List.mem_append_right _ (List.mem_append_right _ (List.mem_append_left _ (List.mem_of_getElem? (i := 91) rfl))))) rfl
set_option maxRecDepth 20000 in
theorem q_604 : (Jvm.Cond.code ({ cls := "BoilerDesk", name := "commandPumps", desc := "(I)V" } : Jvm.MethodName) prog_1_method_31_code (2 : Nat) (Option.none : Option Jvm.ClassFile.FieldType)) ∈ lw_st := st_in (List.mem_append_right _ (List.mem_append_right _ (List.mem_append_right _ (List.mem_append_left _ (List.mem_of_getElem? (i := 92) rfl))))) rfl
set_option maxRecDepth 20000 in
theorem q_605 : (Jvm.Cond.methodLink "BoilerDesk" (333 : Nat) ({ cls := "BoilerDesk", name := "commandInInitial", desc := "()V" } : Jvm.MethodName)) ∈ lw_st := st_in (List.mem_append_right _ (List.mem_append_right _ (List.mem_append_right _ (List.mem_append_left _ (List.mem_of_getElem? (i := 93) rfl))))) rfl
set_option maxRecDepth 20000 in
theorem q_607 : (Jvm.Cond.instanceMethod ({ cls := "BoilerDesk", name := "commandInInitial", desc := "()V" } : Jvm.MethodName)) ∈ lw_st := st_in (List.mem_append_right _ (List.mem_append_right _ (List.mem_append_right _ (List.mem_append_left _ (List.mem_of_getElem? (i := 95) rfl))))) rfl
set_option maxRecDepth 20000 in
theorem q_608 : (Jvm.Cond.code ({ cls := "BoilerDesk", name := "commandInInitial", desc := "()V" } : Jvm.MethodName) prog_1_method_28_code (1 : Nat) (Option.none : Option Jvm.ClassFile.FieldType)) ∈ lw_st := st_in (List.mem_append_right _ (List.mem_append_right _ (List.mem_append_right _ (List.mem_append_left _ (List.mem_of_getElem? (i := 96) rfl))))) rfl
set_option maxRecDepth 20000 in
theorem q_609 : (Jvm.Cond.methodLink "BoilerDeskLaw" (77 : Nat) ({ cls := "BoilerDeskLaw", name := "told", desc := "(LBoilerDesk;I[J)I" } : Jvm.MethodName)) ∈ lw_st := st_in (List.mem_append_right _ (List.mem_append_right _ (List.mem_append_right _ (List.mem_append_left _ (List.mem_of_getElem? (i := 97) rfl))))) rfl
set_option maxRecDepth 20000 in
theorem q_610 : (Jvm.Cond.static ({ cls := "BoilerDeskLaw", name := "told", desc := "(LBoilerDesk;I[J)I" } : Jvm.MethodName)) ∈ lw_st := st_in (List.mem_append_right _ (List.mem_append_right _ (List.mem_append_right _ (List.mem_append_left _ (List.mem_of_getElem? (i := 98) rfl))))) rfl
set_option maxRecDepth 20000 in
theorem q_611 : (Jvm.Cond.codeWith ({ cls := "BoilerDeskLaw", name := "told", desc := "(LBoilerDesk;I[J)I" } : Jvm.MethodName) method_8_code (4 : Nat) (Option.some Jvm.ClassFile.FieldType.int) [((0 : Nat), (9 : Nat), (12 : Nat), (13 : Nat))]) ∈ lw_st := st_in (List.mem_append_right _ (List.mem_append_right _ (List.mem_append_right _ (List.mem_append_left _ (List.mem_of_getElem? (i := 99) rfl))))) rfl
set_option maxRecDepth 20000 in
theorem q_612 : (Jvm.Cond.methodLink "BoilerDeskLaw" (33 : Nat) ({ cls := "BoilerDesk", name := "told", desc := "(I)I" } : Jvm.MethodName)) ∈ lw_st := st_in (List.mem_append_right _ (List.mem_append_right _ (List.mem_append_right _ (List.mem_append_left _ (List.mem_of_getElem? (i := 100) rfl))))) rfl
set_option maxRecDepth 20000 in
theorem q_613 : (Jvm.Cond.instanceMethod ({ cls := "BoilerDesk", name := "told", desc := "(I)I" } : Jvm.MethodName)) ∈ lw_st := st_in (List.mem_append_right _ (List.mem_append_right _ (List.mem_append_right _ (List.mem_append_left _ (List.mem_of_getElem? (i := 101) rfl))))) rfl
set_option maxRecDepth 20000 in
theorem q_614 : (Jvm.Cond.selects "BoilerDesk" ({ cls := "BoilerDesk", name := "told", desc := "(I)I" } : Jvm.MethodName) ({ cls := "BoilerDesk", name := "told", desc := "(I)I" } : Jvm.MethodName)) ∈ lw_st := st_in (List.mem_append_right _ (List.mem_append_right _ (List.mem_append_right _ (List.mem_append_left _ (List.mem_of_getElem? (i := 102) rfl))))) rfl
set_option maxRecDepth 20000 in
theorem q_615 : (Jvm.Cond.code ({ cls := "BoilerDesk", name := "told", desc := "(I)I" } : Jvm.MethodName) prog_1_method_9_code (2 : Nat) (Option.some Jvm.ClassFile.FieldType.int)) ∈ lw_st := st_in (List.mem_append_right _ (List.mem_append_right _ (List.mem_append_right _ (List.mem_append_left _ (List.mem_of_getElem? (i := 103) rfl))))) rfl
set_option maxRecDepth 20000 in
theorem q_617 : (Jvm.Cond.methodLink "BoilerDeskLaw" (81 : Nat) ({ cls := "BoilerDeskLaw", name := "state", desc := "(LBoilerDesk;I[J)I" } : Jvm.MethodName)) ∈ lw_st := st_in (List.mem_append_right _ (List.mem_append_right _ (List.mem_append_right _ (List.mem_append_left _ (List.mem_of_getElem? (i := 105) rfl))))) rfl
set_option maxRecDepth 20000 in
theorem q_618 : (Jvm.Cond.static ({ cls := "BoilerDeskLaw", name := "state", desc := "(LBoilerDesk;I[J)I" } : Jvm.MethodName)) ∈ lw_st := st_in (List.mem_append_right _ (List.mem_append_right _ (List.mem_append_right _ (List.mem_append_left _ (List.mem_of_getElem? (i := 106) rfl))))) rfl
set_option maxRecDepth 20000 in
theorem q_619 : (Jvm.Cond.codeWith ({ cls := "BoilerDeskLaw", name := "state", desc := "(LBoilerDesk;I[J)I" } : Jvm.MethodName) method_9_code (4 : Nat) (Option.some Jvm.ClassFile.FieldType.int) [((0 : Nat), (9 : Nat), (12 : Nat), (13 : Nat))]) ∈ lw_st := st_in (List.mem_append_right _ (List.mem_append_right _ (List.mem_append_right _ (List.mem_append_left _ (List.mem_of_getElem? (i := 107) rfl))))) rfl
set_option maxRecDepth 20000 in
theorem q_620 : (Jvm.Cond.methodLink "BoilerDeskLaw" (37 : Nat) ({ cls := "BoilerDesk", name := "state", desc := "(I)I" } : Jvm.MethodName)) ∈ lw_st := st_in (List.mem_append_right _ (List.mem_append_right _ (List.mem_append_right _ (List.mem_append_left _ (List.mem_of_getElem? (i := 108) rfl))))) rfl
set_option maxRecDepth 20000 in
theorem q_621 : (Jvm.Cond.instanceMethod ({ cls := "BoilerDesk", name := "state", desc := "(I)I" } : Jvm.MethodName)) ∈ lw_st := st_in (List.mem_append_right _ (List.mem_append_right _ (List.mem_append_right _ (List.mem_append_left _ (List.mem_of_getElem? (i := 109) rfl))))) rfl
set_option maxRecDepth 20000 in
theorem q_622 : (Jvm.Cond.selects "BoilerDesk" ({ cls := "BoilerDesk", name := "state", desc := "(I)I" } : Jvm.MethodName) ({ cls := "BoilerDesk", name := "state", desc := "(I)I" } : Jvm.MethodName)) ∈ lw_st := st_in (List.mem_append_right _ (List.mem_append_right _ (List.mem_append_right _ (List.mem_append_left _ (List.mem_of_getElem? (i := 110) rfl))))) rfl
set_option maxRecDepth 20000 in
theorem q_623 : (Jvm.Cond.code ({ cls := "BoilerDesk", name := "state", desc := "(I)I" } : Jvm.MethodName) prog_1_method_10_code (2 : Nat) (Option.some Jvm.ClassFile.FieldType.int)) ∈ lw_st := st_in (List.mem_append_right _ (List.mem_append_right _ (List.mem_append_right _ (List.mem_append_left _ (List.mem_of_getElem? (i := 111) rfl))))) rfl
set_option maxRecDepth 20000 in
theorem q_625 : (Jvm.Cond.classLink "BoilerDeskLaw" (41 : Nat) "BoilerDeskModel") ∈ lw_st := st_in (List.mem_append_right _ (List.mem_append_right _ (List.mem_append_right _ (List.mem_append_left _ (List.mem_of_getElem? (i := 113) rfl))))) rfl
set_option maxRecDepth 20000 in
theorem q_626 : (Jvm.Cond.instantiable "BoilerDeskModel" (43 : Nat)) ∈ lw_st := st_in (List.mem_append_right _ (List.mem_append_right _ (List.mem_append_right _ (List.mem_append_left _ (List.mem_of_getElem? (i := 114) rfl))))) rfl
set_option maxRecDepth 20000 in
theorem q_627 : (Jvm.Cond.methodLink "BoilerDeskLaw" (43 : Nat) ({ cls := "BoilerDeskModel", name := "<init>", desc := "()V" } : Jvm.MethodName)) ∈ lw_st := st_in (List.mem_append_right _ (List.mem_append_right _ (List.mem_append_right _ (List.mem_append_left _ (List.mem_of_getElem? (i := 115) rfl))))) rfl
set_option maxRecDepth 20000 in
theorem q_628 : (Jvm.Cond.instanceMethod ({ cls := "BoilerDeskModel", name := "<init>", desc := "()V" } : Jvm.MethodName)) ∈ lw_st := st_in (List.mem_append_right _ (List.mem_append_right _ (List.mem_append_right _ (List.mem_append_left _ (List.mem_of_getElem? (i := 116) rfl))))) rfl
set_option maxRecDepth 20000 in
theorem q_629 : (Jvm.Cond.code ({ cls := "BoilerDeskModel", name := "<init>", desc := "()V" } : Jvm.MethodName) prog_9_method_1_code (1 : Nat) (Option.none : Option Jvm.ClassFile.FieldType)) ∈ lw_st := st_in (List.mem_append_right _ (List.mem_append_right _ (List.mem_append_right _ (List.mem_append_left _ (List.mem_of_getElem? (i := 117) rfl))))) rfl
set_option maxRecDepth 20000 in
theorem q_630 : (Jvm.Cond.methodLink "BoilerDeskModel" (1 : Nat) ({ cls := "java/lang/Object", name := "<init>", desc := "()V" } : Jvm.MethodName)) ∈ lw_st := st_in (List.mem_append_right _ (List.mem_append_right _ (List.mem_append_right _ (List.mem_append_left _ (List.mem_of_getElem? (i := 118) rfl))))) rfl
set_option maxRecDepth 20000 in
theorem q_631 : (Jvm.Cond.methodLink "BoilerDeskModel" (46 : Nat) ({ cls := "BoilerDeskModel", name := "anew", desc := "(IIIIIIIII)V" } : Jvm.MethodName)) ∈ lw_st := st_in (List.mem_append_right _ (List.mem_append_right _ (List.mem_append_right _ (List.mem_append_left _ (List.mem_of_getElem? (i := 119) rfl))))) rfl
set_option maxRecDepth 20000 in
theorem q_633 : (Jvm.Cond.instanceMethod ({ cls := "BoilerDeskModel", name := "anew", desc := "(IIIIIIIII)V" } : Jvm.MethodName)) ∈ lw_st := st_in (List.mem_append_right _ (List.mem_append_right _ (List.mem_append_right _ (List.mem_append_left _ (List.mem_of_getElem? (i := 121) rfl))))) rfl
set_option maxRecDepth 20000 in
theorem q_634 : (Jvm.Cond.code ({ cls := "BoilerDeskModel", name := "anew", desc := "(IIIIIIIII)V" } : Jvm.MethodName) prog_9_method_5_code (11 : Nat) (Option.none : Option Jvm.ClassFile.FieldType)) ∈ lw_st := st_in (List.mem_append_right _ (List.mem_append_right _ (List.mem_append_right _ (List.mem_append_left _ (List.mem_of_getElem? (i := 122) rfl))))) rfl
set_option maxRecDepth 20000 in
theorem q_635 : (Jvm.Cond.methodLink "BoilerDeskModel" (109 : Nat) ({ cls := "BoilerDeskModel", name := "forget", desc := "()V" } : Jvm.MethodName)) ∈ lw_st := st_in (List.mem_append_right _ (List.mem_append_right _ (List.mem_append_right _ (List.mem_append_left _ (List.mem_of_getElem? (i := 123) rfl))))) rfl
set_option maxRecDepth 20000 in
theorem q_637 : (Jvm.Cond.instanceMethod ({ cls := "BoilerDeskModel", name := "forget", desc := "()V" } : Jvm.MethodName)) ∈ lw_st := st_in (List.mem_append_right _ (List.mem_append_right _ (List.mem_append_right _ (List.mem_append_left _ (List.mem_of_getElem? (i := 125) rfl))))) rfl
set_option maxRecDepth 20000 in
theorem q_638 : (Jvm.Cond.code ({ cls := "BoilerDeskModel", name := "forget", desc := "()V" } : Jvm.MethodName) prog_9_method_6_code (2 : Nat) (Option.none : Option Jvm.ClassFile.FieldType)) ∈ lw_st := st_in (List.mem_append_right _ (List.mem_append_right _ (List.mem_append_right _ (List.mem_append_left _ (List.mem_of_getElem? (i := 126) rfl))))) rfl
set_option maxRecDepth 20000 in
theorem q_639 : (Jvm.Cond.methodLink "BoilerDeskModel" (112 : Nat) ({ cls := "BoilerDeskModel", name := "quiet", desc := "()V" } : Jvm.MethodName)) ∈ lw_st := st_in (List.mem_append_right _ (List.mem_append_right _ (List.mem_append_right _ (List.mem_append_left _ (List.mem_of_getElem? (i := 127) rfl))))) rfl
set_option maxRecDepth 20000 in
theorem q_641 : (Jvm.Cond.instanceMethod ({ cls := "BoilerDeskModel", name := "quiet", desc := "()V" } : Jvm.MethodName)) ∈ lw_st := st_in (List.mem_append_right _ (List.mem_append_right _ (List.mem_append_right _ (List.mem_append_left _ (List.mem_of_getElem? (i := 129) rfl))))) rfl
set_option maxRecDepth 20000 in
theorem q_642 : (Jvm.Cond.code ({ cls := "BoilerDeskModel", name := "quiet", desc := "()V" } : Jvm.MethodName) prog_9_method_7_code (1 : Nat) (Option.none : Option Jvm.ClassFile.FieldType)) ∈ lw_st := st_in (List.mem_append_right _ (List.mem_append_right _ (List.mem_append_right _ (List.mem_append_left _ (List.mem_of_getElem? (i := 130) rfl))))) rfl
set_option maxRecDepth 20000 in
theorem q_643 : (Jvm.Cond.fieldLink "BoilerDeskModel" (50 : Nat) "BoilerDeskModel" "err" "I") ∈ lw_st := st_in (List.mem_append_right _ (List.mem_append_right _ (List.mem_append_right _ (List.mem_append_left _ (List.mem_of_getElem? (i := 131) rfl))))) rfl
set_option maxRecDepth 20000 in
theorem q_644 : (Jvm.Cond.fieldLink "BoilerDeskModel" (54 : Nat) "BoilerDeskModel" "c" "I") ∈ lw_st := st_in (List.mem_append_right _ (List.mem_append_right _ (List.mem_append_right _ (List.mem_append_left _ (List.mem_of_getElem? (i := 132) rfl))))) rfl
set_option maxRecDepth 20000 in
theorem q_645 : (Jvm.Cond.fieldLink "BoilerDeskModel" (57 : Nat) "BoilerDeskModel" "m1" "I") ∈ lw_st := st_in (List.mem_append_right _ (List.mem_append_right _ (List.mem_append_right _ (List.mem_append_left _ (List.mem_of_getElem? (i := 133) rfl))))) rfl
set_option maxRecDepth 20000 in
theorem q_646 : (Jvm.Cond.fieldLink "BoilerDeskModel" (60 : Nat) "BoilerDeskModel" "n1" "I") ∈ lw_st := st_in (List.mem_append_right _ (List.mem_append_right _ (List.mem_append_right _ (List.mem_append_left _ (List.mem_of_getElem? (i := 134) rfl))))) rfl
set_option maxRecDepth 20000 in
theorem q_647 : (Jvm.Cond.fieldLink "BoilerDeskModel" (63 : Nat) "BoilerDeskModel" "n2" "I") ∈ lw_st := st_in (List.mem_append_right _ (List.mem_append_right _ (List.mem_append_right _ (List.mem_append_left _ (List.mem_of_getElem? (i := 135) rfl))))) rfl
set_option maxRecDepth 20000 in
theorem q_648 : (Jvm.Cond.fieldLink "BoilerDeskModel" (66 : Nat) "BoilerDeskModel" "m2" "I") ∈ lw_st := st_in (List.mem_append_right _ (List.mem_append_right _ (List.mem_append_right _ (List.mem_append_left _ (List.mem_of_getElem? (i := 136) rfl))))) rfl
set_option maxRecDepth 20000 in
theorem q_649 : (Jvm.Cond.fieldLink "BoilerDeskModel" (69 : Nat) "BoilerDeskModel" "most" "I") ∈ lw_st := st_in (List.mem_append_right _ (List.mem_append_right _ (List.mem_append_right _ (List.mem_append_left _ (List.mem_of_getElem? (i := 137) rfl))))) rfl
set_option maxRecDepth 20000 in
theorem q_650 : (Jvm.Cond.fieldLink "BoilerDeskModel" (72 : Nat) "BoilerDeskModel" "up" "I") ∈ lw_st := st_in (List.mem_append_right _ (List.mem_append_right _ (List.mem_append_right _ (List.mem_append_left _ (List.mem_of_getElem? (i := 138) rfl))))) rfl
set_option maxRecDepth 20000 in
theorem q_651 : (Jvm.Cond.fieldLink "BoilerDeskModel" (75 : Nat) "BoilerDeskModel" "down" "I") ∈ lw_st := st_in (List.mem_append_right _ (List.mem_append_right _ (List.mem_append_right _ (List.mem_append_left _ (List.mem_of_getElem? (i := 139) rfl))))) rfl
set_option maxRecDepth 20000 in
theorem q_652 : (Jvm.Cond.fieldLink "BoilerDeskModel" (78 : Nat) "BoilerDeskModel" "gives" "I") ∈ lw_st := st_in (List.mem_append_right _ (List.mem_append_right _ (List.mem_append_right _ (List.mem_append_left _ (List.mem_of_getElem? (i := 140) rfl))))) rfl
set_option maxRecDepth 20000 in
theorem q_653 : (Jvm.Cond.fieldLink "BoilerDeskModel" (81 : Nat) "BoilerDeskModel" "mode" "I") ∈ lw_st := st_in (List.mem_append_right _ (List.mem_append_right _ (List.mem_append_right _ (List.mem_append_left _ (List.mem_of_getElem? (i := 141) rfl))))) rfl
set_option maxRecDepth 20000 in
theorem q_654 : (Jvm.Cond.fieldLink "BoilerDeskModel" (84 : Nat) "BoilerDeskModel" "cycles" "I") ∈ lw_st := st_in (List.mem_append_right _ (List.mem_append_right _ (List.mem_append_right _ (List.mem_append_left _ (List.mem_of_getElem? (i := 142) rfl))))) rfl
set_option maxRecDepth 20000 in
theorem q_655 : (Jvm.Cond.fieldLink "BoilerDeskModel" (87 : Nat) "BoilerDeskModel" "low" "I") ∈ lw_st := st_in (List.mem_append_right _ (List.mem_append_right _ (List.mem_append_right _ (List.mem_append_left _ (List.mem_of_getElem? (i := 143) rfl))))) rfl
set_option maxRecDepth 20000 in
theorem q_656 : (Jvm.Cond.fieldLink "BoilerDeskModel" (90 : Nat) "BoilerDeskModel" "high" "I") ∈ lw_st := st_in (List.mem_append_right _ (List.mem_append_right _ (List.mem_append_right _ (List.mem_append_left _ (List.mem_of_getElem? (i := 144) rfl))))) rfl
set_option maxRecDepth 20000 in
theorem q_657 : (Jvm.Cond.fieldLink "BoilerDeskModel" (93 : Nat) "BoilerDeskModel" "least" "I") ∈ lw_st := st_in (List.mem_append_right _ (List.mem_append_right _ (List.mem_append_right _ (List.mem_append_left _ (List.mem_of_getElem? (i := 145) rfl))))) rfl
set_option maxRecDepth 20000 in
theorem q_658 : (Jvm.Cond.fieldLink "BoilerDeskModel" (96 : Nat) "BoilerDeskModel" "greatest" "I") ∈ lw_st := st_in (List.mem_append_right _ (List.mem_append_right _ (List.mem_append_right _ (List.mem_append_left _ (List.mem_of_getElem? (i := 146) rfl))))) rfl
set_option maxRecDepth 20000 in
theorem q_659 : (Jvm.Cond.fieldLink "BoilerDeskModel" (99 : Nat) "BoilerDeskModel" "stops" "I") ∈ lw_st := st_in (List.mem_append_right _ (List.mem_append_right _ (List.mem_append_right _ (List.mem_append_left _ (List.mem_of_getElem? (i := 147) rfl))))) rfl
set_option maxRecDepth 20000 in
theorem q_660 : (Jvm.Cond.fieldLink "BoilerDeskModel" (130 : Nat) "BoilerDeskModel" "detected" "I") ∈ lw_st := st_in (List.mem_append_right _ (List.mem_append_right _ (List.mem_append_right _ (List.mem_append_left _ (List.mem_of_getElem? (i := 148) rfl))))) rfl
set_option maxRecDepth 20000 in
theorem q_661 : (Jvm.Cond.fieldLink "BoilerDeskModel" (133 : Nat) "BoilerDeskModel" "repaired" "I") ∈ lw_st := st_in (List.mem_append_right _ (List.mem_append_right _ (List.mem_append_right _ (List.mem_append_left _ (List.mem_of_getElem? (i := 149) rfl))))) rfl
set_option maxRecDepth 20000 in
theorem q_662 : (Jvm.Cond.fieldLink "BoilerDeskModel" (136 : Nat) "BoilerDeskModel" "pumpsTold" "I") ∈ lw_st := st_in (List.mem_append_right _ (List.mem_append_right _ (List.mem_append_right _ (List.mem_append_left _ (List.mem_of_getElem? (i := 150) rfl))))) rfl
set_option maxRecDepth 20000 in
theorem q_663 : (Jvm.Cond.fieldLink "BoilerDeskModel" (139 : Nat) "BoilerDeskModel" "valveTold" "I") ∈ lw_st := st_in (List.mem_append_right _ (List.mem_append_right _ (List.mem_append_right _ (List.mem_append_left _ (List.mem_of_getElem? (i := 151) rfl))))) rfl
set_option maxRecDepth 20000 in
theorem q_664 : (Jvm.Cond.fieldLink "BoilerDeskModel" (142 : Nat) "BoilerDeskModel" "readyTold" "I") ∈ lw_st := st_in (List.mem_append_right _ (List.mem_append_right _ (List.mem_append_right _ (List.mem_append_left _ (List.mem_of_getElem? (i := 152) rfl))))) rfl
set_option maxRecDepth 20000 in
theorem q_665 : (Jvm.Cond.fieldLink "BoilerDeskModel" (102 : Nat) "BoilerDeskModel" "valve" "Z") ∈ lw_st := st_in (List.mem_append_right _ (List.mem_append_right _ (List.mem_append_right _ (List.mem_append_left _ (List.mem_of_getElem? (i := 153) rfl))))) rfl
set_option maxRecDepth 20000 in
theorem q_666 : (Jvm.Cond.fieldLink "BoilerDeskModel" (106 : Nat) "BoilerDeskModel" "waited" "Z") ∈ lw_st := st_in (List.mem_append_right _ (List.mem_append_right _ (List.mem_append_right _ (List.mem_append_left _ (List.mem_of_getElem? (i := 154) rfl))))) rfl
set_option maxRecDepth 20000 in
theorem q_667 : (Jvm.Cond.fieldLink "BoilerDeskModel" (7 : Nat) "BoilerDeskModel" "failed" "[Z") ∈ lw_st := st_in (List.mem_append_right _ (List.mem_append_right _ (List.mem_append_right _ (List.mem_append_left _ (List.mem_of_getElem? (i := 155) rfl))))) rfl
set_option maxRecDepth 20000 in
theorem q_668 : (Jvm.Cond.fieldLink "BoilerDeskModel" (13 : Nat) "BoilerDeskModel" "known" "[Z") ∈ lw_st := st_in (List.mem_append_right _ (List.mem_append_right _ (List.mem_append_right _ (List.mem_append_left _ (List.mem_of_getElem? (i := 156) rfl))))) rfl
set_option maxRecDepth 20000 in
theorem q_669 : (Jvm.Cond.fieldLink "BoilerDeskModel" (16 : Nat) "BoilerDeskModel" "wasFailed" "[Z") ∈ lw_st := st_in (List.mem_append_right _ (List.mem_append_right _ (List.mem_append_right _ (List.mem_append_left _ (List.mem_of_getElem? (i := 157) rfl))))) rfl
set_option maxRecDepth 20000 in
theorem q_670 : (Jvm.Cond.fieldLink "BoilerDeskModel" (19 : Nat) "BoilerDeskModel" "on" "[Z") ∈ lw_st := st_in (List.mem_append_right _ (List.mem_append_right _ (List.mem_append_right _ (List.mem_append_left _ (List.mem_of_getElem? (i := 158) rfl))))) rfl
set_option maxRecDepth 20000 in
theorem q_671 : (Jvm.Cond.fieldLink "BoilerDeskModel" (22 : Nat) "BoilerDeskModel" "before" "[Z") ∈ lw_st := st_in (List.mem_append_right _ (List.mem_append_right _ (List.mem_append_right _ (List.mem_append_left _ (List.mem_of_getElem? (i := 159) rfl))))) rfl
set_option maxRecDepth 20000 in
theorem q_672 : (Jvm.Cond.fieldLink "BoilerDeskModel" (25 : Nat) "BoilerDeskModel" "gave" "[Z") ∈ lw_st := st_in (List.mem_append_right _ (List.mem_append_right _ (List.mem_append_right _ (List.mem_append_left _ (List.mem_of_getElem? (i := 160) rfl))))) rfl
set_option maxRecDepth 20000 in
theorem q_673 : (Jvm.Cond.fieldLink "BoilerDeskModel" (155 : Nat) "BoilerDeskModel" "level" "I") ∈ lw_st := st_in (List.mem_append_right _ (List.mem_append_right _ (List.mem_append_right _ (List.mem_append_left _ (List.mem_of_getElem? (i := 161) rfl))))) rfl
set_option maxRecDepth 20000 in
theorem q_674 : (Jvm.Cond.fieldLink "BoilerDeskModel" (158 : Nat) "BoilerDeskModel" "steam" "I") ∈ lw_st := st_in (List.mem_append_right _ (List.mem_append_right _ (List.mem_append_right _ (List.mem_append_left _ (List.mem_of_getElem? (i := 162) rfl))))) rfl
set_option maxRecDepth 20000 in
theorem q_675 : (Jvm.Cond.fieldLink "BoilerDeskModel" (115 : Nat) "BoilerDeskModel" "isLevel" "Z") ∈ lw_st := st_in (List.mem_append_right _ (List.mem_append_right _ (List.mem_append_right _ (List.mem_append_left _ (List.mem_of_getElem? (i := 163) rfl))))) rfl
set_option maxRecDepth 20000 in
theorem q_676 : (Jvm.Cond.fieldLink "BoilerDeskModel" (118 : Nat) "BoilerDeskModel" "isSteam" "Z") ∈ lw_st := st_in (List.mem_append_right _ (List.mem_append_right _ (List.mem_append_right _ (List.mem_append_left _ (List.mem_of_getElem? (i := 164) rfl))))) rfl
set_option maxRecDepth 20000 in
theorem q_677 : (Jvm.Cond.fieldLink "BoilerDeskModel" (121 : Nat) "BoilerDeskModel" "waiting" "Z") ∈ lw_st := st_in (List.mem_append_right _ (List.mem_append_right _ (List.mem_append_right _ (List.mem_append_left _ (List.mem_of_getElem? (i := 165) rfl))))) rfl
set_option maxRecDepth 20000 in
theorem q_678 : (Jvm.Cond.fieldLink "BoilerDeskModel" (124 : Nat) "BoilerDeskModel" "ready" "Z") ∈ lw_st := st_in (List.mem_append_right _ (List.mem_append_right _ (List.mem_append_right _ (List.mem_append_left _ (List.mem_of_getElem? (i := 166) rfl))))) rfl
set_option maxRecDepth 20000 in
theorem q_679 : (Jvm.Cond.fieldLink "BoilerDeskModel" (127 : Nat) "BoilerDeskModel" "stop" "Z") ∈ lw_st := st_in (List.mem_append_right _ (List.mem_append_right _ (List.mem_append_right _ (List.mem_append_left _ (List.mem_of_getElem? (i := 167) rfl))))) rfl
set_option maxRecDepth 20000 in
theorem q_680 : (Jvm.Cond.fieldLink "BoilerDeskModel" (28 : Nat) "BoilerDeskModel" "isPump" "[Z") ∈ lw_st := st_in (List.mem_append_right _ (List.mem_append_right _ (List.mem_append_right _ (List.mem_append_left _ (List.mem_of_getElem? (i := 168) rfl))))) rfl
set_option maxRecDepth 20000 in
theorem q_681 : (Jvm.Cond.fieldLink "BoilerDeskModel" (31 : Nat) "BoilerDeskModel" "saysOn" "[Z") ∈ lw_st := st_in (List.mem_append_right _ (List.mem_append_right _ (List.mem_append_right _ (List.mem_append_left _ (List.mem_of_getElem? (i := 169) rfl))))) rfl
set_option maxRecDepth 20000 in
theorem q_682 : (Jvm.Cond.fieldLink "BoilerDeskModel" (34 : Nat) "BoilerDeskModel" "saysGives" "[Z") ∈ lw_st := st_in (List.mem_append_right _ (List.mem_append_right _ (List.mem_append_right _ (List.mem_append_left _ (List.mem_of_getElem? (i := 170) rfl))))) rfl
set_option maxRecDepth 20000 in
theorem q_683 : (Jvm.Cond.fieldLink "BoilerDeskModel" (37 : Nat) "BoilerDeskModel" "repair" "[Z") ∈ lw_st := st_in (List.mem_append_right _ (List.mem_append_right _ (List.mem_append_right _ (List.mem_append_left _ (List.mem_of_getElem? (i := 171) rfl))))) rfl
set_option maxRecDepth 20000 in
theorem q_684 : (Jvm.Cond.fieldLink "BoilerDeskModel" (40 : Nat) "BoilerDeskModel" "knows" "[Z") ∈ lw_st := st_in (List.mem_append_right _ (List.mem_append_right _ (List.mem_append_right _ (List.mem_append_left _ (List.mem_of_getElem? (i := 172) rfl))))) rfl
set_option maxRecDepth 20000 in
theorem q_685 : (Jvm.Cond.fieldLink "BoilerDeskModel" (43 : Nat) "BoilerDeskModel" "now" "[Z") ∈ lw_st := st_in (List.mem_append_right _ (List.mem_append_right _ (List.mem_append_right _ (List.mem_append_left _ (List.mem_of_getElem? (i := 173) rfl))))) rfl
set_option maxRecDepth 20000 in
theorem q_686 : (Jvm.Cond.lays "BoilerDeskModel" "BoilerDeskModel" "err" "I") ∈ lw_st := st_in (List.mem_append_right _ (List.mem_append_right _ (List.mem_append_right _ (List.mem_append_left _ (List.mem_of_getElem? (i := 174) rfl))))) rfl
set_option maxRecDepth 20000 in
theorem q_688 : (Jvm.Cond.lays "BoilerDeskModel" "BoilerDeskModel" "c" "I") ∈ lw_st := st_in (List.mem_append_right _ (List.mem_append_right _ (List.mem_append_right _ (List.mem_append_left _ (List.mem_of_getElem? (i := 176) rfl))))) rfl
set_option maxRecDepth 20000 in
theorem q_690 : (Jvm.Cond.lays "BoilerDeskModel" "BoilerDeskModel" "m1" "I") ∈ lw_st := st_in (List.mem_append_right _ (List.mem_append_right _ (List.mem_append_right _ (List.mem_append_left _ (List.mem_of_getElem? (i := 178) rfl))))) rfl
set_option maxRecDepth 20000 in
theorem q_692 : (Jvm.Cond.lays "BoilerDeskModel" "BoilerDeskModel" "n1" "I") ∈ lw_st := st_in (List.mem_append_right _ (List.mem_append_right _ (List.mem_append_right _ (List.mem_append_left _ (List.mem_of_getElem? (i := 180) rfl))))) rfl
set_option maxRecDepth 20000 in
theorem q_694 : (Jvm.Cond.lays "BoilerDeskModel" "BoilerDeskModel" "n2" "I") ∈ lw_st := st_in (List.mem_append_right _ (List.mem_append_right _ (List.mem_append_right _ (List.mem_append_left _ (List.mem_of_getElem? (i := 182) rfl))))) rfl
set_option maxRecDepth 20000 in
theorem q_696 : (Jvm.Cond.lays "BoilerDeskModel" "BoilerDeskModel" "m2" "I") ∈ lw_st := st_in (List.mem_append_right _ (List.mem_append_right _ (List.mem_append_right _ (List.mem_append_left _ (List.mem_of_getElem? (i := 184) rfl))))) rfl
set_option maxRecDepth 20000 in
theorem q_698 : (Jvm.Cond.lays "BoilerDeskModel" "BoilerDeskModel" "most" "I") ∈ lw_st := st_in (List.mem_append_right _ (List.mem_append_right _ (List.mem_append_right _ (List.mem_append_left _ (List.mem_of_getElem? (i := 186) rfl))))) rfl
set_option maxRecDepth 20000 in
theorem q_700 : (Jvm.Cond.lays "BoilerDeskModel" "BoilerDeskModel" "up" "I") ∈ lw_st := st_in (List.mem_append_right _ (List.mem_append_right _ (List.mem_append_right _ (List.mem_append_left _ (List.mem_of_getElem? (i := 188) rfl))))) rfl
set_option maxRecDepth 20000 in
theorem q_702 : (Jvm.Cond.lays "BoilerDeskModel" "BoilerDeskModel" "down" "I") ∈ lw_st := st_in (List.mem_append_right _ (List.mem_append_right _ (List.mem_append_right _ (List.mem_append_left _ (List.mem_of_getElem? (i := 190) rfl))))) rfl
set_option maxRecDepth 20000 in
theorem q_704 : (Jvm.Cond.lays "BoilerDeskModel" "BoilerDeskModel" "gives" "I") ∈ lw_st := st_in (List.mem_append_right _ (List.mem_append_right _ (List.mem_append_right _ (List.mem_append_left _ (List.mem_of_getElem? (i := 192) rfl))))) rfl
set_option maxRecDepth 20000 in
theorem q_706 : (Jvm.Cond.lays "BoilerDeskModel" "BoilerDeskModel" "mode" "I") ∈ lw_st := st_in (List.mem_append_right _ (List.mem_append_right _ (List.mem_append_right _ (List.mem_append_left _ (List.mem_of_getElem? (i := 194) rfl))))) rfl
set_option maxRecDepth 20000 in
theorem q_708 : (Jvm.Cond.lays "BoilerDeskModel" "BoilerDeskModel" "cycles" "I") ∈ lw_st := st_in (List.mem_append_right _ (List.mem_append_right _ (List.mem_append_right _ (List.mem_append_left _ (List.mem_of_getElem? (i := 196) rfl))))) rfl
set_option maxRecDepth 20000 in
theorem q_710 : (Jvm.Cond.lays "BoilerDeskModel" "BoilerDeskModel" "low" "I") ∈ lw_st := st_in (List.mem_append_right _ (List.mem_append_right _ (List.mem_append_right _ (List.mem_append_left _ (List.mem_of_getElem? (i := 198) rfl))))) rfl
set_option maxRecDepth 20000 in
theorem q_712 : (Jvm.Cond.lays "BoilerDeskModel" "BoilerDeskModel" "high" "I") ∈ lw_st := st_in (List.mem_append_right _ (List.mem_append_right _ (List.mem_append_right _ (List.mem_append_left _ (List.mem_of_getElem? (i := 200) rfl))))) rfl
set_option maxRecDepth 20000 in
theorem q_714 : (Jvm.Cond.lays "BoilerDeskModel" "BoilerDeskModel" "least" "I") ∈ lw_st := st_in (List.mem_append_right _ (List.mem_append_right _ (List.mem_append_right _ (List.mem_append_left _ (List.mem_of_getElem? (i := 202) rfl))))) rfl
set_option maxRecDepth 20000 in
theorem q_716 : (Jvm.Cond.lays "BoilerDeskModel" "BoilerDeskModel" "greatest" "I") ∈ lw_st := st_in (List.mem_append_right _ (List.mem_append_right _ (List.mem_append_right _ (List.mem_append_left _ (List.mem_of_getElem? (i := 204) rfl))))) rfl
set_option maxRecDepth 20000 in
theorem q_718 : (Jvm.Cond.lays "BoilerDeskModel" "BoilerDeskModel" "stops" "I") ∈ lw_st := st_in (List.mem_append_right _ (List.mem_append_right _ (List.mem_append_right _ (List.mem_append_left _ (List.mem_of_getElem? (i := 206) rfl))))) rfl
set_option maxRecDepth 20000 in
theorem q_720 : (Jvm.Cond.lays "BoilerDeskModel" "BoilerDeskModel" "detected" "I") ∈ lw_st := st_in (List.mem_append_right _ (List.mem_append_right _ (List.mem_append_right _ (List.mem_append_left _ (List.mem_of_getElem? (i := 208) rfl))))) rfl
set_option maxRecDepth 20000 in
theorem q_722 : (Jvm.Cond.lays "BoilerDeskModel" "BoilerDeskModel" "repaired" "I") ∈ lw_st := st_in (List.mem_append_right _ (List.mem_append_right _ (List.mem_append_right _ (List.mem_append_left _ (List.mem_of_getElem? (i := 210) rfl))))) rfl
set_option maxRecDepth 20000 in
theorem q_724 : (Jvm.Cond.lays "BoilerDeskModel" "BoilerDeskModel" "pumpsTold" "I") ∈ lw_st := st_in (List.mem_append_right _ (List.mem_append_right _ (List.mem_append_right _ (List.mem_append_left _ (List.mem_of_getElem? (i := 212) rfl))))) rfl
set_option maxRecDepth 20000 in
theorem q_726 : (Jvm.Cond.lays "BoilerDeskModel" "BoilerDeskModel" "valveTold" "I") ∈ lw_st := st_in (List.mem_append_right _ (List.mem_append_right _ (List.mem_append_right _ (List.mem_append_left _ (List.mem_of_getElem? (i := 214) rfl))))) rfl
set_option maxRecDepth 20000 in
theorem q_728 : (Jvm.Cond.lays "BoilerDeskModel" "BoilerDeskModel" "readyTold" "I") ∈ lw_st := st_in (List.mem_append_right _ (List.mem_append_right _ (List.mem_append_right _ (List.mem_append_left _ (List.mem_of_getElem? (i := 216) rfl))))) rfl
set_option maxRecDepth 20000 in
theorem q_730 : (Jvm.Cond.lays "BoilerDeskModel" "BoilerDeskModel" "valve" "Z") ∈ lw_st := st_in (List.mem_append_right _ (List.mem_append_right _ (List.mem_append_right _ (List.mem_append_left _ (List.mem_of_getElem? (i := 218) rfl))))) rfl
set_option maxRecDepth 20000 in
theorem q_732 : (Jvm.Cond.lays "BoilerDeskModel" "BoilerDeskModel" "waited" "Z") ∈ lw_st := st_in (List.mem_append_right _ (List.mem_append_right _ (List.mem_append_right _ (List.mem_append_left _ (List.mem_of_getElem? (i := 220) rfl))))) rfl
set_option maxRecDepth 20000 in
theorem q_734 : (Jvm.Cond.laysFinal "BoilerDeskModel" "BoilerDeskModel" "failed" "[Z") ∈ lw_st := st_in (List.mem_append_right _ (List.mem_append_right _ (List.mem_append_right _ (List.mem_append_left _ (List.mem_of_getElem? (i := 222) rfl))))) rfl
set_option maxRecDepth 20000 in
theorem q_736 : (Jvm.Cond.laysFinal "BoilerDeskModel" "BoilerDeskModel" "known" "[Z") ∈ lw_st := st_in (List.mem_append_right _ (List.mem_append_right _ (List.mem_append_right _ (List.mem_append_left _ (List.mem_of_getElem? (i := 224) rfl))))) rfl
set_option maxRecDepth 20000 in
theorem q_738 : (Jvm.Cond.laysFinal "BoilerDeskModel" "BoilerDeskModel" "wasFailed" "[Z") ∈ lw_st := st_in (List.mem_append_right _ (List.mem_append_right _ (List.mem_append_right _ (List.mem_append_left _ (List.mem_of_getElem? (i := 226) rfl))))) rfl
set_option maxRecDepth 20000 in
theorem q_740 : (Jvm.Cond.laysFinal "BoilerDeskModel" "BoilerDeskModel" "on" "[Z") ∈ lw_st := st_in (List.mem_append_right _ (List.mem_append_right _ (List.mem_append_right _ (List.mem_append_left _ (List.mem_of_getElem? (i := 228) rfl))))) rfl
set_option maxRecDepth 20000 in
theorem q_742 : (Jvm.Cond.laysFinal "BoilerDeskModel" "BoilerDeskModel" "before" "[Z") ∈ lw_st := st_in (List.mem_append_right _ (List.mem_append_right _ (List.mem_append_right _ (List.mem_append_left _ (List.mem_of_getElem? (i := 230) rfl))))) rfl
set_option maxRecDepth 20000 in
theorem q_744 : (Jvm.Cond.laysFinal "BoilerDeskModel" "BoilerDeskModel" "gave" "[Z") ∈ lw_st := st_in (List.mem_append_right _ (List.mem_append_right _ (List.mem_append_right _ (List.mem_append_left _ (List.mem_of_getElem? (i := 232) rfl))))) rfl
set_option maxRecDepth 20000 in
theorem q_746 : (Jvm.Cond.lays "BoilerDeskModel" "BoilerDeskModel" "level" "I") ∈ lw_st := st_in (List.mem_append_right _ (List.mem_append_right _ (List.mem_append_right _ (List.mem_append_left _ (List.mem_of_getElem? (i := 234) rfl))))) rfl
set_option maxRecDepth 20000 in
theorem q_748 : (Jvm.Cond.lays "BoilerDeskModel" "BoilerDeskModel" "steam" "I") ∈ lw_st := st_in (List.mem_append_right _ (List.mem_append_right _ (List.mem_append_right _ (List.mem_append_left _ (List.mem_of_getElem? (i := 236) rfl))))) rfl
set_option maxRecDepth 20000 in
theorem q_750 : (Jvm.Cond.lays "BoilerDeskModel" "BoilerDeskModel" "isLevel" "Z") ∈ lw_st := st_in (List.mem_append_right _ (List.mem_append_right _ (List.mem_append_right _ (List.mem_append_left _ (List.mem_of_getElem? (i := 238) rfl))))) rfl
set_option maxRecDepth 20000 in
theorem q_752 : (Jvm.Cond.lays "BoilerDeskModel" "BoilerDeskModel" "isSteam" "Z") ∈ lw_st := st_in (List.mem_append_right _ (List.mem_append_right _ (List.mem_append_right _ (List.mem_append_right _ (List.mem_of_getElem? (i := 0) rfl))))) rfl
set_option maxRecDepth 20000 in
theorem q_754 : (Jvm.Cond.lays "BoilerDeskModel" "BoilerDeskModel" "waiting" "Z") ∈ lw_st := st_in (List.mem_append_right _ (List.mem_append_right _ (List.mem_append_right _ (List.mem_append_right _ (List.mem_of_getElem? (i := 2) rfl))))) rfl
set_option maxRecDepth 20000 in
theorem q_756 : (Jvm.Cond.lays "BoilerDeskModel" "BoilerDeskModel" "ready" "Z") ∈ lw_st := st_in (List.mem_append_right _ (List.mem_append_right _ (List.mem_append_right _ (List.mem_append_right _ (List.mem_of_getElem? (i := 4) rfl))))) rfl
set_option maxRecDepth 20000 in
theorem q_758 : (Jvm.Cond.lays "BoilerDeskModel" "BoilerDeskModel" "stop" "Z") ∈ lw_st := st_in (List.mem_append_right _ (List.mem_append_right _ (List.mem_append_right _ (List.mem_append_right _ (List.mem_of_getElem? (i := 6) rfl))))) rfl
set_option maxRecDepth 20000 in
theorem q_760 : (Jvm.Cond.laysFinal "BoilerDeskModel" "BoilerDeskModel" "isPump" "[Z") ∈ lw_st := st_in (List.mem_append_right _ (List.mem_append_right _ (List.mem_append_right _ (List.mem_append_right _ (List.mem_of_getElem? (i := 8) rfl))))) rfl
set_option maxRecDepth 20000 in
theorem q_762 : (Jvm.Cond.laysFinal "BoilerDeskModel" "BoilerDeskModel" "saysOn" "[Z") ∈ lw_st := st_in (List.mem_append_right _ (List.mem_append_right _ (List.mem_append_right _ (List.mem_append_right _ (List.mem_of_getElem? (i := 10) rfl))))) rfl
set_option maxRecDepth 20000 in
theorem q_764 : (Jvm.Cond.laysFinal "BoilerDeskModel" "BoilerDeskModel" "saysGives" "[Z") ∈ lw_st := st_in (List.mem_append_right _ (List.mem_append_right _ (List.mem_append_right _ (List.mem_append_right _ (List.mem_of_getElem? (i := 12) rfl))))) rfl
set_option maxRecDepth 20000 in
theorem q_766 : (Jvm.Cond.laysFinal "BoilerDeskModel" "BoilerDeskModel" "repair" "[Z") ∈ lw_st := st_in (List.mem_append_right _ (List.mem_append_right _ (List.mem_append_right _ (List.mem_append_right _ (List.mem_of_getElem? (i := 14) rfl))))) rfl
set_option maxRecDepth 20000 in
theorem q_768 : (Jvm.Cond.laysFinal "BoilerDeskModel" "BoilerDeskModel" "knows" "[Z") ∈ lw_st := st_in (List.mem_append_right _ (List.mem_append_right _ (List.mem_append_right _ (List.mem_append_right _ (List.mem_of_getElem? (i := 16) rfl))))) rfl
set_option maxRecDepth 20000 in
theorem q_770 : (Jvm.Cond.laysFinal "BoilerDeskModel" "BoilerDeskModel" "now" "[Z") ∈ lw_st := st_in (List.mem_append_right _ (List.mem_append_right _ (List.mem_append_right _ (List.mem_append_right _ (List.mem_of_getElem? (i := 18) rfl))))) rfl
set_option maxRecDepth 20000 in
theorem q_773 : (Jvm.Cond.arrayClass Jvm.ClassFile.FieldType.boolean) ∈ lw_st := st_in (List.mem_append_right _ (List.mem_append_right _ (List.mem_append_right _ (List.mem_append_right _ (List.mem_of_getElem? (i := 21) rfl))))) rfl
set_option maxRecDepth 20000 in
theorem q_774 : (Jvm.Cond.methodLink "BoilerDeskLaw" (50 : Nat) ({ cls := "BoilerDeskModel", name := "thrown", desc := "()I" } : Jvm.MethodName)) ∈ lw_st := st_in (List.mem_append_right _ (List.mem_append_right _ (List.mem_append_right _ (List.mem_append_right _ (List.mem_of_getElem? (i := 22) rfl))))) rfl
set_option maxRecDepth 20000 in
theorem q_775 : (Jvm.Cond.instanceMethod ({ cls := "BoilerDeskModel", name := "thrown", desc := "()I" } : Jvm.MethodName)) ∈ lw_st := st_in (List.mem_append_right _ (List.mem_append_right _ (List.mem_append_right _ (List.mem_append_right _ (List.mem_of_getElem? (i := 23) rfl))))) rfl
set_option maxRecDepth 20000 in
theorem q_776 : (Jvm.Cond.selects "BoilerDeskModel" ({ cls := "BoilerDeskModel", name := "thrown", desc := "()I" } : Jvm.MethodName) ({ cls := "BoilerDeskModel", name := "thrown", desc := "()I" } : Jvm.MethodName)) ∈ lw_st := st_in (List.mem_append_right _ (List.mem_append_right _ (List.mem_append_right _ (List.mem_append_right _ (List.mem_of_getElem? (i := 24) rfl))))) rfl
set_option maxRecDepth 20000 in
theorem q_777 : (Jvm.Cond.code ({ cls := "BoilerDeskModel", name := "thrown", desc := "()I" } : Jvm.MethodName) prog_9_method_2_code (1 : Nat) (Option.some Jvm.ClassFile.FieldType.int)) ∈ lw_st := st_in (List.mem_append_right _ (List.mem_append_right _ (List.mem_append_right _ (List.mem_append_right _ (List.mem_of_getElem? (i := 25) rfl))))) rfl
set_option maxRecDepth 20000 in
theorem q_778 : (Jvm.Cond.methodLink "BoilerDeskLaw" (49 : Nat) ({ cls := "BoilerDeskModel", name := "begin", desc := "(IIIIIIIII)V" } : Jvm.MethodName)) ∈ lw_st := st_in (List.mem_append_right _ (List.mem_append_right _ (List.mem_append_right _ (List.mem_append_right _ (List.mem_of_getElem? (i := 26) rfl))))) rfl
set_option maxRecDepth 20000 in
theorem q_779 : (Jvm.Cond.instanceMethod ({ cls := "BoilerDeskModel", name := "begin", desc := "(IIIIIIIII)V" } : Jvm.MethodName)) ∈ lw_st := st_in (List.mem_append_right _ (List.mem_append_right _ (List.mem_append_right _ (List.mem_append_right _ (List.mem_of_getElem? (i := 27) rfl))))) rfl
set_option maxRecDepth 20000 in
theorem q_780 : (Jvm.Cond.selects "BoilerDeskModel" ({ cls := "BoilerDeskModel", name := "begin", desc := "(IIIIIIIII)V" } : Jvm.MethodName) ({ cls := "BoilerDeskModel", name := "begin", desc := "(IIIIIIIII)V" } : Jvm.MethodName)) ∈ lw_st := st_in (List.mem_append_right _ (List.mem_append_right _ (List.mem_append_right _ (List.mem_append_right _ (List.mem_of_getElem? (i := 28) rfl))))) rfl
set_option maxRecDepth 20000 in
theorem q_781 : (Jvm.Cond.code ({ cls := "BoilerDeskModel", name := "begin", desc := "(IIIIIIIII)V" } : Jvm.MethodName) prog_9_method_8_code (11 : Nat) (Option.none : Option Jvm.ClassFile.FieldType)) ∈ lw_st := st_in (List.mem_append_right _ (List.mem_append_right _ (List.mem_append_right _ (List.mem_append_right _ (List.mem_of_getElem? (i := 29) rfl))))) rfl
set_option maxRecDepth 20000 in
theorem q_782 : (Jvm.Cond.constant "BoilerDeskModel" (145 : Nat) (1000000 : Int32)) ∈ lw_st := st_in (List.mem_append_right _ (List.mem_append_right _ (List.mem_append_right _ (List.mem_append_right _ (List.mem_of_getElem? (i := 30) rfl))))) rfl
set_option maxRecDepth 20000 in
theorem q_783 : (Jvm.Cond.constant "BoilerDeskModel" (146 : Nat) (100000 : Int32)) ∈ lw_st := st_in (List.mem_append_right _ (List.mem_append_right _ (List.mem_append_right _ (List.mem_append_right _ (List.mem_of_getElem? (i := 31) rfl))))) rfl
set_option maxRecDepth 20000 in
theorem q_784 : (Jvm.Cond.methodLink "BoilerDeskModel" (147 : Nat) ({ cls := "BoilerDeskModel", name := "in", desc := "(III)Z" } : Jvm.MethodName)) ∈ lw_st := st_in (List.mem_append_right _ (List.mem_append_right _ (List.mem_append_right _ (List.mem_append_right _ (List.mem_of_getElem? (i := 32) rfl))))) rfl
set_option maxRecDepth 20000 in
theorem q_785 : (Jvm.Cond.static ({ cls := "BoilerDeskModel", name := "in", desc := "(III)Z" } : Jvm.MethodName)) ∈ lw_st := st_in (List.mem_append_right _ (List.mem_append_right _ (List.mem_append_right _ (List.mem_append_right _ (List.mem_of_getElem? (i := 33) rfl))))) rfl
set_option maxRecDepth 20000 in
theorem q_786 : (Jvm.Cond.code ({ cls := "BoilerDeskModel", name := "in", desc := "(III)Z" } : Jvm.MethodName) prog_9_method_3_code (3 : Nat) (Option.some Jvm.ClassFile.FieldType.boolean)) ∈ lw_st := st_in (List.mem_append_right _ (List.mem_append_right _ (List.mem_append_right _ (List.mem_append_right _ (List.mem_of_getElem? (i := 34) rfl))))) rfl
set_option maxRecDepth 20000 in
theorem q_787 : (Jvm.Cond.methodLink "BoilerDeskModel" (151 : Nat) ({ cls := "BoilerDeskModel", name := "fails", desc := "(ZI)Z" } : Jvm.MethodName)) ∈ lw_st := st_in (List.mem_append_right _ (List.mem_append_right _ (List.mem_append_right _ (List.mem_append_right _ (List.mem_of_getElem? (i := 35) rfl))))) rfl
set_option maxRecDepth 20000 in
theorem q_789 : (Jvm.Cond.instanceMethod ({ cls := "BoilerDeskModel", name := "fails", desc := "(ZI)Z" } : Jvm.MethodName)) ∈ lw_st := st_in (List.mem_append_right _ (List.mem_append_right _ (List.mem_append_right _ (List.mem_append_right _ (List.mem_of_getElem? (i := 37) rfl))))) rfl
set_option maxRecDepth 20000 in
theorem q_790 : (Jvm.Cond.code ({ cls := "BoilerDeskModel", name := "fails", desc := "(ZI)Z" } : Jvm.MethodName) prog_9_method_4_code (3 : Nat) (Option.some Jvm.ClassFile.FieldType.boolean)) ∈ lw_st := st_in (List.mem_append_right _ (List.mem_append_right _ (List.mem_append_right _ (List.mem_append_right _ (List.mem_of_getElem? (i := 38) rfl))))) rfl
set_option maxRecDepth 20000 in
theorem q_791 : (Jvm.Cond.methodLink "BoilerDeskLaw" (56 : Nat) ({ cls := "BoilerDeskModel", name := "level", desc := "(I)V" } : Jvm.MethodName)) ∈ lw_st := st_in (List.mem_append_right _ (List.mem_append_right _ (List.mem_append_right _ (List.mem_append_right _ (List.mem_of_getElem? (i := 39) rfl))))) rfl
set_option maxRecDepth 20000 in
theorem q_792 : (Jvm.Cond.instanceMethod ({ cls := "BoilerDeskModel", name := "level", desc := "(I)V" } : Jvm.MethodName)) ∈ lw_st := st_in (List.mem_append_right _ (List.mem_append_right _ (List.mem_append_right _ (List.mem_append_right _ (List.mem_of_getElem? (i := 40) rfl))))) rfl
set_option maxRecDepth 20000 in
theorem q_793 : (Jvm.Cond.selects "BoilerDeskModel" ({ cls := "BoilerDeskModel", name := "level", desc := "(I)V" } : Jvm.MethodName) ({ cls := "BoilerDeskModel", name := "level", desc := "(I)V" } : Jvm.MethodName)) ∈ lw_st := st_in (List.mem_append_right _ (List.mem_append_right _ (List.mem_append_right _ (List.mem_append_right _ (List.mem_of_getElem? (i := 41) rfl))))) rfl
set_option maxRecDepth 20000 in
theorem q_794 : (Jvm.Cond.code ({ cls := "BoilerDeskModel", name := "level", desc := "(I)V" } : Jvm.MethodName) prog_9_method_9_code (2 : Nat) (Option.none : Option Jvm.ClassFile.FieldType)) ∈ lw_st := st_in (List.mem_append_right _ (List.mem_append_right _ (List.mem_append_right _ (List.mem_append_right _ (List.mem_of_getElem? (i := 42) rfl))))) rfl
set_option maxRecDepth 20000 in
theorem q_795 : (Jvm.Cond.methodLink "BoilerDeskLaw" (60 : Nat) ({ cls := "BoilerDeskModel", name := "steam", desc := "(I)V" } : Jvm.MethodName)) ∈ lw_st := st_in (List.mem_append_right _ (List.mem_append_right _ (List.mem_append_right _ (List.mem_append_right _ (List.mem_of_getElem? (i := 43) rfl))))) rfl
set_option maxRecDepth 20000 in
theorem q_796 : (Jvm.Cond.instanceMethod ({ cls := "BoilerDeskModel", name := "steam", desc := "(I)V" } : Jvm.MethodName)) ∈ lw_st := st_in (List.mem_append_right _ (List.mem_append_right _ (List.mem_append_right _ (List.mem_append_right _ (List.mem_of_getElem? (i := 44) rfl))))) rfl
set_option maxRecDepth 20000 in
theorem q_797 : (Jvm.Cond.selects "BoilerDeskModel" ({ cls := "BoilerDeskModel", name := "steam", desc := "(I)V" } : Jvm.MethodName) ({ cls := "BoilerDeskModel", name := "steam", desc := "(I)V" } : Jvm.MethodName)) ∈ lw_st := st_in (List.mem_append_right _ (List.mem_append_right _ (List.mem_append_right _ (List.mem_append_right _ (List.mem_of_getElem? (i := 45) rfl))))) rfl
set_option maxRecDepth 20000 in
theorem q_798 : (Jvm.Cond.code ({ cls := "BoilerDeskModel", name := "steam", desc := "(I)V" } : Jvm.MethodName) prog_9_method_10_code (2 : Nat) (Option.none : Option Jvm.ClassFile.FieldType)) ∈ lw_st := st_in (List.mem_append_right _ (List.mem_append_right _ (List.mem_append_right _ (List.mem_append_right _ (List.mem_of_getElem? (i := 46) rfl))))) rfl
set_option maxRecDepth 20000 in
theorem q_799 : (Jvm.Cond.methodLink "BoilerDeskLaw" (64 : Nat) ({ cls := "BoilerDeskModel", name := "pump", desc := "(IZZ)V" } : Jvm.MethodName)) ∈ lw_st := st_in (List.mem_append_right _ (List.mem_append_right _ (List.mem_append_right _ (List.mem_append_right _ (List.mem_of_getElem? (i := 47) rfl))))) rfl
set_option maxRecDepth 20000 in
theorem q_800 : (Jvm.Cond.instanceMethod ({ cls := "BoilerDeskModel", name := "pump", desc := "(IZZ)V" } : Jvm.MethodName)) ∈ lw_st := st_in (List.mem_append_right _ (List.mem_append_right _ (List.mem_append_right _ (List.mem_append_right _ (List.mem_of_getElem? (i := 48) rfl))))) rfl
set_option maxRecDepth 20000 in
theorem q_801 : (Jvm.Cond.selects "BoilerDeskModel" ({ cls := "BoilerDeskModel", name := "pump", desc := "(IZZ)V" } : Jvm.MethodName) ({ cls := "BoilerDeskModel", name := "pump", desc := "(IZZ)V" } : Jvm.MethodName)) ∈ lw_st := st_in (List.mem_append_right _ (List.mem_append_right _ (List.mem_append_right _ (List.mem_append_right _ (List.mem_of_getElem? (i := 49) rfl))))) rfl
set_option maxRecDepth 20000 in
theorem q_802 : (Jvm.Cond.code ({ cls := "BoilerDeskModel", name := "pump", desc := "(IZZ)V" } : Jvm.MethodName) prog_9_method_11_code (4 : Nat) (Option.none : Option Jvm.ClassFile.FieldType)) ∈ lw_st := st_in (List.mem_append_right _ (List.mem_append_right _ (List.mem_append_right _ (List.mem_append_right _ (List.mem_of_getElem? (i := 50) rfl))))) rfl
set_option maxRecDepth 20000 in
theorem q_803 : (Jvm.Cond.methodLink "BoilerDeskLaw" (68 : Nat) ({ cls := "BoilerDeskModel", name := "say", desc := "(I)V" } : Jvm.MethodName)) ∈ lw_st := st_in (List.mem_append_right _ (List.mem_append_right _ (List.mem_append_right _ (List.mem_append_right _ (List.mem_of_getElem? (i := 51) rfl))))) rfl
set_option maxRecDepth 20000 in
theorem q_804 : (Jvm.Cond.instanceMethod ({ cls := "BoilerDeskModel", name := "say", desc := "(I)V" } : Jvm.MethodName)) ∈ lw_st := st_in (List.mem_append_right _ (List.mem_append_right _ (List.mem_append_right _ (List.mem_append_right _ (List.mem_of_getElem? (i := 52) rfl))))) rfl
set_option maxRecDepth 20000 in
theorem q_805 : (Jvm.Cond.selects "BoilerDeskModel" ({ cls := "BoilerDeskModel", name := "say", desc := "(I)V" } : Jvm.MethodName) ({ cls := "BoilerDeskModel", name := "say", desc := "(I)V" } : Jvm.MethodName)) ∈ lw_st := st_in (List.mem_append_right _ (List.mem_append_right _ (List.mem_append_right _ (List.mem_append_right _ (List.mem_of_getElem? (i := 53) rfl))))) rfl
set_option maxRecDepth 20000 in
theorem q_806 : (Jvm.Cond.code ({ cls := "BoilerDeskModel", name := "say", desc := "(I)V" } : Jvm.MethodName) prog_9_method_12_code (2 : Nat) (Option.none : Option Jvm.ClassFile.FieldType)) ∈ lw_st := st_in (List.mem_append_right _ (List.mem_append_right _ (List.mem_append_right _ (List.mem_append_right _ (List.mem_of_getElem? (i := 54) rfl))))) rfl
set_option maxRecDepth 20000 in
theorem q_807 : (Jvm.Cond.methodLink "BoilerDeskLaw" (72 : Nat) ({ cls := "BoilerDeskModel", name := "unit", desc := "(IZ)V" } : Jvm.MethodName)) ∈ lw_st := st_in (List.mem_append_right _ (List.mem_append_right _ (List.mem_append_right _ (List.mem_append_right _ (List.mem_of_getElem? (i := 55) rfl))))) rfl
set_option maxRecDepth 20000 in
theorem q_808 : (Jvm.Cond.instanceMethod ({ cls := "BoilerDeskModel", name := "unit", desc := "(IZ)V" } : Jvm.MethodName)) ∈ lw_st := st_in (List.mem_append_right _ (List.mem_append_right _ (List.mem_append_right _ (List.mem_append_right _ (List.mem_of_getElem? (i := 56) rfl))))) rfl
set_option maxRecDepth 20000 in
theorem q_809 : (Jvm.Cond.selects "BoilerDeskModel" ({ cls := "BoilerDeskModel", name := "unit", desc := "(IZ)V" } : Jvm.MethodName) ({ cls := "BoilerDeskModel", name := "unit", desc := "(IZ)V" } : Jvm.MethodName)) ∈ lw_st := st_in (List.mem_append_right _ (List.mem_append_right _ (List.mem_append_right _ (List.mem_append_right _ (List.mem_of_getElem? (i := 57) rfl))))) rfl
set_option maxRecDepth 20000 in
theorem q_810 : (Jvm.Cond.code ({ cls := "BoilerDeskModel", name := "unit", desc := "(IZ)V" } : Jvm.MethodName) prog_9_method_13_code (3 : Nat) (Option.none : Option Jvm.ClassFile.FieldType)) ∈ lw_st := st_in (List.mem_append_right _ (List.mem_append_right _ (List.mem_append_right _ (List.mem_append_right _ (List.mem_of_getElem? (i := 58) rfl))))) rfl
set_option maxRecDepth 20000 in
theorem q_811 : (Jvm.Cond.methodLink "BoilerDeskLaw" (76 : Nat) ({ cls := "BoilerDeskModel", name := "cycle", desc := "()I" } : Jvm.MethodName)) ∈ lw_st := st_in (List.mem_append_right _ (List.mem_append_right _ (List.mem_append_right _ (List.mem_append_right _ (List.mem_of_getElem? (i := 59) rfl))))) rfl
set_option maxRecDepth 20000 in
theorem q_812 : (Jvm.Cond.instanceMethod ({ cls := "BoilerDeskModel", name := "cycle", desc := "()I" } : Jvm.MethodName)) ∈ lw_st := st_in (List.mem_append_right _ (List.mem_append_right _ (List.mem_append_right _ (List.mem_append_right _ (List.mem_of_getElem? (i := 60) rfl))))) rfl
set_option maxRecDepth 20000 in
theorem q_813 : (Jvm.Cond.selects "BoilerDeskModel" ({ cls := "BoilerDeskModel", name := "cycle", desc := "()I" } : Jvm.MethodName) ({ cls := "BoilerDeskModel", name := "cycle", desc := "()I" } : Jvm.MethodName)) ∈ lw_st := st_in (List.mem_append_right _ (List.mem_append_right _ (List.mem_append_right _ (List.mem_append_right _ (List.mem_of_getElem? (i := 61) rfl))))) rfl
set_option maxRecDepth 20000 in
theorem q_814 : (Jvm.Cond.code ({ cls := "BoilerDeskModel", name := "cycle", desc := "()I" } : Jvm.MethodName) prog_9_method_14_code (2 : Nat) (Option.some Jvm.ClassFile.FieldType.int)) ∈ lw_st := st_in (List.mem_append_right _ (List.mem_append_right _ (List.mem_append_right _ (List.mem_append_right _ (List.mem_of_getElem? (i := 62) rfl))))) rfl
set_option maxRecDepth 20000 in
theorem q_815 : (Jvm.Cond.methodLink "BoilerDeskModel" (161 : Nat) ({ cls := "BoilerDeskModel", name := "turn", desc := "()Z" } : Jvm.MethodName)) ∈ lw_st := st_in (List.mem_append_right _ (List.mem_append_right _ (List.mem_append_right _ (List.mem_append_right _ (List.mem_of_getElem? (i := 63) rfl))))) rfl
set_option maxRecDepth 20000 in
theorem q_817 : (Jvm.Cond.instanceMethod ({ cls := "BoilerDeskModel", name := "turn", desc := "()Z" } : Jvm.MethodName)) ∈ lw_st := st_in (List.mem_append_right _ (List.mem_append_right _ (List.mem_append_right _ (List.mem_append_right _ (List.mem_of_getElem? (i := 65) rfl))))) rfl
set_option maxRecDepth 20000 in
theorem q_818 : (Jvm.Cond.code ({ cls := "BoilerDeskModel", name := "turn", desc := "()Z" } : Jvm.MethodName) prog_9_method_15_code (7 : Nat) (Option.some Jvm.ClassFile.FieldType.boolean)) ∈ lw_st := st_in (List.mem_append_right _ (List.mem_append_right _ (List.mem_append_right _ (List.mem_append_right _ (List.mem_of_getElem? (i := 66) rfl))))) rfl
set_option maxRecDepth 20000 in
theorem q_819 : (Jvm.Cond.methodLink "BoilerDeskModel" (165 : Nat) ({ cls := "BoilerDeskModel", name := "units", desc := "()Z" } : Jvm.MethodName)) ∈ lw_st := st_in (List.mem_append_right _ (List.mem_append_right _ (List.mem_append_right _ (List.mem_append_right _ (List.mem_of_getElem? (i := 67) rfl))))) rfl
set_option maxRecDepth 20000 in
theorem q_821 : (Jvm.Cond.instanceMethod ({ cls := "BoilerDeskModel", name := "units", desc := "()Z" } : Jvm.MethodName)) ∈ lw_st := st_in (List.mem_append_right _ (List.mem_append_right _ (List.mem_append_right _ (List.mem_append_right _ (List.mem_of_getElem? (i := 69) rfl))))) rfl
set_option maxRecDepth 20000 in
theorem q_822 : (Jvm.Cond.code ({ cls := "BoilerDeskModel", name := "units", desc := "()Z" } : Jvm.MethodName) prog_9_method_17_code (2 : Nat) (Option.some Jvm.ClassFile.FieldType.boolean)) ∈ lw_st := st_in (List.mem_append_right _ (List.mem_append_right _ (List.mem_append_right _ (List.mem_append_right _ (List.mem_of_getElem? (i := 70) rfl))))) rfl
set_option maxRecDepth 20000 in
theorem q_823 : (Jvm.Cond.methodLink "BoilerDeskModel" (168 : Nat) ({ cls := "BoilerDeskModel", name := "find", desc := "(IZ)V" } : Jvm.MethodName)) ∈ lw_st := st_in (List.mem_append_right _ (List.mem_append_right _ (List.mem_append_right _ (List.mem_append_right _ (List.mem_of_getElem? (i := 71) rfl))))) rfl
set_option maxRecDepth 20000 in
theorem q_825 : (Jvm.Cond.instanceMethod ({ cls := "BoilerDeskModel", name := "find", desc := "(IZ)V" } : Jvm.MethodName)) ∈ lw_st := st_in (List.mem_append_right _ (List.mem_append_right _ (List.mem_append_right _ (List.mem_append_right _ (List.mem_of_getElem? (i := 73) rfl))))) rfl
set_option maxRecDepth 20000 in
theorem q_826 : (Jvm.Cond.code ({ cls := "BoilerDeskModel", name := "find", desc := "(IZ)V" } : Jvm.MethodName) prog_9_method_16_code (3 : Nat) (Option.none : Option Jvm.ClassFile.FieldType)) ∈ lw_st := st_in (List.mem_append_right _ (List.mem_append_right _ (List.mem_append_right _ (List.mem_append_right _ (List.mem_of_getElem? (i := 74) rfl))))) rfl
set_option maxRecDepth 20000 in
theorem q_827 : (Jvm.Cond.methodLink "BoilerDeskModel" (172 : Nat) ({ cls := "BoilerDeskModel", name := "first", desc := "()Z" } : Jvm.MethodName)) ∈ lw_st := st_in (List.mem_append_right _ (List.mem_append_right _ (List.mem_append_right _ (List.mem_append_right _ (List.mem_of_getElem? (i := 75) rfl))))) rfl
set_option maxRecDepth 20000 in
theorem q_829 : (Jvm.Cond.instanceMethod ({ cls := "BoilerDeskModel", name := "first", desc := "()Z" } : Jvm.MethodName)) ∈ lw_st := st_in (List.mem_append_right _ (List.mem_append_right _ (List.mem_append_right _ (List.mem_append_right _ (List.mem_of_getElem? (i := 77) rfl))))) rfl
set_option maxRecDepth 20000 in
theorem q_830 : (Jvm.Cond.code ({ cls := "BoilerDeskModel", name := "first", desc := "()Z" } : Jvm.MethodName) prog_9_method_19_code (1 : Nat) (Option.some Jvm.ClassFile.FieldType.boolean)) ∈ lw_st := st_in (List.mem_append_right _ (List.mem_append_right _ (List.mem_append_right _ (List.mem_append_right _ (List.mem_of_getElem? (i := 78) rfl))))) rfl
set_option maxRecDepth 20000 in
theorem q_831 : (Jvm.Cond.methodLink "BoilerDeskModel" (181 : Nat) ({ cls := "BoilerDeskModel", name := "some", desc := "(II)Z" } : Jvm.MethodName)) ∈ lw_st := st_in (List.mem_append_right _ (List.mem_append_right _ (List.mem_append_right _ (List.mem_append_right _ (List.mem_of_getElem? (i := 79) rfl))))) rfl
set_option maxRecDepth 20000 in
theorem q_833 : (Jvm.Cond.instanceMethod ({ cls := "BoilerDeskModel", name := "some", desc := "(II)Z" } : Jvm.MethodName)) ∈ lw_st := st_in (List.mem_append_right _ (List.mem_append_right _ (List.mem_append_right _ (List.mem_append_right _ (List.mem_of_getElem? (i := 81) rfl))))) rfl
set_option maxRecDepth 20000 in
theorem q_834 : (Jvm.Cond.code ({ cls := "BoilerDeskModel", name := "some", desc := "(II)Z" } : Jvm.MethodName) prog_9_method_18_code (4 : Nat) (Option.some Jvm.ClassFile.FieldType.boolean)) ∈ lw_st := st_in (List.mem_append_right _ (List.mem_append_right _ (List.mem_append_right _ (List.mem_append_right _ (List.mem_of_getElem? (i := 82) rfl))))) rfl
set_option maxRecDepth 20000 in
theorem q_835 : (Jvm.Cond.methodLink "BoilerDeskModel" (175 : Nat) ({ cls := "BoilerDeskModel", name := "others", desc := "()Z" } : Jvm.MethodName)) ∈ lw_st := st_in (List.mem_append_right _ (List.mem_append_right _ (List.mem_append_right _ (List.mem_append_right _ (List.mem_of_getElem? (i := 83) rfl))))) rfl
set_option maxRecDepth 20000 in
theorem q_837 : (Jvm.Cond.instanceMethod ({ cls := "BoilerDeskModel", name := "others", desc := "()Z" } : Jvm.MethodName)) ∈ lw_st := st_in (List.mem_append_right _ (List.mem_append_right _ (List.mem_append_right _ (List.mem_append_right _ (List.mem_of_getElem? (i := 85) rfl))))) rfl
set_option maxRecDepth 20000 in
theorem q_838 : (Jvm.Cond.code ({ cls := "BoilerDeskModel", name := "others", desc := "()Z" } : Jvm.MethodName) prog_9_method_20_code (1 : Nat) (Option.some Jvm.ClassFile.FieldType.boolean)) ∈ lw_st := st_in (List.mem_append_right _ (List.mem_append_right _ (List.mem_append_right _ (List.mem_append_right _ (List.mem_of_getElem? (i := 86) rfl))))) rfl
set_option maxRecDepth 20000 in
theorem q_839 : (Jvm.Cond.methodLink "BoilerDeskModel" (178 : Nat) ({ cls := "BoilerDeskModel", name := "command", desc := "()V" } : Jvm.MethodName)) ∈ lw_st := st_in (List.mem_append_right _ (List.mem_append_right _ (List.mem_append_right _ (List.mem_append_right _ (List.mem_of_getElem? (i := 87) rfl))))) rfl
set_option maxRecDepth 20000 in
theorem q_841 : (Jvm.Cond.instanceMethod ({ cls := "BoilerDeskModel", name := "command", desc := "()V" } : Jvm.MethodName)) ∈ lw_st := st_in (List.mem_append_right _ (List.mem_append_right _ (List.mem_append_right _ (List.mem_append_right _ (List.mem_of_getElem? (i := 89) rfl))))) rfl
set_option maxRecDepth 20000 in
theorem q_842 : (Jvm.Cond.code ({ cls := "BoilerDeskModel", name := "command", desc := "()V" } : Jvm.MethodName) prog_9_method_21_code (6 : Nat) (Option.none : Option Jvm.ClassFile.FieldType)) ∈ lw_st := st_in (List.mem_append_right _ (List.mem_append_right _ (List.mem_append_right _ (List.mem_append_right _ (List.mem_of_getElem? (i := 90) rfl))))) rfl
set_option maxRecDepth 20000 in
theorem q_843 : (Jvm.Cond.methodLink "BoilerDeskLaw" (80 : Nat) ({ cls := "BoilerDeskModel", name := "told", desc := "(I)I" } : Jvm.MethodName)) ∈ lw_st := st_in (List.mem_append_right _ (List.mem_append_right _ (List.mem_append_right _ (List.mem_append_right _ (List.mem_of_getElem? (i := 91) rfl))))) rfl
set_option maxRecDepth 20000 in
theorem q_844 : (Jvm.Cond.instanceMethod ({ cls := "BoilerDeskModel", name := "told", desc := "(I)I" } : Jvm.MethodName)) ∈ lw_st := st_in (List.mem_append_right _ (List.mem_append_right _ (List.mem_append_right _ (List.mem_append_right _ (List.mem_of_getElem? (i := 92) rfl))))) rfl
set_option maxRecDepth 20000 in
theorem q_845 : (Jvm.Cond.selects "BoilerDeskModel" ({ cls := "BoilerDeskModel", name := "told", desc := "(I)I" } : Jvm.MethodName) ({ cls := "BoilerDeskModel", name := "told", desc := "(I)I" } : Jvm.MethodName)) ∈ lw_st := st_in (List.mem_append_right _ (List.mem_append_right _ (List.mem_append_right _ (List.mem_append_right _ (List.mem_of_getElem? (i := 93) rfl))))) rfl
set_option maxRecDepth 20000 in
theorem q_846 : (Jvm.Cond.code ({ cls := "BoilerDeskModel", name := "told", desc := "(I)I" } : Jvm.MethodName) prog_9_method_22_code (2 : Nat) (Option.some Jvm.ClassFile.FieldType.int)) ∈ lw_st := st_in (List.mem_append_right _ (List.mem_append_right _ (List.mem_append_right _ (List.mem_append_right _ (List.mem_of_getElem? (i := 94) rfl))))) rfl
set_option maxRecDepth 20000 in
theorem q_847 : (Jvm.Cond.methodLink "BoilerDeskLaw" (83 : Nat) ({ cls := "BoilerDeskModel", name := "state", desc := "(I)I" } : Jvm.MethodName)) ∈ lw_st := st_in (List.mem_append_right _ (List.mem_append_right _ (List.mem_append_right _ (List.mem_append_right _ (List.mem_of_getElem? (i := 95) rfl))))) rfl
set_option maxRecDepth 20000 in
theorem q_848 : (Jvm.Cond.instanceMethod ({ cls := "BoilerDeskModel", name := "state", desc := "(I)I" } : Jvm.MethodName)) ∈ lw_st := st_in (List.mem_append_right _ (List.mem_append_right _ (List.mem_append_right _ (List.mem_append_right _ (List.mem_of_getElem? (i := 96) rfl))))) rfl
set_option maxRecDepth 20000 in
theorem q_849 : (Jvm.Cond.selects "BoilerDeskModel" ({ cls := "BoilerDeskModel", name := "state", desc := "(I)I" } : Jvm.MethodName) ({ cls := "BoilerDeskModel", name := "state", desc := "(I)I" } : Jvm.MethodName)) ∈ lw_st := st_in (List.mem_append_right _ (List.mem_append_right _ (List.mem_append_right _ (List.mem_append_right _ (List.mem_of_getElem? (i := 97) rfl))))) rfl
set_option maxRecDepth 20000 in
theorem q_850 : (Jvm.Cond.code ({ cls := "BoilerDeskModel", name := "state", desc := "(I)I" } : Jvm.MethodName) prog_9_method_23_code (4 : Nat) (Option.some Jvm.ClassFile.FieldType.int)) ∈ lw_st := st_in (List.mem_append_right _ (List.mem_append_right _ (List.mem_append_right _ (List.mem_append_right _ (List.mem_of_getElem? (i := 98) rfl))))) rfl
set_option maxRecDepth 20000 in
theorem q_851 : (Jvm.Cond.arrayClass Jvm.ClassFile.FieldType.long) ∈ lw_st := st_in (List.mem_append_right _ (List.mem_append_right _ (List.mem_append_right _ (List.mem_append_right _ (List.mem_of_getElem? (i := 99) rfl))))) rfl
