/-! what a throw asks of the tables -/
def thW : List Cond := [Cond.initialized "java/lang/Throwable", Cond.initialized "java/lang/Exception", Cond.initialized "java/lang/RuntimeException", Cond.initialized "java/lang/IllegalArgumentException", Cond.initialized "java/lang/IllegalStateException", Cond.initialized "java/lang/IndexOutOfBoundsException", Cond.methodLink "BillArchive" 1 (⟨"java/lang/Object", "<init>", "()V"⟩ : MethodName), Cond.instanceMethod (⟨"java/lang/Object", "<init>", "()V"⟩ : MethodName), Cond.code (⟨"java/lang/Object", "<init>", "()V"⟩ : MethodName) object_method_1_code 1 none, Cond.methodLink "BillArchive$State" 5 (⟨"java/lang/Object", "<init>", "()V"⟩ : MethodName), Cond.superclass "BillArchive$State" "java/lang/Object", Cond.methodLink "BillArchive$History" 3 (⟨"java/lang/Object", "<init>", "()V"⟩ : MethodName), Cond.superclass "BillArchive$History" "java/lang/Object", Cond.methodLink "BillArchive$RunText" 3 (⟨"java/lang/Object", "<init>", "()V"⟩ : MethodName), Cond.superclass "BillArchive$RunText" "java/lang/Object", Cond.methodLink "BillArchive$Evening" 3 (⟨"java/lang/Object", "<init>", "()V"⟩ : MethodName), Cond.superclass "BillArchive$Evening" "java/lang/Object", Cond.methodLink "BillArchive$Season" 3 (⟨"java/lang/Object", "<init>", "()V"⟩ : MethodName), Cond.superclass "BillArchive$Season" "java/lang/Object", Cond.superclass "BillArchive" "java/lang/Object", Cond.classLink "BillArchiveLaw" 13 "java/lang/IndexOutOfBoundsException", Cond.classLink "BillArchive" 295 "java/lang/IndexOutOfBoundsException", Cond.instantiable "java/lang/IndexOutOfBoundsException" 6, Cond.selects "java/lang/IndexOutOfBoundsException" (⟨"java/lang/Throwable", "fillInStackTrace", "(I)Ljava/lang/Throwable;"⟩ : MethodName) (⟨"java/lang/Throwable", "fillInStackTrace", "(I)Ljava/lang/Throwable;"⟩ : MethodName), Cond.selects "java/lang/IndexOutOfBoundsException" (⟨"java/lang/Throwable", "fillInStackTrace", "()Ljava/lang/Throwable;"⟩ : MethodName) (⟨"java/lang/Throwable", "fillInStackTrace", "()Ljava/lang/Throwable;"⟩ : MethodName), Cond.lays "java/lang/IndexOutOfBoundsException" "java/lang/Throwable" "cause" "Ljava/lang/Throwable;", Cond.lays "java/lang/Throwable" "java/lang/Throwable" "cause" "Ljava/lang/Throwable;", Cond.lays "java/lang/IndexOutOfBoundsException" "java/lang/Throwable" "stackTrace" "[Ljava/lang/StackTraceElement;", Cond.lays "java/lang/Throwable" "java/lang/Throwable" "stackTrace" "[Ljava/lang/StackTraceElement;", Cond.lays "java/lang/IndexOutOfBoundsException" "java/lang/Throwable" "suppressedExceptions" "Ljava/util/List;", Cond.lays "java/lang/Throwable" "java/lang/Throwable" "suppressedExceptions" "Ljava/util/List;", Cond.lays "java/lang/IndexOutOfBoundsException" "java/lang/Throwable" "detailMessage" "Ljava/lang/String;", Cond.lays "java/lang/Throwable" "java/lang/Throwable" "detailMessage" "Ljava/lang/String;", Cond.lays "java/lang/IndexOutOfBoundsException" "java/lang/Throwable" "backtrace" "Ljava/lang/Object;", Cond.lays "java/lang/Throwable" "java/lang/Throwable" "backtrace" "Ljava/lang/Object;", Cond.fieldLink "java/lang/Throwable" 198 "java/lang/Throwable" "backtrace" "Ljava/lang/Object;", Cond.superclass "java/lang/Throwable" "java/lang/Object", Cond.instanceMethod (⟨"java/lang/Throwable", "<init>", "()V"⟩ : MethodName), Cond.code (⟨"java/lang/Throwable", "<init>", "()V"⟩ : MethodName) prog_20_method_1_code 1 none, Cond.methodLink "java/lang/Throwable" 1 (⟨"java/lang/Object", "<init>", "()V"⟩ : MethodName), Cond.fieldLink "java/lang/Throwable" 13 "java/lang/Throwable" "UNASSIGNED_STACK" "[Ljava/lang/StackTraceElement;", Cond.fieldLink "java/lang/Throwable" 20 "java/lang/Throwable" "SUPPRESSED_SENTINEL" "Ljava/util/List;", Cond.methodLink "java/lang/Throwable" 27 (⟨"java/lang/Throwable", "fillInStackTrace", "()Ljava/lang/Throwable;"⟩ : MethodName), Cond.instanceMethod (⟨"java/lang/Throwable", "fillInStackTrace", "()Ljava/lang/Throwable;"⟩ : MethodName), Cond.sameMethod "java/lang/Throwable" "java/lang/Throwable" "fillInStackTrace" "()Ljava/lang/Throwable;", Cond.selects "java/lang/IllegalArgumentException" (⟨"java/lang/Throwable", "fillInStackTrace", "()Ljava/lang/Throwable;"⟩ : MethodName) (⟨"java/lang/Throwable", "fillInStackTrace", "()Ljava/lang/Throwable;"⟩ : MethodName), Cond.selects "java/lang/IllegalStateException" (⟨"java/lang/Throwable", "fillInStackTrace", "()Ljava/lang/Throwable;"⟩ : MethodName) (⟨"java/lang/Throwable", "fillInStackTrace", "()Ljava/lang/Throwable;"⟩ : MethodName), Cond.codeSync (⟨"java/lang/Throwable", "fillInStackTrace", "()Ljava/lang/Throwable;"⟩ : MethodName) prog_20_method_18_code 1 (some (FieldType.object "java/lang/Throwable")), Cond.methodLink "java/lang/Throwable" 202 (⟨"java/lang/Throwable", "fillInStackTrace", "(I)Ljava/lang/Throwable;"⟩ : MethodName), Cond.instanceMethod (⟨"java/lang/Throwable", "fillInStackTrace", "(I)Ljava/lang/Throwable;"⟩ : MethodName), Cond.instantiable "java/lang/Throwable" 6, Cond.native (⟨"java/lang/Throwable", "fillInStackTrace", "(I)Ljava/lang/Throwable;"⟩ : MethodName), Cond.methodLink "BillArchive" 299 (⟨"java/lang/IndexOutOfBoundsException", "<init>", "(Ljava/lang/String;)V"⟩ : MethodName), Cond.instanceMethod (⟨"java/lang/IndexOutOfBoundsException", "<init>", "(Ljava/lang/String;)V"⟩ : MethodName), Cond.code (⟨"java/lang/IndexOutOfBoundsException", "<init>", "(Ljava/lang/String;)V"⟩ : MethodName) prog_12_method_2_code 2 none, Cond.methodLink "java/lang/IndexOutOfBoundsException" 7 (⟨"java/lang/RuntimeException", "<init>", "(Ljava/lang/String;)V"⟩ : MethodName), Cond.instanceMethod (⟨"java/lang/RuntimeException", "<init>", "(Ljava/lang/String;)V"⟩ : MethodName), Cond.code (⟨"java/lang/RuntimeException", "<init>", "(Ljava/lang/String;)V"⟩ : MethodName) prog_15_method_2_code 2 none, Cond.methodLink "java/lang/RuntimeException" 7 (⟨"java/lang/Exception", "<init>", "(Ljava/lang/String;)V"⟩ : MethodName), Cond.instanceMethod (⟨"java/lang/Exception", "<init>", "(Ljava/lang/String;)V"⟩ : MethodName), Cond.code (⟨"java/lang/Exception", "<init>", "(Ljava/lang/String;)V"⟩ : MethodName) prog_9_method_2_code 2 none, Cond.methodLink "java/lang/Exception" 7 (⟨"java/lang/Throwable", "<init>", "(Ljava/lang/String;)V"⟩ : MethodName), Cond.instanceMethod (⟨"java/lang/Throwable", "<init>", "(Ljava/lang/String;)V"⟩ : MethodName), Cond.code (⟨"java/lang/Throwable", "<init>", "(Ljava/lang/String;)V"⟩ : MethodName) prog_20_method_2_code 2 none, Cond.fieldLink "java/lang/Throwable" 31 "java/lang/Throwable" "detailMessage" "Ljava/lang/String;", Cond.fieldLink "java/lang/Throwable" 7 "java/lang/Throwable" "cause" "Ljava/lang/Throwable;", Cond.fieldLink "java/lang/Throwable" 17 "java/lang/Throwable" "stackTrace" "[Ljava/lang/StackTraceElement;", Cond.fieldLink "java/lang/Throwable" 24 "java/lang/Throwable" "suppressedExceptions" "Ljava/util/List;", Cond.soleField "java/lang/Throwable" "backtrace", Cond.soleField "java/lang/Throwable" "detailMessage", Cond.soleField "java/lang/Throwable" "cause", Cond.soleField "java/lang/Throwable" "stackTrace", Cond.lays "java/lang/IndexOutOfBoundsException" "java/lang/Throwable" "depth" "I", Cond.soleField "java/lang/Throwable" "depth", Cond.soleField "java/lang/Throwable" "suppressedExceptions", Cond.superclass "java/lang/IndexOutOfBoundsException" "java/lang/RuntimeException", Cond.classLink "BillArchiveLaw" 20 "java/lang/IllegalArgumentException", Cond.classLink "BillArchiveLaw" 23 "java/lang/IllegalStateException", Cond.classLink "BillArchive" 61 "java/lang/IllegalArgumentException", Cond.instantiable "java/lang/IllegalArgumentException" 6, Cond.selects "java/lang/IllegalArgumentException" (⟨"java/lang/Throwable", "fillInStackTrace", "(I)Ljava/lang/Throwable;"⟩ : MethodName) (⟨"java/lang/Throwable", "fillInStackTrace", "(I)Ljava/lang/Throwable;"⟩ : MethodName), Cond.lays "java/lang/IllegalArgumentException" "java/lang/Throwable" "cause" "Ljava/lang/Throwable;", Cond.lays "java/lang/IllegalArgumentException" "java/lang/Throwable" "stackTrace" "[Ljava/lang/StackTraceElement;", Cond.lays "java/lang/IllegalArgumentException" "java/lang/Throwable" "suppressedExceptions" "Ljava/util/List;", Cond.lays "java/lang/IllegalArgumentException" "java/lang/Throwable" "detailMessage" "Ljava/lang/String;", Cond.lays "java/lang/IllegalArgumentException" "java/lang/Throwable" "backtrace" "Ljava/lang/Object;", Cond.methodLink "BillArchive" 65 (⟨"java/lang/IllegalArgumentException", "<init>", "(Ljava/lang/String;)V"⟩ : MethodName), Cond.instanceMethod (⟨"java/lang/IllegalArgumentException", "<init>", "(Ljava/lang/String;)V"⟩ : MethodName), Cond.code (⟨"java/lang/IllegalArgumentException", "<init>", "(Ljava/lang/String;)V"⟩ : MethodName) prog_10_method_2_code 2 none, Cond.methodLink "java/lang/IllegalArgumentException" 7 (⟨"java/lang/RuntimeException", "<init>", "(Ljava/lang/String;)V"⟩ : MethodName), Cond.lays "java/lang/IllegalArgumentException" "java/lang/Throwable" "depth" "I", Cond.superclass "java/lang/IllegalArgumentException" "java/lang/RuntimeException", Cond.classLink "BillArchive" 72 "java/lang/IllegalStateException", Cond.instantiable "java/lang/IllegalStateException" 6, Cond.selects "java/lang/IllegalStateException" (⟨"java/lang/Throwable", "fillInStackTrace", "(I)Ljava/lang/Throwable;"⟩ : MethodName) (⟨"java/lang/Throwable", "fillInStackTrace", "(I)Ljava/lang/Throwable;"⟩ : MethodName), Cond.lays "java/lang/IllegalStateException" "java/lang/Throwable" "cause" "Ljava/lang/Throwable;", Cond.lays "java/lang/IllegalStateException" "java/lang/Throwable" "stackTrace" "[Ljava/lang/StackTraceElement;", Cond.lays "java/lang/IllegalStateException" "java/lang/Throwable" "suppressedExceptions" "Ljava/util/List;", Cond.lays "java/lang/IllegalStateException" "java/lang/Throwable" "detailMessage" "Ljava/lang/String;", Cond.lays "java/lang/IllegalStateException" "java/lang/Throwable" "backtrace" "Ljava/lang/Object;", Cond.methodLink "BillArchive" 76 (⟨"java/lang/IllegalStateException", "<init>", "(Ljava/lang/String;)V"⟩ : MethodName), Cond.instanceMethod (⟨"java/lang/IllegalStateException", "<init>", "(Ljava/lang/String;)V"⟩ : MethodName), Cond.code (⟨"java/lang/IllegalStateException", "<init>", "(Ljava/lang/String;)V"⟩ : MethodName) prog_11_method_2_code 2 none, Cond.methodLink "java/lang/IllegalStateException" 7 (⟨"java/lang/RuntimeException", "<init>", "(Ljava/lang/String;)V"⟩ : MethodName), Cond.lays "java/lang/IllegalStateException" "java/lang/Throwable" "depth" "I", Cond.superclass "java/lang/IllegalStateException" "java/lang/RuntimeException", Cond.sameMethod "java/lang/Throwable" "java/lang/Throwable" "fillInStackTrace" "(I)Ljava/lang/Throwable;"]
theorem thW_Tw : ∀ w ∈ thW, w ∈ Tw := List.forall_mem_cons.mpr ⟨w_1_7, List.forall_mem_cons.mpr ⟨w_1_8, List.forall_mem_cons.mpr ⟨w_1_9, List.forall_mem_cons.mpr ⟨w_1_10, List.forall_mem_cons.mpr ⟨w_1_11, List.forall_mem_cons.mpr ⟨w_1_17, List.forall_mem_cons.mpr ⟨w_1_25, List.forall_mem_cons.mpr ⟨w_1_26, List.forall_mem_cons.mpr ⟨w_1_27, List.forall_mem_cons.mpr ⟨w_1_33, List.forall_mem_cons.mpr ⟨w_1_41, List.forall_mem_cons.mpr ⟨w_1_48, List.forall_mem_cons.mpr ⟨w_1_58, List.forall_mem_cons.mpr ⟨w_1_64, List.forall_mem_cons.mpr ⟨w_1_71, List.forall_mem_cons.mpr ⟨w_1_78, List.forall_mem_cons.mpr ⟨w_1_109, List.forall_mem_cons.mpr ⟨w_1_115, List.forall_mem_cons.mpr ⟨w_1_127, List.forall_mem_cons.mpr ⟨w_1_158, List.forall_mem_cons.mpr ⟨w_1_162, List.forall_mem_cons.mpr ⟨w_1_175, List.forall_mem_cons.mpr ⟨w_1_176, List.forall_mem_cons.mpr ⟨w_1_184, List.forall_mem_cons.mpr ⟨w_1_185, List.forall_mem_cons.mpr ⟨w_1_186, List.forall_mem_cons.mpr ⟨w_1_187, List.forall_mem_cons.mpr ⟨w_1_188, List.forall_mem_cons.mpr ⟨w_1_189, List.forall_mem_cons.mpr ⟨w_1_190, List.forall_mem_cons.mpr ⟨w_1_191, List.forall_mem_cons.mpr ⟨w_1_192, List.forall_mem_cons.mpr ⟨w_1_193, List.forall_mem_cons.mpr ⟨w_1_194, List.forall_mem_cons.mpr ⟨w_1_195, List.forall_mem_cons.mpr ⟨w_1_229, List.forall_mem_cons.mpr ⟨w_1_197, List.forall_mem_cons.mpr ⟨w_1_198, List.forall_mem_cons.mpr ⟨w_1_199, List.forall_mem_cons.mpr ⟨w_1_200, List.forall_mem_cons.mpr ⟨w_1_201, List.forall_mem_cons.mpr ⟨w_1_203, List.forall_mem_cons.mpr ⟨w_1_205, List.forall_mem_cons.mpr ⟨w_1_206, List.forall_mem_cons.mpr ⟨w_1_207, List.forall_mem_cons.mpr ⟨w_1_208, List.forall_mem_cons.mpr ⟨w_1_209, List.forall_mem_cons.mpr ⟨w_1_210, List.forall_mem_cons.mpr ⟨w_1_211, List.forall_mem_cons.mpr ⟨w_1_213, List.forall_mem_cons.mpr ⟨w_1_214, List.forall_mem_cons.mpr ⟨w_1_215, List.forall_mem_cons.mpr ⟨w_1_217, List.forall_mem_cons.mpr ⟨w_1_218, List.forall_mem_cons.mpr ⟨w_1_219, List.forall_mem_cons.mpr ⟨w_1_220, List.forall_mem_cons.mpr ⟨w_1_221, List.forall_mem_cons.mpr ⟨w_1_222, List.forall_mem_cons.mpr ⟨w_1_223, List.forall_mem_cons.mpr ⟨w_1_224, List.forall_mem_cons.mpr ⟨w_1_225, List.forall_mem_cons.mpr ⟨w_1_226, List.forall_mem_cons.mpr ⟨w_1_227, List.forall_mem_cons.mpr ⟨w_1_228, List.forall_mem_cons.mpr ⟨w_1_230, List.forall_mem_cons.mpr ⟨w_1_231, List.forall_mem_cons.mpr ⟨w_1_232, List.forall_mem_cons.mpr ⟨w_1_233, List.forall_mem_cons.mpr ⟨w_1_234, List.forall_mem_cons.mpr ⟨w_1_235, List.forall_mem_cons.mpr ⟨w_1_236, List.forall_mem_cons.mpr ⟨w_1_237, List.forall_mem_cons.mpr ⟨w_1_238, List.forall_mem_cons.mpr ⟨w_1_239, List.forall_mem_cons.mpr ⟨w_2_0, List.forall_mem_cons.mpr ⟨w_2_1, List.forall_mem_cons.mpr ⟨w_2_47, List.forall_mem_cons.mpr ⟨w_2_48, List.forall_mem_cons.mpr ⟨w_2_53, List.forall_mem_cons.mpr ⟨w_2_54, List.forall_mem_cons.mpr ⟨w_2_56, List.forall_mem_cons.mpr ⟨w_2_57, List.forall_mem_cons.mpr ⟨w_2_58, List.forall_mem_cons.mpr ⟨w_2_59, List.forall_mem_cons.mpr ⟨w_2_60, List.forall_mem_cons.mpr ⟨w_2_61, List.forall_mem_cons.mpr ⟨w_2_63, List.forall_mem_cons.mpr ⟨w_2_64, List.forall_mem_cons.mpr ⟨w_2_65, List.forall_mem_cons.mpr ⟨w_2_66, List.forall_mem_cons.mpr ⟨w_2_67, List.forall_mem_cons.mpr ⟨w_2_68, List.forall_mem_cons.mpr ⟨w_2_73, List.forall_mem_cons.mpr ⟨w_2_74, List.forall_mem_cons.mpr ⟨w_2_76, List.forall_mem_cons.mpr ⟨w_2_77, List.forall_mem_cons.mpr ⟨w_2_78, List.forall_mem_cons.mpr ⟨w_2_79, List.forall_mem_cons.mpr ⟨w_2_80, List.forall_mem_cons.mpr ⟨w_2_81, List.forall_mem_cons.mpr ⟨w_2_83, List.forall_mem_cons.mpr ⟨w_2_84, List.forall_mem_cons.mpr ⟨w_2_85, List.forall_mem_cons.mpr ⟨w_2_86, List.forall_mem_cons.mpr ⟨w_2_87, List.forall_mem_cons.mpr ⟨w_2_88, List.forall_mem_cons.mpr ⟨w_5_73, fun _ h => absurd h List.not_mem_nil⟩⟩⟩⟩⟩⟩⟩⟩⟩⟩⟩⟩⟩⟩⟩⟩⟩⟩⟩⟩⟩⟩⟩⟩⟩⟩⟩⟩⟩⟩⟩⟩⟩⟩⟩⟩⟩⟩⟩⟩⟩⟩⟩⟩⟩⟩⟩⟩⟩⟩⟩⟩⟩⟩⟩⟩⟩⟩⟩⟩⟩⟩⟩⟩⟩⟩⟩⟩⟩⟩⟩⟩⟩⟩⟩⟩⟩⟩⟩⟩⟩⟩⟩⟩⟩⟩⟩⟩⟩⟩⟩⟩⟩⟩⟩⟩⟩⟩⟩⟩⟩⟩⟩⟩⟩⟩⟩
theorem fit_A : Bundle.fit "java/lang/IllegalArgumentException" = true ∧ ∀ n ∈ ["java/lang/RuntimeException", "java/lang/Exception"], Bundle.fit n = true := ⟨by decide +kernel, by decide +kernel⟩
theorem cl_A : Cond.classLink "BillArchive" 61 "java/lang/IllegalArgumentException" ∈ Tw := w_2_53
theorem ini_A : Cond.initialized "java/lang/IllegalArgumentException" ∈ Tw := w_1_10
set_option maxRecDepth 100000 in
theorem atB_A : (vx_atS "BillArchive" 65 "java/lang/IllegalArgumentException" ["java/lang/RuntimeException", "java/lang/Exception"]).all (fun w => decide (w ∈ thW) || decide (w ∈ thL)) = true := by decide +kernel
theorem atS_A : ∀ w ∈ (vx_atS "BillArchive" 65 "java/lang/IllegalArgumentException" ["java/lang/RuntimeException", "java/lang/Exception"]), w ∈ Tw ∨ w ∈ thL := fun w hw => by
  have h := List.all_eq_true.mp atB_A w hw
  rcases Bool.or_eq_true_iff.mp h with h | h
  · exact Or.inl (thW_Tw w (of_decide_eq_true h))
  · exact Or.inr (of_decide_eq_true h)
theorem ot_A : ∀ w ∈ Cond.classLink "BillArchive" 61 "java/lang/IllegalArgumentException" :: Cond.initialized "java/lang/IllegalArgumentException" :: (vx_atS "BillArchive" 65 "java/lang/IllegalArgumentException" ["java/lang/RuntimeException", "java/lang/Exception"]), vx_ot w = true := List.all_eq_true.mp (by decide +kernel)
theorem fit_S : Bundle.fit "java/lang/IllegalStateException" = true ∧ ∀ n ∈ ["java/lang/RuntimeException", "java/lang/Exception"], Bundle.fit n = true := ⟨by decide +kernel, by decide +kernel⟩
theorem cl_S : Cond.classLink "BillArchive" 72 "java/lang/IllegalStateException" ∈ Tw := w_2_73
theorem ini_S : Cond.initialized "java/lang/IllegalStateException" ∈ Tw := w_1_11
set_option maxRecDepth 100000 in
theorem atB_S : (vx_atS "BillArchive" 76 "java/lang/IllegalStateException" ["java/lang/RuntimeException", "java/lang/Exception"]).all (fun w => decide (w ∈ thW) || decide (w ∈ thL)) = true := by decide +kernel
theorem atS_S : ∀ w ∈ (vx_atS "BillArchive" 76 "java/lang/IllegalStateException" ["java/lang/RuntimeException", "java/lang/Exception"]), w ∈ Tw ∨ w ∈ thL := fun w hw => by
  have h := List.all_eq_true.mp atB_S w hw
  rcases Bool.or_eq_true_iff.mp h with h | h
  · exact Or.inl (thW_Tw w (of_decide_eq_true h))
  · exact Or.inr (of_decide_eq_true h)
theorem ot_S : ∀ w ∈ Cond.classLink "BillArchive" 72 "java/lang/IllegalStateException" :: Cond.initialized "java/lang/IllegalStateException" :: (vx_atS "BillArchive" 76 "java/lang/IllegalStateException" ["java/lang/RuntimeException", "java/lang/Exception"]), vx_ot w = true := List.all_eq_true.mp (by decide +kernel)
theorem fit_B : Bundle.fit "java/lang/IndexOutOfBoundsException" = true ∧ ∀ n ∈ ["java/lang/RuntimeException", "java/lang/Exception"], Bundle.fit n = true := ⟨by decide +kernel, by decide +kernel⟩
theorem cl_B : Cond.classLink "BillArchive" 295 "java/lang/IndexOutOfBoundsException" ∈ Tw := w_1_175
theorem ini_B : Cond.initialized "java/lang/IndexOutOfBoundsException" ∈ Tw := w_1_17
set_option maxRecDepth 100000 in
theorem atB_B : (vx_atS "BillArchive" 299 "java/lang/IndexOutOfBoundsException" ["java/lang/RuntimeException", "java/lang/Exception"]).all (fun w => decide (w ∈ thW) || decide (w ∈ thL)) = true := by decide +kernel
theorem atS_B : ∀ w ∈ (vx_atS "BillArchive" 299 "java/lang/IndexOutOfBoundsException" ["java/lang/RuntimeException", "java/lang/Exception"]), w ∈ Tw ∨ w ∈ thL := fun w hw => by
  have h := List.all_eq_true.mp atB_B w hw
  rcases Bool.or_eq_true_iff.mp h with h | h
  · exact Or.inl (thW_Tw w (of_decide_eq_true h))
  · exact Or.inr (of_decide_eq_true h)
theorem ot_B : ∀ w ∈ Cond.classLink "BillArchive" 295 "java/lang/IndexOutOfBoundsException" :: Cond.initialized "java/lang/IndexOutOfBoundsException" :: (vx_atS "BillArchive" 299 "java/lang/IndexOutOfBoundsException" ["java/lang/RuntimeException", "java/lang/Exception"]), vx_ot w = true := List.all_eq_true.mp (by decide +kernel)
theorem th_same {wx wc w ws0 : va_W} {is : List Nat} (hC : is.map (fun i => wx[i]?) = wc.map some) (hw : w = wc) (h : wx = ws0) : mrg wx is w = ws0 ∧ (mrg wx is w).map Prod.fst = ws0.map Prod.fst := by
  subst hw; rw [mrg_self hC]; subst h; exact ⟨rfl, rfl⟩
theorem raw_in {x : Int32} {n : Nat} (h1 : ¬ x < nI 0) (h2 : x < nI n) (hn : n < 2147483648) : vI x n := by
  rw [Int32.lt_iff_toInt_lt, nI_toInt (by decide)] at h1
  rw [Int32.lt_iff_toInt_lt, nI_toInt hn] at h2
  exact ⟨by omega, h2⟩
theorem raw_le {x : Int32} {n : Nat} (h1 : ¬ x < nI 0) (h2 : x ≤ nI n) (hn : n < 2147483647) : vI x (n + 1) := by
  rw [Int32.lt_iff_toInt_lt, nI_toInt (by decide)] at h1
  rw [Int32.le_iff_toInt_le, nI_toInt (by omega)] at h2
  exact ⟨by omega, by omega⟩
theorem raw_J {x : Int32} {n : Nat} (h1 : ¬ x < nI 1) (h2 : x ≤ nI n) (hn : n < 2147483647) : vJ x n := by
  rw [Int32.lt_iff_toInt_lt, nI_toInt (by decide)] at h1
  rw [Int32.le_iff_toInt_le, nI_toInt (by omega)] at h2
  exact ⟨by omega, by omega⟩
theorem raw_out {x : Int32} {n : Nat} {k : Int} (hk : k = (n : Int) - 1) (h : ¬ vI x n) : x.toInt < 0 ∨ k < x.toInt := by
  unfold vI at h
  omega
theorem bP_no {p : Prop} [Decidable p] (h : ¬ p) : bP p = nI 0 := (bP_f h).symm
theorem z32 : (0 : Int32) = nI 0 := rfl
set_option maxRecDepth 100000 in
set_option maxHeartbeats 1000000 in
theorem c_X5_requireNight__t {l : Launch} {E : Ev} (hst : l.stackTraces = false) {n : Int32} (hx : ¬ vI n 20) : Th l E yX5_requireNight cX5_requireNight 1 none 6 90 [.int n] [] (fun w9 => w9 = []) "java/lang/IndexOutOfBoundsException" := by
  refine th_of hst (by decide +kernel) (Nat.le_of_ble_eq_true rfl) (fun ω C TZ TQ => ?_)
  show ω [] [(0, .int n)] [] 0
  refine r_iload_n C (i := 0) 0 dX5_requireNight_0 rfl rfl ?_
  refine r_readS (rest := []) C (c_X5_hasNight__r (x := n) ) lk_X5_hasNight w_2_6 [] dX5_requireNight_1 rfl rfl rfl ⟨by decide, by decide⟩ (Nat.le_of_ble_eq_true rfl) (st' := [.int (bP (vI n 20))]) rfl ?_
  refine r_if_neF C (y := 0) (tgt := 18) dX5_requireNight_4 (by decide) (fun z => (hx : ¬ (vI n 20)) (z_neB.mp z)) ?_
  exact TZ.2 _ _ _ 7 _ _ _ 1 _ _ fit_B.1 fit_B.2 cl_B ini_B rfl atS_B ot_B dX5_requireNight_7 dX5_requireNight_10 dX5_requireNight_11 dX5_requireNight_14 dX5_requireNight_17 (by decide) (Nat.le_of_ble_eq_true rfl) rfl rfl
set_option maxRecDepth 100000 in
set_option maxHeartbeats 1000000 in
theorem c_X5_requirePart__t {l : Launch} {E : Ev} (hst : l.stackTraces = false) {hB b1 b2 b3 b4 b5 b6 b7 b8 b9 b10 : Nat} {c1 : Nat} {f : Nat → Int32} {σ : Sg} (hR : RepC σ f) (hW : Wf σ) {p : Int32} (hx : ¬ vI p (sP σ)) : Th l E yX5_requirePart cX5_requirePart 2 none 6 90 [.ref hB, .int p] [(hB, .inr (5, [.ref b1, .ref b2, .ref b3, .ref b4, .ref b5, .ref b6, .ref b7, .ref b8, .ref b9, .ref b10])), (b1, .inr (4, [.ref c1])), (c1, .inl (eI E, 265, .inl f))] (fun w9 => w9 = [(hB, .inr (5, [.ref b1, .ref b2, .ref b3, .ref b4, .ref b5, .ref b6, .ref b7, .ref b8, .ref b9, .ref b10])), (b1, .inr (4, [.ref c1])), (c1, .inl (eI E, 265, .inl f))]) "java/lang/IndexOutOfBoundsException" := by
  have hwP := hW.P
  have hwA := hW.A
  have hwS := hW.S
  refine th_of hst (by decide +kernel) (Nat.le_of_ble_eq_true rfl) (fun ω C TZ TQ => ?_)
  show ω [(hB, .inr (5, [.ref b1, .ref b2, .ref b3, .ref b4, .ref b5, .ref b6, .ref b7, .ref b8, .ref b9, .ref b10])), (b1, .inr (4, [.ref c1])), (c1, .inl (eI E, 265, .inl f))] [(0, .ref hB), (1, .int p)] [] 0
  refine r_aload_n C (i := 0) 0 dX5_requirePart_0 rfl rfl ?_
  refine r_get C 0 0 uX5 rfl rfl (by decide) w_1_128 rfl dX5_requirePart_1 ?_
  refine r_iload_n C (i := 1) 1 dX5_requirePart_4 rfl rfl ?_
  refine r_readV (rest := []) C (c_X4_hasPart__r (h0 := b1) (q1 := c1) (f := f) (σ := σ) (x := p) (hR := hR) (hW := hW)) lk_X4_hasPart w_3_187 [1, 2] rfl dX5_requirePart_5 rfl rfl rfl rfl ⟨by decide, by decide⟩ (Nat.le_of_ble_eq_true rfl) (st' := [.int (bP (vI p (sP σ)))]) rfl ?_
  refine r_if_neF C (y := 0) (tgt := 22) dX5_requirePart_8 (by decide) (fun z => (hx : ¬ (vI p (sP σ))) (z_neB.mp z)) ?_
  exact TZ.2 _ _ _ 11 _ _ _ 12 _ _ fit_B.1 fit_B.2 cl_B ini_B rfl atS_B ot_B dX5_requirePart_11 dX5_requirePart_14 dX5_requirePart_15 dX5_requirePart_18 dX5_requirePart_21 (by decide) (Nat.le_of_ble_eq_true rfl) rfl rfl
set_option maxRecDepth 100000 in
set_option maxHeartbeats 1000000 in
theorem c_X5_requireActor__t {l : Launch} {E : Ev} (hst : l.stackTraces = false) {hB b1 b2 b3 b4 b5 b6 b7 b8 b9 b10 : Nat} {c1 : Nat} {f : Nat → Int32} {σ : Sg} (hR : RepC σ f) (hW : Wf σ) {a : Int32} (hx : ¬ vI a (sA σ)) : Th l E yX5_requireActor cX5_requireActor 2 none 6 90 [.ref hB, .int a] [(hB, .inr (5, [.ref b1, .ref b2, .ref b3, .ref b4, .ref b5, .ref b6, .ref b7, .ref b8, .ref b9, .ref b10])), (b1, .inr (4, [.ref c1])), (c1, .inl (eI E, 265, .inl f))] (fun w9 => w9 = [(hB, .inr (5, [.ref b1, .ref b2, .ref b3, .ref b4, .ref b5, .ref b6, .ref b7, .ref b8, .ref b9, .ref b10])), (b1, .inr (4, [.ref c1])), (c1, .inl (eI E, 265, .inl f))]) "java/lang/IndexOutOfBoundsException" := by
  have hwP := hW.P
  have hwA := hW.A
  have hwS := hW.S
  refine th_of hst (by decide +kernel) (Nat.le_of_ble_eq_true rfl) (fun ω C TZ TQ => ?_)
  show ω [(hB, .inr (5, [.ref b1, .ref b2, .ref b3, .ref b4, .ref b5, .ref b6, .ref b7, .ref b8, .ref b9, .ref b10])), (b1, .inr (4, [.ref c1])), (c1, .inl (eI E, 265, .inl f))] [(0, .ref hB), (1, .int a)] [] 0
  refine r_aload_n C (i := 0) 0 dX5_requireActor_0 rfl rfl ?_
  refine r_get C 0 0 uX5 rfl rfl (by decide) w_1_128 rfl dX5_requireActor_1 ?_
  refine r_iload_n C (i := 1) 1 dX5_requireActor_4 rfl rfl ?_
  refine r_readV (rest := []) C (c_X4_hasActor__r (h0 := b1) (q1 := c1) (f := f) (σ := σ) (x := a) (hR := hR) (hW := hW)) lk_X4_hasActor w_1_171 [1, 2] rfl dX5_requireActor_5 rfl rfl rfl rfl ⟨by decide, by decide⟩ (Nat.le_of_ble_eq_true rfl) (st' := [.int (bP (vI a (sA σ)))]) rfl ?_
  refine r_if_neF C (y := 0) (tgt := 22) dX5_requireActor_8 (by decide) (fun z => (hx : ¬ (vI a (sA σ))) (z_neB.mp z)) ?_
  exact TZ.2 _ _ _ 11 _ _ _ 0 _ _ fit_B.1 fit_B.2 cl_B ini_B rfl atS_B ot_B dX5_requireActor_11 dX5_requireActor_14 dX5_requireActor_15 dX5_requireActor_18 dX5_requireActor_21 (by decide) (Nat.le_of_ble_eq_true rfl) rfl rfl
set_option maxRecDepth 100000 in
set_option maxHeartbeats 1000000 in
theorem c_X5_requireSlip__t {l : Launch} {E : Ev} (hst : l.stackTraces = false) {hB b1 b2 b3 b4 b5 b6 b7 b8 b9 b10 : Nat} {c1 : Nat} {f : Nat → Int32} {σ : Sg} (hR : RepC σ f) (hW : Wf σ) {k : Int32} (hx : ¬ vI k (sS σ)) : Th l E yX5_requireSlip cX5_requireSlip 2 none 6 90 [.ref hB, .int k] [(hB, .inr (5, [.ref b1, .ref b2, .ref b3, .ref b4, .ref b5, .ref b6, .ref b7, .ref b8, .ref b9, .ref b10])), (b1, .inr (4, [.ref c1])), (c1, .inl (eI E, 265, .inl f))] (fun w9 => w9 = [(hB, .inr (5, [.ref b1, .ref b2, .ref b3, .ref b4, .ref b5, .ref b6, .ref b7, .ref b8, .ref b9, .ref b10])), (b1, .inr (4, [.ref c1])), (c1, .inl (eI E, 265, .inl f))]) "java/lang/IndexOutOfBoundsException" := by
  have hwP := hW.P
  have hwA := hW.A
  have hwS := hW.S
  refine th_of hst (by decide +kernel) (Nat.le_of_ble_eq_true rfl) (fun ω C TZ TQ => ?_)
  show ω [(hB, .inr (5, [.ref b1, .ref b2, .ref b3, .ref b4, .ref b5, .ref b6, .ref b7, .ref b8, .ref b9, .ref b10])), (b1, .inr (4, [.ref c1])), (c1, .inl (eI E, 265, .inl f))] [(0, .ref hB), (1, .int k)] [] 0
  refine r_aload_n C (i := 0) 0 dX5_requireSlip_0 rfl rfl ?_
  refine r_get C 0 0 uX5 rfl rfl (by decide) w_1_128 rfl dX5_requireSlip_1 ?_
  refine r_iload_n C (i := 1) 1 dX5_requireSlip_4 rfl rfl ?_
  refine r_readV (rest := []) C (c_X4_hasSlip__r (h0 := b1) (q1 := c1) (f := f) (σ := σ) (x := k) (hR := hR) (hW := hW)) lk_X4_hasSlip w_4_37 [1, 2] rfl dX5_requireSlip_5 rfl rfl rfl rfl ⟨by decide, by decide⟩ (Nat.le_of_ble_eq_true rfl) (st' := [.int (bP (vI k (sS σ)))]) rfl ?_
  refine r_if_neF C (y := 0) (tgt := 22) dX5_requireSlip_8 (by decide) (fun z => (hx : ¬ (vI k (sS σ))) (z_neB.mp z)) ?_
  exact TZ.2 _ _ _ 11 _ _ _ 17 _ _ fit_B.1 fit_B.2 cl_B ini_B rfl atS_B ot_B dX5_requireSlip_11 dX5_requireSlip_14 dX5_requireSlip_15 dX5_requireSlip_18 dX5_requireSlip_21 (by decide) (Nat.le_of_ble_eq_true rfl) rfl rfl
set_option maxRecDepth 100000 in
set_option maxHeartbeats 1000000 in
theorem c_X5_requireSetting__t {l : Launch} {E : Ev} (hst : l.stackTraces = false) {w : Int32} (hx : ¬ vI w 2) : Th l E yX5_requireSetting cX5_requireSetting 1 none 6 90 [.int w] [] (fun w9 => w9 = []) "java/lang/IllegalArgumentException" := by
  refine th_of hst (by decide +kernel) (Nat.le_of_ble_eq_true rfl) (fun ω C TZ TQ => ?_)
  show ω [] [(0, .int w)] [] 0
  refine r_iload_n C (i := 0) 0 dX5_requireSetting_0 rfl rfl ?_
  refine r_if_lt C (y := 0) (c9 := w < nI 0) 9 dX5_requireSetting_1 (by decide) Iff.rfl (fun h1_1 => ?_) (fun h1_1 => ?_)
  · exact TZ.2 _ _ _ 9 _ _ _ 18 _ _ fit_A.1 fit_A.2 cl_A ini_A rfl atS_A ot_A dX5_requireSetting_9 dX5_requireSetting_12 dX5_requireSetting_13 dX5_requireSetting_16 dX5_requireSetting_19 (by decide) (Nat.le_of_ble_eq_true rfl) rfl rfl
  · refine r_iload_n C (i := 0) 0 dX5_requireSetting_4 rfl rfl ?_
    refine r_iconst C dX5_requireSetting_5 ki_2 ?_
    refine r_icmp_lt C (c9 := w < nI 2) 20 dX5_requireSetting_6 (by decide) Iff.rfl (fun h6_2 => ?_) (fun h6_2 => ?_)
    · exact absurd (raw_in h1_1 h6_2 (by decide)) hx
    · exact TZ.2 _ _ _ 9 _ _ _ 18 _ _ fit_A.1 fit_A.2 cl_A ini_A rfl atS_A ot_A dX5_requireSetting_9 dX5_requireSetting_12 dX5_requireSetting_13 dX5_requireSetting_16 dX5_requireSetting_19 (by decide) (Nat.le_of_ble_eq_true rfl) rfl rfl
set_option maxRecDepth 100000 in
set_option maxHeartbeats 1000000 in
theorem c_X5_requireSlot__t {l : Launch} {E : Ev} (hst : l.stackTraces = false) {w : Int32} (hx : ¬ vI w 2) : Th l E yX5_requireSlot cX5_requireSlot 1 none 6 90 [.int w] [] (fun w9 => w9 = []) "java/lang/IndexOutOfBoundsException" := by
  refine th_of hst (by decide +kernel) (Nat.le_of_ble_eq_true rfl) (fun ω C TZ TQ => ?_)
  show ω [] [(0, .int w)] [] 0
  refine r_iload_n C (i := 0) 0 dX5_requireSlot_0 rfl rfl ?_
  refine r_if_lt C (y := 0) (c9 := w < nI 0) 9 dX5_requireSlot_1 (by decide) Iff.rfl (fun h1_1 => ?_) (fun h1_1 => ?_)
  · exact TZ.2 _ _ _ 9 _ _ _ 29 _ _ fit_B.1 fit_B.2 cl_B ini_B rfl atS_B ot_B dX5_requireSlot_9 dX5_requireSlot_12 dX5_requireSlot_13 dX5_requireSlot_16 dX5_requireSlot_19 (by decide) (Nat.le_of_ble_eq_true rfl) rfl rfl
  · refine r_iload_n C (i := 0) 0 dX5_requireSlot_4 rfl rfl ?_
    refine r_iconst C dX5_requireSlot_5 ki_2 ?_
    refine r_icmp_lt C (c9 := w < nI 2) 20 dX5_requireSlot_6 (by decide) Iff.rfl (fun h6_2 => ?_) (fun h6_2 => ?_)
    · exact absurd (raw_in h1_1 h6_2 (by decide)) hx
    · exact TZ.2 _ _ _ 9 _ _ _ 29 _ _ fit_B.1 fit_B.2 cl_B ini_B rfl atS_B ot_B dX5_requireSlot_9 dX5_requireSlot_12 dX5_requireSlot_13 dX5_requireSlot_16 dX5_requireSlot_19 (by decide) (Nat.le_of_ble_eq_true rfl) rfl rfl
set_option maxRecDepth 100000 in
set_option maxHeartbeats 1000000 in
theorem c_X5_append__ta {l : Launch} {E : Ev} (hst : l.stackTraces = false) {hB b1 b2 b3 b4 b5 b6 b7 b8 b9 b10 : Nat} {c6 sz : Nat} {tx : Nat → Int32} {c : Int32} (hx : ¬ vI c 256) : Th l E yX5_append cX5_append 2 (some FieldType.int) 6 90 [.ref hB, .int c] [(hB, .inr (5, [.ref b1, .ref b2, .ref b3, .ref b4, .ref b5, .ref b6, .ref b7, .ref b8, .ref b9, .ref b10])), (b6, .inr (2, [.ref c6, .int (nI sz)])), (c6, .inl (eI E, 120, .inl tx))] (fun w9 => w9 = [(hB, .inr (5, [.ref b1, .ref b2, .ref b3, .ref b4, .ref b5, .ref b6, .ref b7, .ref b8, .ref b9, .ref b10])), (b6, .inr (2, [.ref c6, .int (nI sz)])), (c6, .inl (eI E, 120, .inl tx))]) "java/lang/IllegalArgumentException" := by
  refine th_of hst (by decide +kernel) (Nat.le_of_ble_eq_true rfl) (fun ω C TZ TQ => ?_)
  show ω [(hB, .inr (5, [.ref b1, .ref b2, .ref b3, .ref b4, .ref b5, .ref b6, .ref b7, .ref b8, .ref b9, .ref b10])), (b6, .inr (2, [.ref c6, .int (nI sz)])), (c6, .inl (eI E, 120, .inl tx))] [(0, .ref hB), (1, .int c)] [] 0
  refine r_iload_n C (i := 1) 1 dX5_append_0 rfl rfl ?_
  refine r_if_lt C (y := 0) (c9 := c < nI 0) 11 dX5_append_1 (by decide) Iff.rfl (fun h1_1 => ?_) (fun h1_1 => ?_)
  · exact TZ.1 _ _ _ 11 _ _ _ 2 _ _ fit_A.1 fit_A.2 cl_A ini_A rfl atS_A ot_A dX5_append_11 dX5_append_14 dX5_append_15 dX5_append_17 dX5_append_20 (by decide) (Nat.le_of_ble_eq_true rfl) rfl rfl
  · refine r_iload_n C (i := 1) 1 dX5_append_4 rfl rfl ?_
    refine r_sipush C dX5_append_5 ks_255 ?_
    refine r_icmp_le C (c9 := c ≤ nI 255) 21 dX5_append_8 (by decide) Iff.rfl (fun h8_2 => ?_) (fun h8_2 => ?_)
    · exact absurd (raw_le h1_1 h8_2 (by decide)) hx
    · exact TZ.1 _ _ _ 11 _ _ _ 2 _ _ fit_A.1 fit_A.2 cl_A ini_A rfl atS_A ot_A dX5_append_11 dX5_append_14 dX5_append_15 dX5_append_17 dX5_append_20 (by decide) (Nat.le_of_ble_eq_true rfl) rfl rfl
set_option maxRecDepth 100000 in
set_option maxHeartbeats 1000000 in
theorem c_X5_append__tb {l : Launch} {E : Ev} (hst : l.stackTraces = false) {hB b1 b2 b3 b4 b5 b6 b7 b8 b9 b10 : Nat} {c6 sz : Nat} {tx : Nat → Int32} {c : Nat} (hc : c < 256) (hx : sz = 120) : Th l E yX5_append cX5_append 2 (some FieldType.int) 6 90 [.ref hB, .int (nI c)] [(hB, .inr (5, [.ref b1, .ref b2, .ref b3, .ref b4, .ref b5, .ref b6, .ref b7, .ref b8, .ref b9, .ref b10])), (b6, .inr (2, [.ref c6, .int (nI sz)])), (c6, .inl (eI E, 120, .inl tx))] (fun w9 => w9 = [(hB, .inr (5, [.ref b1, .ref b2, .ref b3, .ref b4, .ref b5, .ref b6, .ref b7, .ref b8, .ref b9, .ref b10])), (b6, .inr (2, [.ref c6, .int (nI sz)])), (c6, .inl (eI E, 120, .inl tx))]) "java/lang/IllegalStateException" := by
  refine th_of hst (by decide +kernel) (Nat.le_of_ble_eq_true rfl) (fun ω C TZ TQ => ?_)
  show ω [(hB, .inr (5, [.ref b1, .ref b2, .ref b3, .ref b4, .ref b5, .ref b6, .ref b7, .ref b8, .ref b9, .ref b10])), (b6, .inr (2, [.ref c6, .int (nI sz)])), (c6, .inl (eI E, 120, .inl tx))] [(0, .ref hB), (1, .int (nI c))] [] 0
  refine r_iload_n C (i := 1) 1 dX5_append_0 rfl rfl ?_
  refine r_if_ltF C (y := 0) (tgt := 11) dX5_append_1 (by decide) (fun z => ((by omega) : ¬ (c < 0)) ((z_ltN (by omega)).mp z)) ?_
  refine r_iload_n C (i := 1) 1 dX5_append_4 rfl rfl ?_
  refine r_sipush C dX5_append_5 ks_255 ?_
  refine r_icmp_leT C 21 dX5_append_8 (by decide) ((c_leNN (by omega) (by omega)).mpr (by omega)) ?_
  refine r_aload_n C (i := 0) 0 dX5_append_21 rfl rfl ?_
  refine r_get C 0 5 uX5 rfl rfl (by decide) w_1_133 rfl dX5_append_22 ?_
  refine r_readV (rest := []) C (c_X2_isFull (b6 := b6) (c6 := c6) (sz := sz) (tx := tx) (hz := (by omega))) lk_X2_isFull w_2_69 [1, 2] rfl dX5_append_25 rfl rfl rfl rfl ⟨by decide, by decide⟩ (Nat.le_of_ble_eq_true rfl) (st' := [.int (bP (120 ≤ sz))]) rfl ?_
  refine r_if_eqF C (y := 0) (tgt := 41) dX5_append_28 (by decide) (fun z => ((by omega) : ¬ (¬ (120 ≤ sz))) (z_eqB.mp z)) ?_
  exact TZ.1 _ _ _ 31 _ _ _ 3 _ _ fit_S.1 fit_S.2 cl_S ini_S rfl atS_S ot_S dX5_append_31 dX5_append_34 dX5_append_35 dX5_append_37 dX5_append_40 (by decide) (Nat.le_of_ble_eq_true rfl) rfl rfl
set_option maxRecDepth 100000 in
set_option maxHeartbeats 1000000 in
theorem c_X5_about__t {l : Launch} {E : Ev} (hst : l.stackTraces = false) {hB b1 b2 b3 b4 b5 b6 b7 b8 b9 b10 : Nat} {c1 : Nat} {f : Nat → Int32} {σ : Sg} (hR : RepC σ f) (hW : Wf σ) {w : Int32} (hx : ¬ vI w 7) : Th l E yX5_about cX5_about 2 (some FieldType.int) 6 117 [.ref hB, .int w] [(hB, .inr (5, [.ref b1, .ref b2, .ref b3, .ref b4, .ref b5, .ref b6, .ref b7, .ref b8, .ref b9, .ref b10])), (b1, .inr (4, [.ref c1])), (c1, .inl (eI E, 265, .inl f))] (fun w9 => w9 = [(hB, .inr (5, [.ref b1, .ref b2, .ref b3, .ref b4, .ref b5, .ref b6, .ref b7, .ref b8, .ref b9, .ref b10])), (b1, .inr (4, [.ref c1])), (c1, .inl (eI E, 265, .inl f))]) "java/lang/IllegalArgumentException" := by
  have hwP := hW.P
  have hwA := hW.A
  have hwS := hW.S
  refine th_of hst (by decide +kernel) (Nat.le_of_ble_eq_true rfl) (fun ω C TZ TQ => ?_)
  show ω [(hB, .inr (5, [.ref b1, .ref b2, .ref b3, .ref b4, .ref b5, .ref b6, .ref b7, .ref b8, .ref b9, .ref b10])), (b1, .inr (4, [.ref c1])), (c1, .inl (eI E, 265, .inl f))] [(0, .ref hB), (1, .int w)] [] 0
  refine r_iload_n C (i := 1) 1 dX5_about_0 rfl rfl ?_
  refine r_tabOut C 116 dX5_about_1 (raw_out (n := 7) (by decide) hx) (by decide) ?_
  exact TZ.1 _ _ _ 116 _ _ _ 11 _ _ fit_A.1 fit_A.2 cl_A ini_A rfl atS_A ot_A dX5_about_116 dX5_about_119 dX5_about_120 dX5_about_122 dX5_about_125 (by decide) (Nat.le_of_ble_eq_true rfl) rfl rfl
set_option maxRecDepth 100000 in
set_option maxHeartbeats 1000000 in
theorem c_X5_played__ta {l : Launch} {E : Ev} (hst : l.stackTraces = false) {hB b1 b2 b3 b4 b5 b6 b7 b8 b9 b10 : Nat} {c1 : Nat} {f : Nat → Int32} {σ : Sg} (hR : RepC σ f) (hW : Wf σ) {n p : Int32} (hx : ¬ vI n 20) : Th l E yX5_played cX5_played 3 (some FieldType.int) 7 111 [.ref hB, .int n, .int p] [(hB, .inr (5, [.ref b1, .ref b2, .ref b3, .ref b4, .ref b5, .ref b6, .ref b7, .ref b8, .ref b9, .ref b10])), (b1, .inr (4, [.ref c1])), (c1, .inl (eI E, 265, .inl f))] (fun w9 => w9 = [(hB, .inr (5, [.ref b1, .ref b2, .ref b3, .ref b4, .ref b5, .ref b6, .ref b7, .ref b8, .ref b9, .ref b10])), (b1, .inr (4, [.ref c1])), (c1, .inl (eI E, 265, .inl f))]) "java/lang/IndexOutOfBoundsException" := by
  have hwP := hW.P
  have hwA := hW.A
  have hwS := hW.S
  refine th_of hst (by decide +kernel) (Nat.le_of_ble_eq_true rfl) (fun ω C TZ TQ => ?_)
  show ω [(hB, .inr (5, [.ref b1, .ref b2, .ref b3, .ref b4, .ref b5, .ref b6, .ref b7, .ref b8, .ref b9, .ref b10])), (b1, .inr (4, [.ref c1])), (c1, .inl (eI E, 265, .inl f))] [(0, .ref hB), (1, .int n), (2, .int p)] [] 0
  refine r_iload_n C (i := 1) 1 dX5_played_0 rfl rfl ?_
  exact TQ.1 _ _ _ _ [] _ 1 _ _ _ _ _ _ _ _ [] (c_X5_requireNight__t (hst := hst) (n := n) (hx := hx)) lk_X5_requireNight w_2_3 dX5_played_1 rfl rfl rfl ⟨by decide, by decide⟩ (Nat.le_of_ble_eq_true rfl) (fun w hw _ => th_same rfl hw rfl)
set_option maxRecDepth 100000 in
set_option maxHeartbeats 1000000 in
theorem c_X5_played__tb {l : Launch} {E : Ev} (hst : l.stackTraces = false) {hB b1 b2 b3 b4 b5 b6 b7 b8 b9 b10 : Nat} {c1 : Nat} {f : Nat → Int32} {σ : Sg} (hR : RepC σ f) (hW : Wf σ) {n : Nat} {p : Int32} (h1 : n < 20) (hx : ¬ vI p (sP σ)) : Th l E yX5_played cX5_played 3 (some FieldType.int) 7 111 [.ref hB, .int (nI n), .int p] [(hB, .inr (5, [.ref b1, .ref b2, .ref b3, .ref b4, .ref b5, .ref b6, .ref b7, .ref b8, .ref b9, .ref b10])), (b1, .inr (4, [.ref c1])), (c1, .inl (eI E, 265, .inl f))] (fun w9 => w9 = [(hB, .inr (5, [.ref b1, .ref b2, .ref b3, .ref b4, .ref b5, .ref b6, .ref b7, .ref b8, .ref b9, .ref b10])), (b1, .inr (4, [.ref c1])), (c1, .inl (eI E, 265, .inl f))]) "java/lang/IndexOutOfBoundsException" := by
  have hwP := hW.P
  have hwA := hW.A
  have hwS := hW.S
  refine th_of hst (by decide +kernel) (Nat.le_of_ble_eq_true rfl) (fun ω C TZ TQ => ?_)
  show ω [(hB, .inr (5, [.ref b1, .ref b2, .ref b3, .ref b4, .ref b5, .ref b6, .ref b7, .ref b8, .ref b9, .ref b10])), (b1, .inr (4, [.ref c1])), (c1, .inl (eI E, 265, .inl f))] [(0, .ref hB), (1, .int (nI n)), (2, .int p)] [] 0
  refine r_iload_n C (i := 1) 1 dX5_played_0 rfl rfl ?_
  refine r_readS (rest := []) C (c_X5_requireNight (n := n) (hn := (by omega))) lk_X5_requireNight w_2_3 [] dX5_played_1 rfl rfl rfl ⟨by decide, by decide⟩ (Nat.le_of_ble_eq_true rfl) (st' := []) rfl ?_
  refine r_aload_n C (i := 0) 0 dX5_played_4 rfl rfl ?_
  refine r_iload_n C (i := 2) 2 dX5_played_5 rfl rfl ?_
  exact TQ.2 _ _ _ _ [] _ 6 _ _ _ _ _ 5 _ _ _ _ _ [0, 1, 2] _ _ (c_X5_requirePart__t (hst := hst) (hB := hB) (b1 := b1) (b2 := b2) (b3 := b3) (b4 := b4) (b5 := b5) (b6 := b6) (b7 := b7) (b8 := b8) (b9 := b9) (b10 := b10) (c1 := c1) (f := f) (σ := σ) (p := p) (hR := hR) (hW := hW) (hx := hx)) lk_X5_requirePart w_3_183 rfl dX5_played_6 rfl rfl rfl rfl ⟨by decide, by decide⟩ (Nat.le_of_ble_eq_true rfl) (fun w hw _ => th_same rfl hw rfl)
set_option maxRecDepth 100000 in
set_option maxHeartbeats 1000000 in
theorem c_X5_bill__ta {l : Launch} {E : Ev} (hst : l.stackTraces = false) {hB b1 b2 b3 b4 b5 b6 b7 b8 b9 b10 : Nat} {c1 : Nat} {f : Nat → Int32} {σ : Sg} (hR : RepC σ f) (hW : Wf σ) {n p : Int32} {w : Int32} (hx : ¬ vI n 20) : Th l E yX5_bill cX5_bill 4 (some FieldType.int) 7 111 [.ref hB, .int n, .int p, .int w] [(hB, .inr (5, [.ref b1, .ref b2, .ref b3, .ref b4, .ref b5, .ref b6, .ref b7, .ref b8, .ref b9, .ref b10])), (b1, .inr (4, [.ref c1])), (c1, .inl (eI E, 265, .inl f))] (fun w9 => w9 = [(hB, .inr (5, [.ref b1, .ref b2, .ref b3, .ref b4, .ref b5, .ref b6, .ref b7, .ref b8, .ref b9, .ref b10])), (b1, .inr (4, [.ref c1])), (c1, .inl (eI E, 265, .inl f))]) "java/lang/IndexOutOfBoundsException" := by
  have hwP := hW.P
  have hwA := hW.A
  have hwS := hW.S
  refine th_of hst (by decide +kernel) (Nat.le_of_ble_eq_true rfl) (fun ω C TZ TQ => ?_)
  show ω [(hB, .inr (5, [.ref b1, .ref b2, .ref b3, .ref b4, .ref b5, .ref b6, .ref b7, .ref b8, .ref b9, .ref b10])), (b1, .inr (4, [.ref c1])), (c1, .inl (eI E, 265, .inl f))] [(0, .ref hB), (1, .int n), (2, .int p), (3, .int w)] [] 0
  refine r_iload_n C (i := 1) 1 dX5_bill_0 rfl rfl ?_
  exact TQ.1 _ _ _ _ [] _ 1 _ _ _ _ _ _ _ _ [] (c_X5_requireNight__t (hst := hst) (n := n) (hx := hx)) lk_X5_requireNight w_2_3 dX5_bill_1 rfl rfl rfl ⟨by decide, by decide⟩ (Nat.le_of_ble_eq_true rfl) (fun w hw _ => th_same rfl hw rfl)
set_option maxRecDepth 100000 in
set_option maxHeartbeats 1000000 in
theorem c_X5_bill__tb {l : Launch} {E : Ev} (hst : l.stackTraces = false) {hB b1 b2 b3 b4 b5 b6 b7 b8 b9 b10 : Nat} {c1 : Nat} {f : Nat → Int32} {σ : Sg} (hR : RepC σ f) (hW : Wf σ) {n : Nat} {p : Int32} {w : Int32} (h1 : n < 20) (hx : ¬ vI p (sP σ)) : Th l E yX5_bill cX5_bill 4 (some FieldType.int) 7 111 [.ref hB, .int (nI n), .int p, .int w] [(hB, .inr (5, [.ref b1, .ref b2, .ref b3, .ref b4, .ref b5, .ref b6, .ref b7, .ref b8, .ref b9, .ref b10])), (b1, .inr (4, [.ref c1])), (c1, .inl (eI E, 265, .inl f))] (fun w9 => w9 = [(hB, .inr (5, [.ref b1, .ref b2, .ref b3, .ref b4, .ref b5, .ref b6, .ref b7, .ref b8, .ref b9, .ref b10])), (b1, .inr (4, [.ref c1])), (c1, .inl (eI E, 265, .inl f))]) "java/lang/IndexOutOfBoundsException" := by
  have hwP := hW.P
  have hwA := hW.A
  have hwS := hW.S
  refine th_of hst (by decide +kernel) (Nat.le_of_ble_eq_true rfl) (fun ω C TZ TQ => ?_)
  show ω [(hB, .inr (5, [.ref b1, .ref b2, .ref b3, .ref b4, .ref b5, .ref b6, .ref b7, .ref b8, .ref b9, .ref b10])), (b1, .inr (4, [.ref c1])), (c1, .inl (eI E, 265, .inl f))] [(0, .ref hB), (1, .int (nI n)), (2, .int p), (3, .int w)] [] 0
  refine r_iload_n C (i := 1) 1 dX5_bill_0 rfl rfl ?_
  refine r_readS (rest := []) C (c_X5_requireNight (n := n) (hn := (by omega))) lk_X5_requireNight w_2_3 [] dX5_bill_1 rfl rfl rfl ⟨by decide, by decide⟩ (Nat.le_of_ble_eq_true rfl) (st' := []) rfl ?_
  refine r_aload_n C (i := 0) 0 dX5_bill_4 rfl rfl ?_
  refine r_iload_n C (i := 2) 2 dX5_bill_5 rfl rfl ?_
  exact TQ.2 _ _ _ _ [] _ 6 _ _ _ _ _ 5 _ _ _ _ _ [0, 1, 2] _ _ (c_X5_requirePart__t (hst := hst) (hB := hB) (b1 := b1) (b2 := b2) (b3 := b3) (b4 := b4) (b5 := b5) (b6 := b6) (b7 := b7) (b8 := b8) (b9 := b9) (b10 := b10) (c1 := c1) (f := f) (σ := σ) (p := p) (hR := hR) (hW := hW) (hx := hx)) lk_X5_requirePart w_3_183 rfl dX5_bill_6 rfl rfl rfl rfl ⟨by decide, by decide⟩ (Nat.le_of_ble_eq_true rfl) (fun w hw _ => th_same rfl hw rfl)
set_option maxRecDepth 100000 in
set_option maxHeartbeats 1000000 in
theorem c_X5_bill__tc {l : Launch} {E : Ev} (hst : l.stackTraces = false) {hB b1 b2 b3 b4 b5 b6 b7 b8 b9 b10 : Nat} {c1 : Nat} {f : Nat → Int32} {σ : Sg} (hR : RepC σ f) (hW : Wf σ) {e1 e2 e3 par fre pri sls drk pla tks : Nat} {t1 t2 t3 : Nat → Int32} {n p : Nat} {w : Int32} (hn : n < 20) (hp : p < sP σ) (hx : ¬ vI w 4) : Th l E yX5_bill cX5_bill 4 (some FieldType.int) 7 111 [.ref hB, .int (nI n), .int (nI p), .int w] [(hB, .inr (5, [.ref b1, .ref b2, .ref b3, .ref b4, .ref b5, .ref b6, .ref b7, .ref b8, .ref b9, .ref b10])), (b1, .inr (4, [.ref c1])), (c1, .inl (eI E, 265, .inl f)), (b7, .inr (0, [.ref e1, .ref e2, .ref e3, .int (nI par), .int (nI fre), .int (nI pri), .int (nI sls), .int (nI drk), .int (nI pla), .int (nI tks)])), (e1, .inl (eI E, 6, .inl t1)), (e2, .inl (eI E, 6, .inl t2)), (e3, .inl (eI E, 6, .inl t3))] (fun w9 => ∃ (par2 fre2 pri2 sls2 drk2 pla2 tks2 : Nat) (ta tb tc : Nat → Int32), w9 = [(hB, .inr (5, [.ref b1, .ref b2, .ref b3, .ref b4, .ref b5, .ref b6, .ref b7, .ref b8, .ref b9, .ref b10])), (b1, .inr (4, [.ref c1])), (c1, .inl (eI E, 265, .inl f)), (b7, .inr (0, [.ref e1, .ref e2, .ref e3, .int (nI par2), .int (nI fre2), .int (nI pri2), .int (nI sls2), .int (nI drk2), .int (nI pla2), .int (nI tks2)])), (e1, .inl (eI E, 6, .inl ta)), (e2, .inl (eI E, 6, .inl tb)), (e3, .inl (eI E, 6, .inl tc))]) "java/lang/IllegalArgumentException" := by
  have hwP := hW.P
  have hwA := hW.A
  have hwS := hW.S
  refine th_of hst (by decide +kernel) (Nat.le_of_ble_eq_true rfl) (fun ω C TZ TQ => ?_)
  show ω [(hB, .inr (5, [.ref b1, .ref b2, .ref b3, .ref b4, .ref b5, .ref b6, .ref b7, .ref b8, .ref b9, .ref b10])), (b1, .inr (4, [.ref c1])), (c1, .inl (eI E, 265, .inl f)), (b7, .inr (0, [.ref e1, .ref e2, .ref e3, .int (nI par), .int (nI fre), .int (nI pri), .int (nI sls), .int (nI drk), .int (nI pla), .int (nI tks)])), (e1, .inl (eI E, 6, .inl t1)), (e2, .inl (eI E, 6, .inl t2)), (e3, .inl (eI E, 6, .inl t3))] [(0, .ref hB), (1, .int (nI n)), (2, .int (nI p)), (3, .int w)] [] 0
  refine r_iload_n C (i := 1) 1 dX5_bill_0 rfl rfl ?_
  refine r_readS (rest := []) C (c_X5_requireNight (n := n) (hn := (by omega))) lk_X5_requireNight w_2_3 [] dX5_bill_1 rfl rfl rfl ⟨by decide, by decide⟩ (Nat.le_of_ble_eq_true rfl) (st' := []) rfl ?_
  refine r_aload_n C (i := 0) 0 dX5_bill_4 rfl rfl ?_
  refine r_iload_n C (i := 2) 2 dX5_bill_5 rfl rfl ?_
  refine r_readV (rest := []) C (c_X5_requirePart (hB := hB) (b1 := b1) (b2 := b2) (b3 := b3) (b4 := b4) (b5 := b5) (b6 := b6) (b7 := b7) (b8 := b8) (b9 := b9) (b10 := b10) (c1 := c1) (f := f) (σ := σ) (p := p) (hR := hR) (hW := hW) (hx := (by omega))) lk_X5_requirePart w_3_183 [0, 1, 2] rfl dX5_bill_6 rfl rfl rfl rfl ⟨by decide, by decide⟩ (Nat.le_of_ble_eq_true rfl) (st' := []) rfl ?_
  refine r_aload_n C (i := 0) 0 dX5_bill_9 rfl rfl ?_
  refine r_get C 0 6 uX5 rfl rfl (by decide) w_1_134 rfl dX5_bill_10 ?_
  refine r_aload_n C (i := 0) 0 dX5_bill_13 rfl rfl ?_
  refine r_get C 0 0 uX5 rfl rfl (by decide) w_1_128 rfl dX5_bill_14 ?_
  refine r_iload_n C (i := 1) 1 dX5_bill_17 rfl rfl ?_
  refine r_callV (rest := []) C (c_X0_workOut (hE := b7) (e1 := e1) (e2 := e2) (e3 := e3) (par := par) (fre := fre) (pri := pri) (sls := sls) (drk := drk) (pla := pla) (tks := tks) (t1 := t1) (t2 := t2) (t3 := t3) (h0 := b1) (q1 := c1) (f := f) (σ := σ) (n := n) (hR := hR) (hW := hW) (hn := (by omega))) lk_X0_workOut w_3_145 [3, 4, 5, 6, 1, 2] rfl dX5_bill_18 rfl rfl rfl rfl ⟨by decide, by decide⟩ (Nat.le_of_ble_eq_true rfl) ?_
  rintro _ _ ⟨par_1, fre_2, pri_3, sls_4, drk_5, pla_6, tks_7, ta_8, tb_9, tc_10, rfl, rfl, hEv_11⟩
  show ω [(hB, .inr (5, [.ref b1, .ref b2, .ref b3, .ref b4, .ref b5, .ref b6, .ref b7, .ref b8, .ref b9, .ref b10])), (b1, .inr (4, [.ref c1])), (c1, .inl (eI E, 265, .inl f)), (b7, .inr (0, [.ref e1, .ref e2, .ref e3, .int (nI par_1), .int (nI fre_2), .int (nI pri_3), .int (nI sls_4), .int (nI drk_5), .int (nI pla_6), .int (nI tks_7)])), (e1, .inl (eI E, 6, .inl ta_8)), (e2, .inl (eI E, 6, .inl tb_9)), (e3, .inl (eI E, 6, .inl tc_10))] [(0, .ref hB), (1, .int (nI n)), (2, .int (nI p)), (3, .int w)] [] 21
  refine r_iload_n C (i := 3) 3 dX5_bill_21 rfl rfl ?_
  refine r_tabOut C 90 dX5_bill_22 (raw_out (n := 4) (by decide) hx) (by decide) ?_
  exact TZ.1 _ _ _ 90 _ _ _ 13 _ _ fit_A.1 fit_A.2 cl_A ini_A rfl atS_A ot_A dX5_bill_90 dX5_bill_93 dX5_bill_94 dX5_bill_96 dX5_bill_99 (by decide) (Nat.le_of_ble_eq_true rfl) ⟨_, _, _, _, _, _, _, _, _, _, rfl⟩ rfl
set_option maxRecDepth 100000 in
set_option maxHeartbeats 1000000 in
theorem c_X5_night__ta {l : Launch} {E : Ev} (hst : l.stackTraces = false) {hB b1 b2 b3 b4 b5 b6 b7 b8 b9 b10 : Nat} {c1 : Nat} {f : Nat → Int32} {σ : Sg} (hR : RepC σ f) (hW : Wf σ) {n w : Int32} (hx : ¬ vI n 20) : Th l E yX5_night cX5_night 3 (some FieldType.int) 7 110 [.ref hB, .int n, .int w] [(hB, .inr (5, [.ref b1, .ref b2, .ref b3, .ref b4, .ref b5, .ref b6, .ref b7, .ref b8, .ref b9, .ref b10])), (b1, .inr (4, [.ref c1])), (c1, .inl (eI E, 265, .inl f))] (fun w9 => w9 = [(hB, .inr (5, [.ref b1, .ref b2, .ref b3, .ref b4, .ref b5, .ref b6, .ref b7, .ref b8, .ref b9, .ref b10])), (b1, .inr (4, [.ref c1])), (c1, .inl (eI E, 265, .inl f))]) "java/lang/IndexOutOfBoundsException" := by
  have hwP := hW.P
  have hwA := hW.A
  have hwS := hW.S
  refine th_of hst (by decide +kernel) (Nat.le_of_ble_eq_true rfl) (fun ω C TZ TQ => ?_)
  show ω [(hB, .inr (5, [.ref b1, .ref b2, .ref b3, .ref b4, .ref b5, .ref b6, .ref b7, .ref b8, .ref b9, .ref b10])), (b1, .inr (4, [.ref c1])), (c1, .inl (eI E, 265, .inl f))] [(0, .ref hB), (1, .int n), (2, .int w)] [] 0
  refine r_iload_n C (i := 1) 1 dX5_night_0 rfl rfl ?_
  exact TQ.1 _ _ _ _ [] _ 1 _ _ _ _ _ _ _ _ [] (c_X5_requireNight__t (hst := hst) (n := n) (hx := hx)) lk_X5_requireNight w_2_3 dX5_night_1 rfl rfl rfl ⟨by decide, by decide⟩ (Nat.le_of_ble_eq_true rfl) (fun w hw _ => th_same rfl hw rfl)
set_option maxRecDepth 100000 in
set_option maxHeartbeats 1000000 in
theorem c_X5_night__tb {l : Launch} {E : Ev} (hst : l.stackTraces = false) {hB b1 b2 b3 b4 b5 b6 b7 b8 b9 b10 : Nat} {c1 : Nat} {f : Nat → Int32} {σ : Sg} (hR : RepC σ f) (hW : Wf σ) {e1 e2 e3 par fre pri sls drk pla tks : Nat} {t1 t2 t3 : Nat → Int32} {n : Nat} {w : Int32} (hn : n < 20) (hx : ¬ vI w 5) : Th l E yX5_night cX5_night 3 (some FieldType.int) 7 110 [.ref hB, .int (nI n), .int w] [(hB, .inr (5, [.ref b1, .ref b2, .ref b3, .ref b4, .ref b5, .ref b6, .ref b7, .ref b8, .ref b9, .ref b10])), (b1, .inr (4, [.ref c1])), (c1, .inl (eI E, 265, .inl f)), (b7, .inr (0, [.ref e1, .ref e2, .ref e3, .int (nI par), .int (nI fre), .int (nI pri), .int (nI sls), .int (nI drk), .int (nI pla), .int (nI tks)])), (e1, .inl (eI E, 6, .inl t1)), (e2, .inl (eI E, 6, .inl t2)), (e3, .inl (eI E, 6, .inl t3))] (fun w9 => ∃ (par2 fre2 pri2 sls2 drk2 pla2 tks2 : Nat) (ta tb tc : Nat → Int32), w9 = [(hB, .inr (5, [.ref b1, .ref b2, .ref b3, .ref b4, .ref b5, .ref b6, .ref b7, .ref b8, .ref b9, .ref b10])), (b1, .inr (4, [.ref c1])), (c1, .inl (eI E, 265, .inl f)), (b7, .inr (0, [.ref e1, .ref e2, .ref e3, .int (nI par2), .int (nI fre2), .int (nI pri2), .int (nI sls2), .int (nI drk2), .int (nI pla2), .int (nI tks2)])), (e1, .inl (eI E, 6, .inl ta)), (e2, .inl (eI E, 6, .inl tb)), (e3, .inl (eI E, 6, .inl tc))]) "java/lang/IllegalArgumentException" := by
  have hwP := hW.P
  have hwA := hW.A
  have hwS := hW.S
  refine th_of hst (by decide +kernel) (Nat.le_of_ble_eq_true rfl) (fun ω C TZ TQ => ?_)
  show ω [(hB, .inr (5, [.ref b1, .ref b2, .ref b3, .ref b4, .ref b5, .ref b6, .ref b7, .ref b8, .ref b9, .ref b10])), (b1, .inr (4, [.ref c1])), (c1, .inl (eI E, 265, .inl f)), (b7, .inr (0, [.ref e1, .ref e2, .ref e3, .int (nI par), .int (nI fre), .int (nI pri), .int (nI sls), .int (nI drk), .int (nI pla), .int (nI tks)])), (e1, .inl (eI E, 6, .inl t1)), (e2, .inl (eI E, 6, .inl t2)), (e3, .inl (eI E, 6, .inl t3))] [(0, .ref hB), (1, .int (nI n)), (2, .int w)] [] 0
  refine r_iload_n C (i := 1) 1 dX5_night_0 rfl rfl ?_
  refine r_readS (rest := []) C (c_X5_requireNight (n := n) (hn := (by omega))) lk_X5_requireNight w_2_3 [] dX5_night_1 rfl rfl rfl ⟨by decide, by decide⟩ (Nat.le_of_ble_eq_true rfl) (st' := []) rfl ?_
  refine r_aload_n C (i := 0) 0 dX5_night_4 rfl rfl ?_
  refine r_get C 0 6 uX5 rfl rfl (by decide) w_1_134 rfl dX5_night_5 ?_
  refine r_aload_n C (i := 0) 0 dX5_night_8 rfl rfl ?_
  refine r_get C 0 0 uX5 rfl rfl (by decide) w_1_128 rfl dX5_night_9 ?_
  refine r_iload_n C (i := 1) 1 dX5_night_12 rfl rfl ?_
  refine r_callV (rest := []) C (c_X0_workOut (hE := b7) (e1 := e1) (e2 := e2) (e3 := e3) (par := par) (fre := fre) (pri := pri) (sls := sls) (drk := drk) (pla := pla) (tks := tks) (t1 := t1) (t2 := t2) (t3 := t3) (h0 := b1) (q1 := c1) (f := f) (σ := σ) (n := n) (hR := hR) (hW := hW) (hn := (by omega))) lk_X0_workOut w_3_145 [3, 4, 5, 6, 1, 2] rfl dX5_night_13 rfl rfl rfl rfl ⟨by decide, by decide⟩ (Nat.le_of_ble_eq_true rfl) ?_
  rintro _ _ ⟨par_1, fre_2, pri_3, sls_4, drk_5, pla_6, tks_7, ta_8, tb_9, tc_10, rfl, rfl, hEv_11⟩
  show ω [(hB, .inr (5, [.ref b1, .ref b2, .ref b3, .ref b4, .ref b5, .ref b6, .ref b7, .ref b8, .ref b9, .ref b10])), (b1, .inr (4, [.ref c1])), (c1, .inl (eI E, 265, .inl f)), (b7, .inr (0, [.ref e1, .ref e2, .ref e3, .int (nI par_1), .int (nI fre_2), .int (nI pri_3), .int (nI sls_4), .int (nI drk_5), .int (nI pla_6), .int (nI tks_7)])), (e1, .inl (eI E, 6, .inl ta_8)), (e2, .inl (eI E, 6, .inl tb_9)), (e3, .inl (eI E, 6, .inl tc_10))] [(0, .ref hB), (1, .int (nI n)), (2, .int w)] [] 16
  refine r_iload_n C (i := 2) 2 dX5_night_16 rfl rfl ?_
  refine r_tabOut C 99 dX5_night_17 (raw_out (n := 5) (by decide) hx) (by decide) ?_
  exact TZ.1 _ _ _ 99 _ _ _ 14 _ _ fit_A.1 fit_A.2 cl_A ini_A rfl atS_A ot_A dX5_night_99 dX5_night_102 dX5_night_103 dX5_night_105 dX5_night_108 (by decide) (Nat.le_of_ble_eq_true rfl) ⟨_, _, _, _, _, _, _, _, _, _, rfl⟩ rfl
set_option maxRecDepth 100000 in
set_option maxHeartbeats 1000000 in
theorem c_X5_actor__ta {l : Launch} {E : Ev} (hst : l.stackTraces = false) {hB b1 b2 b3 b4 b5 b6 b7 b8 b9 b10 : Nat} {c1 : Nat} {f : Nat → Int32} {σ : Sg} (hR : RepC σ f) (hW : Wf σ) {a w : Int32} (hx : ¬ vI a (sA σ)) : Th l E yX5_actor cX5_actor 3 (some FieldType.int) 7 119 [.ref hB, .int a, .int w] [(hB, .inr (5, [.ref b1, .ref b2, .ref b3, .ref b4, .ref b5, .ref b6, .ref b7, .ref b8, .ref b9, .ref b10])), (b1, .inr (4, [.ref c1])), (c1, .inl (eI E, 265, .inl f))] (fun w9 => w9 = [(hB, .inr (5, [.ref b1, .ref b2, .ref b3, .ref b4, .ref b5, .ref b6, .ref b7, .ref b8, .ref b9, .ref b10])), (b1, .inr (4, [.ref c1])), (c1, .inl (eI E, 265, .inl f))]) "java/lang/IndexOutOfBoundsException" := by
  have hwP := hW.P
  have hwA := hW.A
  have hwS := hW.S
  refine th_of hst (by decide +kernel) (Nat.le_of_ble_eq_true rfl) (fun ω C TZ TQ => ?_)
  show ω [(hB, .inr (5, [.ref b1, .ref b2, .ref b3, .ref b4, .ref b5, .ref b6, .ref b7, .ref b8, .ref b9, .ref b10])), (b1, .inr (4, [.ref c1])), (c1, .inl (eI E, 265, .inl f))] [(0, .ref hB), (1, .int a), (2, .int w)] [] 0
  refine r_aload_n C (i := 0) 0 dX5_actor_0 rfl rfl ?_
  refine r_iload_n C (i := 1) 1 dX5_actor_1 rfl rfl ?_
  exact TQ.2 _ _ _ _ [] _ 2 _ _ _ _ _ 5 _ _ _ _ _ [0, 1, 2] _ _ (c_X5_requireActor__t (hst := hst) (hB := hB) (b1 := b1) (b2 := b2) (b3 := b3) (b4 := b4) (b5 := b5) (b6 := b6) (b7 := b7) (b8 := b8) (b9 := b9) (b10 := b10) (c1 := c1) (f := f) (σ := σ) (a := a) (hR := hR) (hW := hW) (hx := hx)) lk_X5_requireActor w_1_167 rfl dX5_actor_2 rfl rfl rfl rfl ⟨by decide, by decide⟩ (Nat.le_of_ble_eq_true rfl) (fun w hw _ => th_same rfl hw rfl)
set_option maxRecDepth 100000 in
set_option maxHeartbeats 1000000 in
theorem c_X5_actor__tb {l : Launch} {E : Ev} (hst : l.stackTraces = false) {hB b1 b2 b3 b4 b5 b6 b7 b8 b9 b10 : Nat} {c1 : Nat} {f : Nat → Int32} {σ : Sg} (hR : RepC σ f) (hW : Wf σ) {a : Nat} {w : Int32} (ha : a < sA σ) (hx : ¬ vI w 6) : Th l E yX5_actor cX5_actor 3 (some FieldType.int) 7 119 [.ref hB, .int (nI a), .int w] [(hB, .inr (5, [.ref b1, .ref b2, .ref b3, .ref b4, .ref b5, .ref b6, .ref b7, .ref b8, .ref b9, .ref b10])), (b1, .inr (4, [.ref c1])), (c1, .inl (eI E, 265, .inl f))] (fun w9 => w9 = [(hB, .inr (5, [.ref b1, .ref b2, .ref b3, .ref b4, .ref b5, .ref b6, .ref b7, .ref b8, .ref b9, .ref b10])), (b1, .inr (4, [.ref c1])), (c1, .inl (eI E, 265, .inl f))]) "java/lang/IllegalArgumentException" := by
  have hwP := hW.P
  have hwA := hW.A
  have hwS := hW.S
  refine th_of hst (by decide +kernel) (Nat.le_of_ble_eq_true rfl) (fun ω C TZ TQ => ?_)
  show ω [(hB, .inr (5, [.ref b1, .ref b2, .ref b3, .ref b4, .ref b5, .ref b6, .ref b7, .ref b8, .ref b9, .ref b10])), (b1, .inr (4, [.ref c1])), (c1, .inl (eI E, 265, .inl f))] [(0, .ref hB), (1, .int (nI a)), (2, .int w)] [] 0
  refine r_aload_n C (i := 0) 0 dX5_actor_0 rfl rfl ?_
  refine r_iload_n C (i := 1) 1 dX5_actor_1 rfl rfl ?_
  refine r_readV (rest := []) C (c_X5_requireActor (hB := hB) (b1 := b1) (b2 := b2) (b3 := b3) (b4 := b4) (b5 := b5) (b6 := b6) (b7 := b7) (b8 := b8) (b9 := b9) (b10 := b10) (c1 := c1) (f := f) (σ := σ) (a := a) (hR := hR) (hW := hW) (hx := (by omega))) lk_X5_requireActor w_1_167 [0, 1, 2] rfl dX5_actor_2 rfl rfl rfl rfl ⟨by decide, by decide⟩ (Nat.le_of_ble_eq_true rfl) (st' := []) rfl ?_
  refine r_iload_n C (i := 2) 2 dX5_actor_5 rfl rfl ?_
  refine r_tabOut C 95 dX5_actor_6 (raw_out (n := 6) (by decide) hx) (by decide) ?_
  exact TZ.1 _ _ _ 95 _ _ _ 15 _ _ fit_A.1 fit_A.2 cl_A ini_A rfl atS_A ot_A dX5_actor_95 dX5_actor_98 dX5_actor_99 dX5_actor_101 dX5_actor_104 (by decide) (Nat.le_of_ble_eq_true rfl) rfl rfl
set_option maxRecDepth 100000 in
set_option maxHeartbeats 1000000 in
theorem c_X5_ranked__ta {l : Launch} {E : Ev} (hst : l.stackTraces = false) {hB b1 b2 b3 b4 b5 b6 b7 b8 b9 b10 : Nat} {c1 : Nat} {f : Nat → Int32} {σ : Sg} (hR : RepC σ f) (hW : Wf σ) {p k : Int32} (hx : ¬ vI p (sP σ)) : Th l E yX5_ranked cX5_ranked 3 (some FieldType.int) 7 111 [.ref hB, .int p, .int k] [(hB, .inr (5, [.ref b1, .ref b2, .ref b3, .ref b4, .ref b5, .ref b6, .ref b7, .ref b8, .ref b9, .ref b10])), (b1, .inr (4, [.ref c1])), (c1, .inl (eI E, 265, .inl f))] (fun w9 => w9 = [(hB, .inr (5, [.ref b1, .ref b2, .ref b3, .ref b4, .ref b5, .ref b6, .ref b7, .ref b8, .ref b9, .ref b10])), (b1, .inr (4, [.ref c1])), (c1, .inl (eI E, 265, .inl f))]) "java/lang/IndexOutOfBoundsException" := by
  have hwP := hW.P
  have hwA := hW.A
  have hwS := hW.S
  refine th_of hst (by decide +kernel) (Nat.le_of_ble_eq_true rfl) (fun ω C TZ TQ => ?_)
  show ω [(hB, .inr (5, [.ref b1, .ref b2, .ref b3, .ref b4, .ref b5, .ref b6, .ref b7, .ref b8, .ref b9, .ref b10])), (b1, .inr (4, [.ref c1])), (c1, .inl (eI E, 265, .inl f))] [(0, .ref hB), (1, .int p), (2, .int k)] [] 0
  refine r_aload_n C (i := 0) 0 dX5_ranked_0 rfl rfl ?_
  refine r_iload_n C (i := 1) 1 dX5_ranked_1 rfl rfl ?_
  exact TQ.2 _ _ _ _ [] _ 2 _ _ _ _ _ 5 _ _ _ _ _ [0, 1, 2] _ _ (c_X5_requirePart__t (hst := hst) (hB := hB) (b1 := b1) (b2 := b2) (b3 := b3) (b4 := b4) (b5 := b5) (b6 := b6) (b7 := b7) (b8 := b8) (b9 := b9) (b10 := b10) (c1 := c1) (f := f) (σ := σ) (p := p) (hR := hR) (hW := hW) (hx := hx)) lk_X5_requirePart w_3_183 rfl dX5_ranked_2 rfl rfl rfl rfl ⟨by decide, by decide⟩ (Nat.le_of_ble_eq_true rfl) (fun w hw _ => th_same rfl hw rfl)
set_option maxRecDepth 100000 in
set_option maxHeartbeats 1000000 in
theorem c_X5_ranked__tb {l : Launch} {E : Ev} (hst : l.stackTraces = false) {hB b1 b2 b3 b4 b5 b6 b7 b8 b9 b10 : Nat} {c1 : Nat} {f : Nat → Int32} {σ : Sg} (hR : RepC σ f) (hW : Wf σ) {p : Nat} {k : Int32} (hp : p < sP σ) (hx : k < 0) : Th l E yX5_ranked cX5_ranked 3 (some FieldType.int) 7 111 [.ref hB, .int (nI p), .int k] [(hB, .inr (5, [.ref b1, .ref b2, .ref b3, .ref b4, .ref b5, .ref b6, .ref b7, .ref b8, .ref b9, .ref b10])), (b1, .inr (4, [.ref c1])), (c1, .inl (eI E, 265, .inl f))] (fun w9 => w9 = [(hB, .inr (5, [.ref b1, .ref b2, .ref b3, .ref b4, .ref b5, .ref b6, .ref b7, .ref b8, .ref b9, .ref b10])), (b1, .inr (4, [.ref c1])), (c1, .inl (eI E, 265, .inl f))]) "java/lang/IllegalArgumentException" := by
  have hwP := hW.P
  have hwA := hW.A
  have hwS := hW.S
  refine th_of hst (by decide +kernel) (Nat.le_of_ble_eq_true rfl) (fun ω C TZ TQ => ?_)
  show ω [(hB, .inr (5, [.ref b1, .ref b2, .ref b3, .ref b4, .ref b5, .ref b6, .ref b7, .ref b8, .ref b9, .ref b10])), (b1, .inr (4, [.ref c1])), (c1, .inl (eI E, 265, .inl f))] [(0, .ref hB), (1, .int (nI p)), (2, .int k)] [] 0
  refine r_aload_n C (i := 0) 0 dX5_ranked_0 rfl rfl ?_
  refine r_iload_n C (i := 1) 1 dX5_ranked_1 rfl rfl ?_
  refine r_readV (rest := []) C (c_X5_requirePart (hB := hB) (b1 := b1) (b2 := b2) (b3 := b3) (b4 := b4) (b5 := b5) (b6 := b6) (b7 := b7) (b8 := b8) (b9 := b9) (b10 := b10) (c1 := c1) (f := f) (σ := σ) (p := p) (hR := hR) (hW := hW) (hx := (by omega))) lk_X5_requirePart w_3_183 [0, 1, 2] rfl dX5_ranked_2 rfl rfl rfl rfl ⟨by decide, by decide⟩ (Nat.le_of_ble_eq_true rfl) (st' := []) rfl ?_
  refine r_iload_n C (i := 2) 2 dX5_ranked_5 rfl rfl ?_
  refine r_if_geF C (y := 0) (tgt := 19) dX5_ranked_6 (by decide) (fun z => ((fun z => Int32.lt_irrefl (Int32.lt_of_lt_of_le hx z)) : ¬ (0 ≤ k)) (Iff.rfl.mp z)) ?_
  exact TZ.1 _ _ _ 9 _ _ _ 16 _ _ fit_A.1 fit_A.2 cl_A ini_A rfl atS_A ot_A dX5_ranked_9 dX5_ranked_12 dX5_ranked_13 dX5_ranked_15 dX5_ranked_18 (by decide) (Nat.le_of_ble_eq_true rfl) rfl rfl
set_option maxRecDepth 100000 in
set_option maxHeartbeats 1000000 in
theorem c_X5_found__ta {l : Launch} {E : Ev} (hst : l.stackTraces = false) {hB b1 b2 b3 b4 b5 b6 b7 b8 b9 b10 : Nat} {c1 : Nat} {f : Nat → Int32} {σ : Sg} (hR : RepC σ f) (hW : Wf σ) {k w : Int32} (hx : ¬ vI k (sS σ)) : Th l E yX5_found cX5_found 3 (some FieldType.int) 7 111 [.ref hB, .int k, .int w] [(hB, .inr (5, [.ref b1, .ref b2, .ref b3, .ref b4, .ref b5, .ref b6, .ref b7, .ref b8, .ref b9, .ref b10])), (b1, .inr (4, [.ref c1])), (c1, .inl (eI E, 265, .inl f))] (fun w9 => w9 = [(hB, .inr (5, [.ref b1, .ref b2, .ref b3, .ref b4, .ref b5, .ref b6, .ref b7, .ref b8, .ref b9, .ref b10])), (b1, .inr (4, [.ref c1])), (c1, .inl (eI E, 265, .inl f))]) "java/lang/IndexOutOfBoundsException" := by
  have hwP := hW.P
  have hwA := hW.A
  have hwS := hW.S
  refine th_of hst (by decide +kernel) (Nat.le_of_ble_eq_true rfl) (fun ω C TZ TQ => ?_)
  show ω [(hB, .inr (5, [.ref b1, .ref b2, .ref b3, .ref b4, .ref b5, .ref b6, .ref b7, .ref b8, .ref b9, .ref b10])), (b1, .inr (4, [.ref c1])), (c1, .inl (eI E, 265, .inl f))] [(0, .ref hB), (1, .int k), (2, .int w)] [] 0
  refine r_aload_n C (i := 0) 0 dX5_found_0 rfl rfl ?_
  refine r_iload_n C (i := 1) 1 dX5_found_1 rfl rfl ?_
  exact TQ.2 _ _ _ _ [] _ 2 _ _ _ _ _ 5 _ _ _ _ _ [0, 1, 2] _ _ (c_X5_requireSlip__t (hst := hst) (hB := hB) (b1 := b1) (b2 := b2) (b3 := b3) (b4 := b4) (b5 := b5) (b6 := b6) (b7 := b7) (b8 := b8) (b9 := b9) (b10 := b10) (c1 := c1) (f := f) (σ := σ) (k := k) (hR := hR) (hW := hW) (hx := hx)) lk_X5_requireSlip w_4_33 rfl dX5_found_2 rfl rfl rfl rfl ⟨by decide, by decide⟩ (Nat.le_of_ble_eq_true rfl) (fun w hw _ => th_same rfl hw rfl)
set_option maxRecDepth 100000 in
set_option maxHeartbeats 1000000 in
theorem c_X5_found__tb {l : Launch} {E : Ev} (hst : l.stackTraces = false) {hB b1 b2 b3 b4 b5 b6 b7 b8 b9 b10 : Nat} {c1 : Nat} {f : Nat → Int32} {σ : Sg} (hR : RepC σ f) (hW : Wf σ) {k : Nat} {w : Int32} (hk : k < sS σ) (hx : ¬ vI w 5) : Th l E yX5_found cX5_found 3 (some FieldType.int) 7 111 [.ref hB, .int (nI k), .int w] [(hB, .inr (5, [.ref b1, .ref b2, .ref b3, .ref b4, .ref b5, .ref b6, .ref b7, .ref b8, .ref b9, .ref b10])), (b1, .inr (4, [.ref c1])), (c1, .inl (eI E, 265, .inl f))] (fun w9 => w9 = [(hB, .inr (5, [.ref b1, .ref b2, .ref b3, .ref b4, .ref b5, .ref b6, .ref b7, .ref b8, .ref b9, .ref b10])), (b1, .inr (4, [.ref c1])), (c1, .inl (eI E, 265, .inl f))]) "java/lang/IllegalArgumentException" := by
  have hwP := hW.P
  have hwA := hW.A
  have hwS := hW.S
  refine th_of hst (by decide +kernel) (Nat.le_of_ble_eq_true rfl) (fun ω C TZ TQ => ?_)
  show ω [(hB, .inr (5, [.ref b1, .ref b2, .ref b3, .ref b4, .ref b5, .ref b6, .ref b7, .ref b8, .ref b9, .ref b10])), (b1, .inr (4, [.ref c1])), (c1, .inl (eI E, 265, .inl f))] [(0, .ref hB), (1, .int (nI k)), (2, .int w)] [] 0
  refine r_aload_n C (i := 0) 0 dX5_found_0 rfl rfl ?_
  refine r_iload_n C (i := 1) 1 dX5_found_1 rfl rfl ?_
  refine r_readV (rest := []) C (c_X5_requireSlip (hB := hB) (b1 := b1) (b2 := b2) (b3 := b3) (b4 := b4) (b5 := b5) (b6 := b6) (b7 := b7) (b8 := b8) (b9 := b9) (b10 := b10) (c1 := c1) (f := f) (σ := σ) (k := k) (hR := hR) (hW := hW) (hx := (by omega))) lk_X5_requireSlip w_4_33 [0, 1, 2] rfl dX5_found_2 rfl rfl rfl rfl ⟨by decide, by decide⟩ (Nat.le_of_ble_eq_true rfl) (st' := []) rfl ?_
  refine r_iload_n C (i := 2) 2 dX5_found_5 rfl rfl ?_
  refine r_tabOut C 130 dX5_found_6 (raw_out (n := 5) (by decide) hx) (by decide) ?_
  exact TZ.1 _ _ _ 130 _ _ _ 14 _ _ fit_A.1 fit_A.2 cl_A ini_A rfl atS_A ot_A dX5_found_130 dX5_found_133 dX5_found_134 dX5_found_136 dX5_found_139 (by decide) (Nat.le_of_ble_eq_true rfl) rfl rfl
set_option maxRecDepth 100000 in
set_option maxHeartbeats 1000000 in
theorem c_X5_setting__t {l : Launch} {E : Ev} (hst : l.stackTraces = false) {hB b1 b2 b3 b4 b5 b6 b7 b8 b9 b10 : Nat} {c1 : Nat} {f : Nat → Int32} {σ : Sg} (hR : RepC σ f) (hW : Wf σ) {w : Int32} (hx : ¬ vI w 2) : Th l E yX5_setting cX5_setting 2 (some FieldType.int) 7 110 [.ref hB, .int w] [(hB, .inr (5, [.ref b1, .ref b2, .ref b3, .ref b4, .ref b5, .ref b6, .ref b7, .ref b8, .ref b9, .ref b10])), (b1, .inr (4, [.ref c1])), (c1, .inl (eI E, 265, .inl f))] (fun w9 => w9 = [(hB, .inr (5, [.ref b1, .ref b2, .ref b3, .ref b4, .ref b5, .ref b6, .ref b7, .ref b8, .ref b9, .ref b10])), (b1, .inr (4, [.ref c1])), (c1, .inl (eI E, 265, .inl f))]) "java/lang/IllegalArgumentException" := by
  have hwP := hW.P
  have hwA := hW.A
  have hwS := hW.S
  refine th_of hst (by decide +kernel) (Nat.le_of_ble_eq_true rfl) (fun ω C TZ TQ => ?_)
  show ω [(hB, .inr (5, [.ref b1, .ref b2, .ref b3, .ref b4, .ref b5, .ref b6, .ref b7, .ref b8, .ref b9, .ref b10])), (b1, .inr (4, [.ref c1])), (c1, .inl (eI E, 265, .inl f))] [(0, .ref hB), (1, .int w)] [] 0
  refine r_iload_n C (i := 1) 1 dX5_setting_0 rfl rfl ?_
  exact TQ.1 _ _ _ _ [] _ 1 _ _ _ _ _ _ _ _ [] (c_X5_requireSetting__t (hst := hst) (w := w) (hx := hx)) lk_X5_requireSetting w_4_54 dX5_setting_1 rfl rfl rfl ⟨by decide, by decide⟩ (Nat.le_of_ble_eq_true rfl) (fun w hw _ => th_same rfl hw rfl)
set_option maxRecDepth 100000 in
set_option maxHeartbeats 1000000 in
theorem c_X5_addActor__ta {l : Launch} {E : Ev} (hst : l.stackTraces = false) {hB b1 b2 b3 b4 b5 b6 b7 b8 b9 b10 : Nat} {c1 : Nat} {f : Nat → Int32} {σ : Sg} (hR : RepC σ f) (hW : Wf σ) {x : Int32} (hx : ¬ vI x 10) : Th l E yX5_addActor cX5_addActor 3 (some FieldType.int) 6 90 [.ref hB, .int x] [(hB, .inr (5, [.ref b1, .ref b2, .ref b3, .ref b4, .ref b5, .ref b6, .ref b7, .ref b8, .ref b9, .ref b10])), (b1, .inr (4, [.ref c1])), (c1, .inl (eI E, 265, .inl f))] (fun w9 => w9 = [(hB, .inr (5, [.ref b1, .ref b2, .ref b3, .ref b4, .ref b5, .ref b6, .ref b7, .ref b8, .ref b9, .ref b10])), (b1, .inr (4, [.ref c1])), (c1, .inl (eI E, 265, .inl f))]) "java/lang/IllegalArgumentException" := by
  have hwP := hW.P
  have hwA := hW.A
  have hwS := hW.S
  refine th_of hst (by decide +kernel) (Nat.le_of_ble_eq_true rfl) (fun ω C TZ TQ => ?_)
  show ω [(hB, .inr (5, [.ref b1, .ref b2, .ref b3, .ref b4, .ref b5, .ref b6, .ref b7, .ref b8, .ref b9, .ref b10])), (b1, .inr (4, [.ref c1])), (c1, .inl (eI E, 265, .inl f))] [(0, .ref hB), (1, .int x)] [] 0
  refine r_iload_n C (i := 1) 1 dX5_addActor_0 rfl rfl ?_
  refine r_if_lt C (y := 0) (c9 := x < nI 0) 10 dX5_addActor_1 (by decide) Iff.rfl (fun h1_1 => ?_) (fun h1_1 => ?_)
  · exact TZ.2 _ _ _ 10 _ _ _ 19 _ _ fit_A.1 fit_A.2 cl_A ini_A rfl atS_A ot_A dX5_addActor_10 dX5_addActor_13 dX5_addActor_14 dX5_addActor_17 dX5_addActor_20 (by decide) (Nat.le_of_ble_eq_true rfl) rfl rfl
  · refine r_iload_n C (i := 1) 1 dX5_addActor_4 rfl rfl ?_
    refine r_bipush C dX5_addActor_5 kb_9 ?_
    refine r_icmp_le C (c9 := x ≤ nI 9) 21 dX5_addActor_7 (by decide) Iff.rfl (fun h7_2 => ?_) (fun h7_2 => ?_)
    · exact absurd (raw_le h1_1 h7_2 (by decide)) hx
    · exact TZ.2 _ _ _ 10 _ _ _ 19 _ _ fit_A.1 fit_A.2 cl_A ini_A rfl atS_A ot_A dX5_addActor_10 dX5_addActor_13 dX5_addActor_14 dX5_addActor_17 dX5_addActor_20 (by decide) (Nat.le_of_ble_eq_true rfl) rfl rfl
set_option maxRecDepth 100000 in
set_option maxHeartbeats 1000000 in
theorem c_X5_addActor__tb {l : Launch} {E : Ev} (hst : l.stackTraces = false) {hB b1 b2 b3 b4 b5 b6 b7 b8 b9 b10 : Nat} {c1 : Nat} {f : Nat → Int32} {σ : Sg} (hR : RepC σ f) (hW : Wf σ) {x : Nat} (h9 : x ≤ 9) (hx : ¬ sA σ < 10) : Th l E yX5_addActor cX5_addActor 3 (some FieldType.int) 6 90 [.ref hB, .int (nI x)] [(hB, .inr (5, [.ref b1, .ref b2, .ref b3, .ref b4, .ref b5, .ref b6, .ref b7, .ref b8, .ref b9, .ref b10])), (b1, .inr (4, [.ref c1])), (c1, .inl (eI E, 265, .inl f))] (fun w9 => w9 = [(hB, .inr (5, [.ref b1, .ref b2, .ref b3, .ref b4, .ref b5, .ref b6, .ref b7, .ref b8, .ref b9, .ref b10])), (b1, .inr (4, [.ref c1])), (c1, .inl (eI E, 265, .inl f))]) "java/lang/IllegalStateException" := by
  have hwP := hW.P
  have hwA := hW.A
  have hwS := hW.S
  refine th_of hst (by decide +kernel) (Nat.le_of_ble_eq_true rfl) (fun ω C TZ TQ => ?_)
  show ω [(hB, .inr (5, [.ref b1, .ref b2, .ref b3, .ref b4, .ref b5, .ref b6, .ref b7, .ref b8, .ref b9, .ref b10])), (b1, .inr (4, [.ref c1])), (c1, .inl (eI E, 265, .inl f))] [(0, .ref hB), (1, .int (nI x))] [] 0
  refine r_iload_n C (i := 1) 1 dX5_addActor_0 rfl rfl ?_
  refine r_if_ltF C (y := 0) (tgt := 10) dX5_addActor_1 (by decide) (fun z => ((by omega) : ¬ (x < 0)) ((z_ltN (by omega)).mp z)) ?_
  refine r_iload_n C (i := 1) 1 dX5_addActor_4 rfl rfl ?_
  refine r_bipush C dX5_addActor_5 kb_9 ?_
  refine r_icmp_leT C 21 dX5_addActor_7 (by decide) ((c_leNN (by omega) (by omega)).mpr (by omega)) ?_
  refine r_aload_n C (i := 0) 0 dX5_addActor_21 rfl rfl ?_
  refine r_get C 0 0 uX5 rfl rfl (by decide) w_1_128 rfl dX5_addActor_22 ?_
  refine r_iload_n C (i := 1) 1 dX5_addActor_25 rfl rfl ?_
  refine r_readV (rest := []) C (c_X4_canHire (h0 := b1) (q1 := c1) (f := f) (σ := σ) (x := x) (hR := hR) (hW := hW) (hx := (by omega))) lk_X4_canHire w_4_67 [1, 2] rfl dX5_addActor_26 rfl rfl rfl rfl ⟨by decide, by decide⟩ (Nat.le_of_ble_eq_true rfl) (st' := [.int (bP (x ≤ 9 ∧ sA σ < 10))]) rfl ?_
  refine r_if_neF C (y := 0) (tgt := 43) dX5_addActor_29 (by decide) (fun z => ((by omega) : ¬ (x ≤ 9 ∧ sA σ < 10)) (z_neB.mp z)) ?_
  exact TZ.2 _ _ _ 32 _ _ _ 20 _ _ fit_S.1 fit_S.2 cl_S ini_S rfl atS_S ot_S dX5_addActor_32 dX5_addActor_35 dX5_addActor_36 dX5_addActor_39 dX5_addActor_42 (by decide) (Nat.le_of_ble_eq_true rfl) rfl rfl
set_option maxRecDepth 100000 in
set_option maxHeartbeats 1000000 in
theorem c_X5_addPart__t {l : Launch} {E : Ev} (hst : l.stackTraces = false) {hB b1 b2 b3 b4 b5 b6 b7 b8 b9 b10 : Nat} {c1 : Nat} {f : Nat → Int32} {σ : Sg} (hR : RepC σ f) (hW : Wf σ) (hx : ¬ sP σ < 6) : Th l E yX5_addPart cX5_addPart 2 (some FieldType.int) 6 109 [.ref hB] [(hB, .inr (5, [.ref b1, .ref b2, .ref b3, .ref b4, .ref b5, .ref b6, .ref b7, .ref b8, .ref b9, .ref b10])), (b1, .inr (4, [.ref c1])), (c1, .inl (eI E, 265, .inl f))] (fun w9 => w9 = [(hB, .inr (5, [.ref b1, .ref b2, .ref b3, .ref b4, .ref b5, .ref b6, .ref b7, .ref b8, .ref b9, .ref b10])), (b1, .inr (4, [.ref c1])), (c1, .inl (eI E, 265, .inl f))]) "java/lang/IllegalStateException" := by
  have hwP := hW.P
  have hwA := hW.A
  have hwS := hW.S
  refine th_of hst (by decide +kernel) (Nat.le_of_ble_eq_true rfl) (fun ω C TZ TQ => ?_)
  show ω [(hB, .inr (5, [.ref b1, .ref b2, .ref b3, .ref b4, .ref b5, .ref b6, .ref b7, .ref b8, .ref b9, .ref b10])), (b1, .inr (4, [.ref c1])), (c1, .inl (eI E, 265, .inl f))] [(0, .ref hB)] [] 0
  refine r_aload_n C (i := 0) 0 dX5_addPart_0 rfl rfl ?_
  refine r_get C 0 0 uX5 rfl rfl (by decide) w_1_128 rfl dX5_addPart_1 ?_
  refine r_readV (rest := []) C (c_X4_canOpenPart (h0 := b1) (q1 := c1) (f := f) (σ := σ) (hR := hR) (hW := hW)) lk_X4_canOpenPart w_4_76 [1, 2] rfl dX5_addPart_4 rfl rfl rfl rfl ⟨by decide, by decide⟩ (Nat.le_of_ble_eq_true rfl) (st' := [.int (bP (sP σ < 6))]) rfl ?_
  refine r_if_neF C (y := 0) (tgt := 21) dX5_addPart_7 (by decide) (fun z => ((by omega) : ¬ (sP σ < 6)) (z_neB.mp z)) ?_
  exact TZ.2 _ _ _ 10 _ _ _ 21 _ _ fit_S.1 fit_S.2 cl_S ini_S rfl atS_S ot_S dX5_addPart_10 dX5_addPart_13 dX5_addPart_14 dX5_addPart_17 dX5_addPart_20 (by decide) (Nat.le_of_ble_eq_true rfl) rfl rfl
set_option maxRecDepth 100000 in
set_option maxHeartbeats 1000000 in
theorem c_X5_cast__t {l : Launch} {E : Ev} (hst : l.stackTraces = false) {hB b1 b2 b3 b4 b5 b6 b7 b8 b9 b10 : Nat} {c1 : Nat} {f : Nat → Int32} {σ : Sg} (hR : RepC σ f) (hW : Wf σ) {p a n : Int32} (hx : ¬ (vI p (sP σ) ∧ vI n 20 ∧ (a = mI 0 ∨ vI a (sA σ)))) : Th l E yX5_cast cX5_cast 5 (some FieldType.int) 6 90 [.ref hB, .int p, .int a, .int n] [(hB, .inr (5, [.ref b1, .ref b2, .ref b3, .ref b4, .ref b5, .ref b6, .ref b7, .ref b8, .ref b9, .ref b10])), (b1, .inr (4, [.ref c1])), (c1, .inl (eI E, 265, .inl f))] (fun w9 => w9 = [(hB, .inr (5, [.ref b1, .ref b2, .ref b3, .ref b4, .ref b5, .ref b6, .ref b7, .ref b8, .ref b9, .ref b10])), (b1, .inr (4, [.ref c1])), (c1, .inl (eI E, 265, .inl f))]) "java/lang/IndexOutOfBoundsException" := by
  have hwP := hW.P
  have hwA := hW.A
  have hwS := hW.S
  refine th_of hst (by decide +kernel) (Nat.le_of_ble_eq_true rfl) (fun ω C TZ TQ => ?_)
  show ω [(hB, .inr (5, [.ref b1, .ref b2, .ref b3, .ref b4, .ref b5, .ref b6, .ref b7, .ref b8, .ref b9, .ref b10])), (b1, .inr (4, [.ref c1])), (c1, .inl (eI E, 265, .inl f))] [(0, .ref hB), (1, .int p), (2, .int a), (3, .int n)] [] 0
  refine r_aload_n C (i := 0) 0 dX5_cast_0 rfl rfl ?_
  refine r_get C 0 0 uX5 rfl rfl (by decide) w_1_128 rfl dX5_cast_1 ?_
  refine r_iload_n C (i := 1) 1 dX5_cast_4 rfl rfl ?_
  refine r_iload_n C (i := 2) 2 dX5_cast_5 rfl rfl ?_
  refine r_iload_n C (i := 3) 3 dX5_cast_6 rfl rfl ?_
  refine r_readV (rest := []) C (c_X4_canRecast__r (h0 := b1) (q1 := c1) (f := f) (σ := σ) (p := p) (x := a) (n := n) (hR := hR) (hW := hW)) lk_X4_canRecast w_4_85 [1, 2] rfl dX5_cast_7 rfl rfl rfl rfl ⟨by decide, by decide⟩ (Nat.le_of_ble_eq_true rfl) (st' := [.int (bP (vI p (sP σ) ∧ vI n 20 ∧ (a = mI 0 ∨ vI a (sA σ))))]) rfl ?_
  refine r_if_neF C (y := 0) (tgt := 24) dX5_cast_10 (by decide) (fun z => (hx : ¬ (vI p (sP σ) ∧ vI n 20 ∧ (a = mI 0 ∨ vI a (sA σ)))) (z_neB.mp z)) ?_
  exact TZ.2 _ _ _ 13 _ _ _ 22 _ _ fit_B.1 fit_B.2 cl_B ini_B rfl atS_B ot_B dX5_cast_13 dX5_cast_16 dX5_cast_17 dX5_cast_20 dX5_cast_23 (by decide) (Nat.le_of_ble_eq_true rfl) rfl rfl
set_option maxRecDepth 100000 in
set_option maxHeartbeats 1000000 in
theorem c_X5_understudy__ta {l : Launch} {E : Ev} (hst : l.stackTraces = false) {hB b1 b2 b3 b4 b5 b6 b7 b8 b9 b10 : Nat} {c1 : Nat} {f : Nat → Int32} {σ : Sg} (hR : RepC σ f) (hW : Wf σ) {p a : Int32} (hx : ¬ vI p (sP σ)) : Th l E yX5_understudy cX5_understudy 3 (some FieldType.int) 7 111 [.ref hB, .int p, .int a] [(hB, .inr (5, [.ref b1, .ref b2, .ref b3, .ref b4, .ref b5, .ref b6, .ref b7, .ref b8, .ref b9, .ref b10])), (b1, .inr (4, [.ref c1])), (c1, .inl (eI E, 265, .inl f))] (fun w9 => w9 = [(hB, .inr (5, [.ref b1, .ref b2, .ref b3, .ref b4, .ref b5, .ref b6, .ref b7, .ref b8, .ref b9, .ref b10])), (b1, .inr (4, [.ref c1])), (c1, .inl (eI E, 265, .inl f))]) "java/lang/IndexOutOfBoundsException" := by
  have hwP := hW.P
  have hwA := hW.A
  have hwS := hW.S
  refine th_of hst (by decide +kernel) (Nat.le_of_ble_eq_true rfl) (fun ω C TZ TQ => ?_)
  show ω [(hB, .inr (5, [.ref b1, .ref b2, .ref b3, .ref b4, .ref b5, .ref b6, .ref b7, .ref b8, .ref b9, .ref b10])), (b1, .inr (4, [.ref c1])), (c1, .inl (eI E, 265, .inl f))] [(0, .ref hB), (1, .int p), (2, .int a)] [] 0
  refine r_aload_n C (i := 0) 0 dX5_understudy_0 rfl rfl ?_
  refine r_iload_n C (i := 1) 1 dX5_understudy_1 rfl rfl ?_
  exact TQ.2 _ _ _ _ [] _ 2 _ _ _ _ _ 5 _ _ _ _ _ [0, 1, 2] _ _ (c_X5_requirePart__t (hst := hst) (hB := hB) (b1 := b1) (b2 := b2) (b3 := b3) (b4 := b4) (b5 := b5) (b6 := b6) (b7 := b7) (b8 := b8) (b9 := b9) (b10 := b10) (c1 := c1) (f := f) (σ := σ) (p := p) (hR := hR) (hW := hW) (hx := hx)) lk_X5_requirePart w_3_183 rfl dX5_understudy_2 rfl rfl rfl rfl ⟨by decide, by decide⟩ (Nat.le_of_ble_eq_true rfl) (fun w hw _ => th_same rfl hw rfl)
set_option maxRecDepth 100000 in
set_option maxHeartbeats 1000000 in
theorem c_X5_understudy__tb {l : Launch} {E : Ev} (hst : l.stackTraces = false) {hB b1 b2 b3 b4 b5 b6 b7 b8 b9 b10 : Nat} {c1 : Nat} {f : Nat → Int32} {σ : Sg} (hR : RepC σ f) (hW : Wf σ) {p : Nat} {a : Int32} (h1 : p < sP σ) (hx : ¬ vI a (sA σ)) : Th l E yX5_understudy cX5_understudy 3 (some FieldType.int) 7 111 [.ref hB, .int (nI p), .int a] [(hB, .inr (5, [.ref b1, .ref b2, .ref b3, .ref b4, .ref b5, .ref b6, .ref b7, .ref b8, .ref b9, .ref b10])), (b1, .inr (4, [.ref c1])), (c1, .inl (eI E, 265, .inl f))] (fun w9 => w9 = [(hB, .inr (5, [.ref b1, .ref b2, .ref b3, .ref b4, .ref b5, .ref b6, .ref b7, .ref b8, .ref b9, .ref b10])), (b1, .inr (4, [.ref c1])), (c1, .inl (eI E, 265, .inl f))]) "java/lang/IndexOutOfBoundsException" := by
  have hwP := hW.P
  have hwA := hW.A
  have hwS := hW.S
  refine th_of hst (by decide +kernel) (Nat.le_of_ble_eq_true rfl) (fun ω C TZ TQ => ?_)
  show ω [(hB, .inr (5, [.ref b1, .ref b2, .ref b3, .ref b4, .ref b5, .ref b6, .ref b7, .ref b8, .ref b9, .ref b10])), (b1, .inr (4, [.ref c1])), (c1, .inl (eI E, 265, .inl f))] [(0, .ref hB), (1, .int (nI p)), (2, .int a)] [] 0
  refine r_aload_n C (i := 0) 0 dX5_understudy_0 rfl rfl ?_
  refine r_iload_n C (i := 1) 1 dX5_understudy_1 rfl rfl ?_
  refine r_readV (rest := []) C (c_X5_requirePart (hB := hB) (b1 := b1) (b2 := b2) (b3 := b3) (b4 := b4) (b5 := b5) (b6 := b6) (b7 := b7) (b8 := b8) (b9 := b9) (b10 := b10) (c1 := c1) (f := f) (σ := σ) (p := p) (hR := hR) (hW := hW) (hx := (by omega))) lk_X5_requirePart w_3_183 [0, 1, 2] rfl dX5_understudy_2 rfl rfl rfl rfl ⟨by decide, by decide⟩ (Nat.le_of_ble_eq_true rfl) (st' := []) rfl ?_
  refine r_aload_n C (i := 0) 0 dX5_understudy_5 rfl rfl ?_
  refine r_iload_n C (i := 2) 2 dX5_understudy_6 rfl rfl ?_
  exact TQ.2 _ _ _ _ [] _ 7 _ _ _ _ _ 5 _ _ _ _ _ [0, 1, 2] _ _ (c_X5_requireActor__t (hst := hst) (hB := hB) (b1 := b1) (b2 := b2) (b3 := b3) (b4 := b4) (b5 := b5) (b6 := b6) (b7 := b7) (b8 := b8) (b9 := b9) (b10 := b10) (c1 := c1) (f := f) (σ := σ) (a := a) (hR := hR) (hW := hW) (hx := hx)) lk_X5_requireActor w_1_167 rfl dX5_understudy_7 rfl rfl rfl rfl ⟨by decide, by decide⟩ (Nat.le_of_ble_eq_true rfl) (fun w hw _ => th_same rfl hw rfl)
set_option maxRecDepth 100000 in
set_option maxHeartbeats 1000000 in
theorem c_X5_understudy__tc {l : Launch} {E : Ev} (hst : l.stackTraces = false) {hB b1 b2 b3 b4 b5 b6 b7 b8 b9 b10 : Nat} {c1 : Nat} {f : Nat → Int32} {σ : Sg} (hR : RepC σ f) (hW : Wf σ) {p a : Nat} (hp : p < sP σ) (ha : a < sA σ) (hx : ¬ (sC σ p < 4 ∧ rk σ p a = 0)) : Th l E yX5_understudy cX5_understudy 3 (some FieldType.int) 7 111 [.ref hB, .int (nI p), .int (nI a)] [(hB, .inr (5, [.ref b1, .ref b2, .ref b3, .ref b4, .ref b5, .ref b6, .ref b7, .ref b8, .ref b9, .ref b10])), (b1, .inr (4, [.ref c1])), (c1, .inl (eI E, 265, .inl f))] (fun w9 => w9 = [(hB, .inr (5, [.ref b1, .ref b2, .ref b3, .ref b4, .ref b5, .ref b6, .ref b7, .ref b8, .ref b9, .ref b10])), (b1, .inr (4, [.ref c1])), (c1, .inl (eI E, 265, .inl f))]) "java/lang/IllegalStateException" := by
  have hwP := hW.P
  have hwA := hW.A
  have hwS := hW.S
  refine th_of hst (by decide +kernel) (Nat.le_of_ble_eq_true rfl) (fun ω C TZ TQ => ?_)
  show ω [(hB, .inr (5, [.ref b1, .ref b2, .ref b3, .ref b4, .ref b5, .ref b6, .ref b7, .ref b8, .ref b9, .ref b10])), (b1, .inr (4, [.ref c1])), (c1, .inl (eI E, 265, .inl f))] [(0, .ref hB), (1, .int (nI p)), (2, .int (nI a))] [] 0
  refine r_aload_n C (i := 0) 0 dX5_understudy_0 rfl rfl ?_
  refine r_iload_n C (i := 1) 1 dX5_understudy_1 rfl rfl ?_
  refine r_readV (rest := []) C (c_X5_requirePart (hB := hB) (b1 := b1) (b2 := b2) (b3 := b3) (b4 := b4) (b5 := b5) (b6 := b6) (b7 := b7) (b8 := b8) (b9 := b9) (b10 := b10) (c1 := c1) (f := f) (σ := σ) (p := p) (hR := hR) (hW := hW) (hx := (by omega))) lk_X5_requirePart w_3_183 [0, 1, 2] rfl dX5_understudy_2 rfl rfl rfl rfl ⟨by decide, by decide⟩ (Nat.le_of_ble_eq_true rfl) (st' := []) rfl ?_
  refine r_aload_n C (i := 0) 0 dX5_understudy_5 rfl rfl ?_
  refine r_iload_n C (i := 2) 2 dX5_understudy_6 rfl rfl ?_
  refine r_readV (rest := []) C (c_X5_requireActor (hB := hB) (b1 := b1) (b2 := b2) (b3 := b3) (b4 := b4) (b5 := b5) (b6 := b6) (b7 := b7) (b8 := b8) (b9 := b9) (b10 := b10) (c1 := c1) (f := f) (σ := σ) (a := a) (hR := hR) (hW := hW) (hx := (by omega))) lk_X5_requireActor w_1_167 [0, 1, 2] rfl dX5_understudy_7 rfl rfl rfl rfl ⟨by decide, by decide⟩ (Nat.le_of_ble_eq_true rfl) (st' := []) rfl ?_
  refine r_aload_n C (i := 0) 0 dX5_understudy_10 rfl rfl ?_
  refine r_get C 0 0 uX5 rfl rfl (by decide) w_1_128 rfl dX5_understudy_11 ?_
  refine r_iload_n C (i := 1) 1 dX5_understudy_14 rfl rfl ?_
  refine r_iload_n C (i := 2) 2 dX5_understudy_15 rfl rfl ?_
  refine r_readV (rest := []) C (c_X4_canAddUnderstudy (h0 := b1) (q1 := c1) (f := f) (σ := σ) (p := p) (a := a) (hR := hR) (hW := hW) (hp := (by omega)) (ha := (by omega))) lk_X4_canAddUnderstudy w_4_94 [1, 2] rfl dX5_understudy_16 rfl rfl rfl rfl ⟨by decide, by decide⟩ (Nat.le_of_ble_eq_true rfl) (st' := [.int (bP (p < sP σ ∧ a < sA σ ∧ sC σ p < 4 ∧ rk σ p a = 0))]) rfl ?_
  refine r_if_neF C (y := 0) (tgt := 33) dX5_understudy_19 (by decide) (fun z => ((fun z => hx z.2.2) : ¬ (p < sP σ ∧ a < sA σ ∧ sC σ p < 4 ∧ rk σ p a = 0)) (z_neB.mp z)) ?_
  exact TZ.2 _ _ _ 22 _ _ _ 23 _ _ fit_S.1 fit_S.2 cl_S ini_S rfl atS_S ot_S dX5_understudy_22 dX5_understudy_25 dX5_understudy_26 dX5_understudy_29 dX5_understudy_32 (by decide) (Nat.le_of_ble_eq_true rfl) rfl rfl
set_option maxRecDepth 100000 in
set_option maxHeartbeats 1000000 in
theorem c_X5_release__ta {l : Launch} {E : Ev} (hst : l.stackTraces = false) {hB b1 b2 b3 b4 b5 b6 b7 b8 b9 b10 : Nat} {c1 : Nat} {f : Nat → Int32} {σ : Sg} (hR : RepC σ f) (hW : Wf σ) {p a : Int32} (hx : ¬ vI p (sP σ)) : Th l E yX5_release cX5_release 4 (some FieldType.int) 7 111 [.ref hB, .int p, .int a] [(hB, .inr (5, [.ref b1, .ref b2, .ref b3, .ref b4, .ref b5, .ref b6, .ref b7, .ref b8, .ref b9, .ref b10])), (b1, .inr (4, [.ref c1])), (c1, .inl (eI E, 265, .inl f))] (fun w9 => w9 = [(hB, .inr (5, [.ref b1, .ref b2, .ref b3, .ref b4, .ref b5, .ref b6, .ref b7, .ref b8, .ref b9, .ref b10])), (b1, .inr (4, [.ref c1])), (c1, .inl (eI E, 265, .inl f))]) "java/lang/IndexOutOfBoundsException" := by
  have hwP := hW.P
  have hwA := hW.A
  have hwS := hW.S
  refine th_of hst (by decide +kernel) (Nat.le_of_ble_eq_true rfl) (fun ω C TZ TQ => ?_)
  show ω [(hB, .inr (5, [.ref b1, .ref b2, .ref b3, .ref b4, .ref b5, .ref b6, .ref b7, .ref b8, .ref b9, .ref b10])), (b1, .inr (4, [.ref c1])), (c1, .inl (eI E, 265, .inl f))] [(0, .ref hB), (1, .int p), (2, .int a)] [] 0
  refine r_aload_n C (i := 0) 0 dX5_release_0 rfl rfl ?_
  refine r_iload_n C (i := 1) 1 dX5_release_1 rfl rfl ?_
  exact TQ.2 _ _ _ _ [] _ 2 _ _ _ _ _ 5 _ _ _ _ _ [0, 1, 2] _ _ (c_X5_requirePart__t (hst := hst) (hB := hB) (b1 := b1) (b2 := b2) (b3 := b3) (b4 := b4) (b5 := b5) (b6 := b6) (b7 := b7) (b8 := b8) (b9 := b9) (b10 := b10) (c1 := c1) (f := f) (σ := σ) (p := p) (hR := hR) (hW := hW) (hx := hx)) lk_X5_requirePart w_3_183 rfl dX5_release_2 rfl rfl rfl rfl ⟨by decide, by decide⟩ (Nat.le_of_ble_eq_true rfl) (fun w hw _ => th_same rfl hw rfl)
set_option maxRecDepth 100000 in
set_option maxHeartbeats 1000000 in
theorem c_X5_release__tb {l : Launch} {E : Ev} (hst : l.stackTraces = false) {hB b1 b2 b3 b4 b5 b6 b7 b8 b9 b10 : Nat} {c1 : Nat} {f : Nat → Int32} {σ : Sg} (hR : RepC σ f) (hW : Wf σ) {p : Nat} {a : Int32} (h1 : p < sP σ) (hx : ¬ vI a (sA σ)) : Th l E yX5_release cX5_release 4 (some FieldType.int) 7 111 [.ref hB, .int (nI p), .int a] [(hB, .inr (5, [.ref b1, .ref b2, .ref b3, .ref b4, .ref b5, .ref b6, .ref b7, .ref b8, .ref b9, .ref b10])), (b1, .inr (4, [.ref c1])), (c1, .inl (eI E, 265, .inl f))] (fun w9 => w9 = [(hB, .inr (5, [.ref b1, .ref b2, .ref b3, .ref b4, .ref b5, .ref b6, .ref b7, .ref b8, .ref b9, .ref b10])), (b1, .inr (4, [.ref c1])), (c1, .inl (eI E, 265, .inl f))]) "java/lang/IndexOutOfBoundsException" := by
  have hwP := hW.P
  have hwA := hW.A
  have hwS := hW.S
  refine th_of hst (by decide +kernel) (Nat.le_of_ble_eq_true rfl) (fun ω C TZ TQ => ?_)
  show ω [(hB, .inr (5, [.ref b1, .ref b2, .ref b3, .ref b4, .ref b5, .ref b6, .ref b7, .ref b8, .ref b9, .ref b10])), (b1, .inr (4, [.ref c1])), (c1, .inl (eI E, 265, .inl f))] [(0, .ref hB), (1, .int (nI p)), (2, .int a)] [] 0
  refine r_aload_n C (i := 0) 0 dX5_release_0 rfl rfl ?_
  refine r_iload_n C (i := 1) 1 dX5_release_1 rfl rfl ?_
  refine r_readV (rest := []) C (c_X5_requirePart (hB := hB) (b1 := b1) (b2 := b2) (b3 := b3) (b4 := b4) (b5 := b5) (b6 := b6) (b7 := b7) (b8 := b8) (b9 := b9) (b10 := b10) (c1 := c1) (f := f) (σ := σ) (p := p) (hR := hR) (hW := hW) (hx := (by omega))) lk_X5_requirePart w_3_183 [0, 1, 2] rfl dX5_release_2 rfl rfl rfl rfl ⟨by decide, by decide⟩ (Nat.le_of_ble_eq_true rfl) (st' := []) rfl ?_
  refine r_aload_n C (i := 0) 0 dX5_release_5 rfl rfl ?_
  refine r_iload_n C (i := 2) 2 dX5_release_6 rfl rfl ?_
  exact TQ.2 _ _ _ _ [] _ 7 _ _ _ _ _ 5 _ _ _ _ _ [0, 1, 2] _ _ (c_X5_requireActor__t (hst := hst) (hB := hB) (b1 := b1) (b2 := b2) (b3 := b3) (b4 := b4) (b5 := b5) (b6 := b6) (b7 := b7) (b8 := b8) (b9 := b9) (b10 := b10) (c1 := c1) (f := f) (σ := σ) (a := a) (hR := hR) (hW := hW) (hx := hx)) lk_X5_requireActor w_1_167 rfl dX5_release_7 rfl rfl rfl rfl ⟨by decide, by decide⟩ (Nat.le_of_ble_eq_true rfl) (fun w hw _ => th_same rfl hw rfl)
set_option maxRecDepth 100000 in
set_option maxHeartbeats 1000000 in
theorem c_X5_release__tc {l : Launch} {E : Ev} (hst : l.stackTraces = false) {hB b1 b2 b3 b4 b5 b6 b7 b8 b9 b10 : Nat} {c1 : Nat} {f : Nat → Int32} {σ : Sg} (hR : RepC σ f) (hW : Wf σ) {p a : Nat} (hp : p < sP σ) (ha : a < sA σ) (hx : rk σ p a = 0) : Th l E yX5_release cX5_release 4 (some FieldType.int) 7 111 [.ref hB, .int (nI p), .int (nI a)] [(hB, .inr (5, [.ref b1, .ref b2, .ref b3, .ref b4, .ref b5, .ref b6, .ref b7, .ref b8, .ref b9, .ref b10])), (b1, .inr (4, [.ref c1])), (c1, .inl (eI E, 265, .inl f))] (fun w9 => w9 = [(hB, .inr (5, [.ref b1, .ref b2, .ref b3, .ref b4, .ref b5, .ref b6, .ref b7, .ref b8, .ref b9, .ref b10])), (b1, .inr (4, [.ref c1])), (c1, .inl (eI E, 265, .inl f))]) "java/lang/IllegalStateException" := by
  have hwP := hW.P
  have hwA := hW.A
  have hwS := hW.S
  refine th_of hst (by decide +kernel) (Nat.le_of_ble_eq_true rfl) (fun ω C TZ TQ => ?_)
  show ω [(hB, .inr (5, [.ref b1, .ref b2, .ref b3, .ref b4, .ref b5, .ref b6, .ref b7, .ref b8, .ref b9, .ref b10])), (b1, .inr (4, [.ref c1])), (c1, .inl (eI E, 265, .inl f))] [(0, .ref hB), (1, .int (nI p)), (2, .int (nI a))] [] 0
  refine r_aload_n C (i := 0) 0 dX5_release_0 rfl rfl ?_
  refine r_iload_n C (i := 1) 1 dX5_release_1 rfl rfl ?_
  refine r_readV (rest := []) C (c_X5_requirePart (hB := hB) (b1 := b1) (b2 := b2) (b3 := b3) (b4 := b4) (b5 := b5) (b6 := b6) (b7 := b7) (b8 := b8) (b9 := b9) (b10 := b10) (c1 := c1) (f := f) (σ := σ) (p := p) (hR := hR) (hW := hW) (hx := (by omega))) lk_X5_requirePart w_3_183 [0, 1, 2] rfl dX5_release_2 rfl rfl rfl rfl ⟨by decide, by decide⟩ (Nat.le_of_ble_eq_true rfl) (st' := []) rfl ?_
  refine r_aload_n C (i := 0) 0 dX5_release_5 rfl rfl ?_
  refine r_iload_n C (i := 2) 2 dX5_release_6 rfl rfl ?_
  refine r_readV (rest := []) C (c_X5_requireActor (hB := hB) (b1 := b1) (b2 := b2) (b3 := b3) (b4 := b4) (b5 := b5) (b6 := b6) (b7 := b7) (b8 := b8) (b9 := b9) (b10 := b10) (c1 := c1) (f := f) (σ := σ) (a := a) (hR := hR) (hW := hW) (hx := (by omega))) lk_X5_requireActor w_1_167 [0, 1, 2] rfl dX5_release_7 rfl rfl rfl rfl ⟨by decide, by decide⟩ (Nat.le_of_ble_eq_true rfl) (st' := []) rfl ?_
  refine r_aload_n C (i := 0) 0 dX5_release_10 rfl rfl ?_
  refine r_get C 0 0 uX5 rfl rfl (by decide) w_1_128 rfl dX5_release_11 ?_
  refine r_iload_n C (i := 1) 1 dX5_release_14 rfl rfl ?_
  refine r_iload_n C (i := 2) 2 dX5_release_15 rfl rfl ?_
  refine r_readV (rest := []) C (c_X4_rankOf (h0 := b1) (q1 := c1) (f := f) (σ := σ) (p := p) (a := a) (hR := hR) (hW := hW) (hp := (by omega)) (ha := (by omega))) lk_X4_rankOf w_4_104 [1, 2] rfl dX5_release_16 rfl rfl rfl rfl ⟨by decide, by decide⟩ (Nat.le_of_ble_eq_true rfl) (st' := [.int (mI (rk σ p a))]) rfl ?_
  have hrl := rk_le σ p a
  have hCl := hW.C hp
  refine r_istore_n C (lv' := [(3, .int (mI (rk σ p a))), (0, .ref hB), (1, .int (nI p)), (2, .int (nI a))]) dX5_release_19 rfl (by decide) rfl ?_
  refine r_iload_n C (i := 3) 0 dX5_release_20 rfl rfl ?_
  refine r_iconst C dX5_release_21 ki_m1 ?_
  refine r_icmp_neF C (tgt := 36) dX5_release_22 (by decide) (fun z => ((by omega) : ¬ (rk σ p a ≠ 0)) ((c_neMM (by omega) (by omega)).mp z)) ?_
  exact TZ.2 _ _ _ 25 _ _ _ 24 _ _ fit_S.1 fit_S.2 cl_S ini_S rfl atS_S ot_S dX5_release_25 dX5_release_28 dX5_release_29 dX5_release_32 dX5_release_35 (by decide) (Nat.le_of_ble_eq_true rfl) rfl rfl
set_option maxRecDepth 100000 in
set_option maxHeartbeats 1000000 in
theorem c_X5_ill__ta {l : Launch} {E : Ev} (hst : l.stackTraces = false) {hB b1 b2 b3 b4 b5 b6 b7 b8 b9 b10 : Nat} {c1 : Nat} {f : Nat → Int32} {σ : Sg} (hR : RepC σ f) (hW : Wf σ) {a n : Int32} {b : Int32} (hx : ¬ vI a (sA σ)) : Th l E yX5_ill cX5_ill 4 (some FieldType.int) 7 111 [.ref hB, .int a, .int n, .int b] [(hB, .inr (5, [.ref b1, .ref b2, .ref b3, .ref b4, .ref b5, .ref b6, .ref b7, .ref b8, .ref b9, .ref b10])), (b1, .inr (4, [.ref c1])), (c1, .inl (eI E, 265, .inl f))] (fun w9 => w9 = [(hB, .inr (5, [.ref b1, .ref b2, .ref b3, .ref b4, .ref b5, .ref b6, .ref b7, .ref b8, .ref b9, .ref b10])), (b1, .inr (4, [.ref c1])), (c1, .inl (eI E, 265, .inl f))]) "java/lang/IndexOutOfBoundsException" := by
  have hwP := hW.P
  have hwA := hW.A
  have hwS := hW.S
  refine th_of hst (by decide +kernel) (Nat.le_of_ble_eq_true rfl) (fun ω C TZ TQ => ?_)
  show ω [(hB, .inr (5, [.ref b1, .ref b2, .ref b3, .ref b4, .ref b5, .ref b6, .ref b7, .ref b8, .ref b9, .ref b10])), (b1, .inr (4, [.ref c1])), (c1, .inl (eI E, 265, .inl f))] [(0, .ref hB), (1, .int a), (2, .int n), (3, .int b)] [] 0
  refine r_aload_n C (i := 0) 0 dX5_ill_0 rfl rfl ?_
  refine r_iload_n C (i := 1) 1 dX5_ill_1 rfl rfl ?_
  exact TQ.2 _ _ _ _ [] _ 2 _ _ _ _ _ 5 _ _ _ _ _ [0, 1, 2] _ _ (c_X5_requireActor__t (hst := hst) (hB := hB) (b1 := b1) (b2 := b2) (b3 := b3) (b4 := b4) (b5 := b5) (b6 := b6) (b7 := b7) (b8 := b8) (b9 := b9) (b10 := b10) (c1 := c1) (f := f) (σ := σ) (a := a) (hR := hR) (hW := hW) (hx := hx)) lk_X5_requireActor w_1_167 rfl dX5_ill_2 rfl rfl rfl rfl ⟨by decide, by decide⟩ (Nat.le_of_ble_eq_true rfl) (fun w hw _ => th_same rfl hw rfl)
set_option maxRecDepth 100000 in
set_option maxHeartbeats 1000000 in
theorem c_X5_ill__tb {l : Launch} {E : Ev} (hst : l.stackTraces = false) {hB b1 b2 b3 b4 b5 b6 b7 b8 b9 b10 : Nat} {c1 : Nat} {f : Nat → Int32} {σ : Sg} (hR : RepC σ f) (hW : Wf σ) {a : Nat} {n : Int32} {b : Int32} (h1 : a < sA σ) (hx : ¬ vI n 20) : Th l E yX5_ill cX5_ill 4 (some FieldType.int) 7 111 [.ref hB, .int (nI a), .int n, .int b] [(hB, .inr (5, [.ref b1, .ref b2, .ref b3, .ref b4, .ref b5, .ref b6, .ref b7, .ref b8, .ref b9, .ref b10])), (b1, .inr (4, [.ref c1])), (c1, .inl (eI E, 265, .inl f))] (fun w9 => w9 = [(hB, .inr (5, [.ref b1, .ref b2, .ref b3, .ref b4, .ref b5, .ref b6, .ref b7, .ref b8, .ref b9, .ref b10])), (b1, .inr (4, [.ref c1])), (c1, .inl (eI E, 265, .inl f))]) "java/lang/IndexOutOfBoundsException" := by
  have hwP := hW.P
  have hwA := hW.A
  have hwS := hW.S
  refine th_of hst (by decide +kernel) (Nat.le_of_ble_eq_true rfl) (fun ω C TZ TQ => ?_)
  show ω [(hB, .inr (5, [.ref b1, .ref b2, .ref b3, .ref b4, .ref b5, .ref b6, .ref b7, .ref b8, .ref b9, .ref b10])), (b1, .inr (4, [.ref c1])), (c1, .inl (eI E, 265, .inl f))] [(0, .ref hB), (1, .int (nI a)), (2, .int n), (3, .int b)] [] 0
  refine r_aload_n C (i := 0) 0 dX5_ill_0 rfl rfl ?_
  refine r_iload_n C (i := 1) 1 dX5_ill_1 rfl rfl ?_
  refine r_readV (rest := []) C (c_X5_requireActor (hB := hB) (b1 := b1) (b2 := b2) (b3 := b3) (b4 := b4) (b5 := b5) (b6 := b6) (b7 := b7) (b8 := b8) (b9 := b9) (b10 := b10) (c1 := c1) (f := f) (σ := σ) (a := a) (hR := hR) (hW := hW) (hx := (by omega))) lk_X5_requireActor w_1_167 [0, 1, 2] rfl dX5_ill_2 rfl rfl rfl rfl ⟨by decide, by decide⟩ (Nat.le_of_ble_eq_true rfl) (st' := []) rfl ?_
  refine r_iload_n C (i := 2) 2 dX5_ill_5 rfl rfl ?_
  exact TQ.1 _ _ _ _ [] _ 6 _ _ _ _ _ _ _ _ [] (c_X5_requireNight__t (hst := hst) (n := n) (hx := hx)) lk_X5_requireNight w_2_3 dX5_ill_6 rfl rfl rfl ⟨by decide, by decide⟩ (Nat.le_of_ble_eq_true rfl) (fun w hw _ => th_same rfl hw rfl)
set_option maxRecDepth 100000 in
set_option maxHeartbeats 1000000 in
theorem c_X5_slip__ta {l : Launch} {E : Ev} (hst : l.stackTraces = false) {hB b1 b2 b3 b4 b5 b6 b7 b8 b9 b10 : Nat} {c1 : Nat} {f : Nat → Int32} {σ : Sg} (hR : RepC σ f) (hW : Wf σ) {n p a x : Int32} (hx : ¬ vI n 20) : Th l E yX5_slip cX5_slip 6 (some FieldType.int) 7 111 [.ref hB, .int n, .int p, .int a, .int x] [(hB, .inr (5, [.ref b1, .ref b2, .ref b3, .ref b4, .ref b5, .ref b6, .ref b7, .ref b8, .ref b9, .ref b10])), (b1, .inr (4, [.ref c1])), (c1, .inl (eI E, 265, .inl f))] (fun w9 => w9 = [(hB, .inr (5, [.ref b1, .ref b2, .ref b3, .ref b4, .ref b5, .ref b6, .ref b7, .ref b8, .ref b9, .ref b10])), (b1, .inr (4, [.ref c1])), (c1, .inl (eI E, 265, .inl f))]) "java/lang/IndexOutOfBoundsException" := by
  have hwP := hW.P
  have hwA := hW.A
  have hwS := hW.S
  refine th_of hst (by decide +kernel) (Nat.le_of_ble_eq_true rfl) (fun ω C TZ TQ => ?_)
  show ω [(hB, .inr (5, [.ref b1, .ref b2, .ref b3, .ref b4, .ref b5, .ref b6, .ref b7, .ref b8, .ref b9, .ref b10])), (b1, .inr (4, [.ref c1])), (c1, .inl (eI E, 265, .inl f))] [(0, .ref hB), (1, .int n), (2, .int p), (3, .int a), (4, .int x)] [] 0
  refine r_iload_n C (i := 1) 1 dX5_slip_0 rfl rfl ?_
  exact TQ.1 _ _ _ _ [] _ 1 _ _ _ _ _ _ _ _ [] (c_X5_requireNight__t (hst := hst) (n := n) (hx := hx)) lk_X5_requireNight w_2_3 dX5_slip_1 rfl rfl rfl ⟨by decide, by decide⟩ (Nat.le_of_ble_eq_true rfl) (fun w hw _ => th_same rfl hw rfl)
set_option maxRecDepth 100000 in
set_option maxHeartbeats 1000000 in
theorem c_X5_slip__tb {l : Launch} {E : Ev} (hst : l.stackTraces = false) {hB b1 b2 b3 b4 b5 b6 b7 b8 b9 b10 : Nat} {c1 : Nat} {f : Nat → Int32} {σ : Sg} (hR : RepC σ f) (hW : Wf σ) {n : Nat} {p a x : Int32} (hn : n < 20) (hx : ¬ vI p (sP σ)) : Th l E yX5_slip cX5_slip 6 (some FieldType.int) 7 111 [.ref hB, .int (nI n), .int p, .int a, .int x] [(hB, .inr (5, [.ref b1, .ref b2, .ref b3, .ref b4, .ref b5, .ref b6, .ref b7, .ref b8, .ref b9, .ref b10])), (b1, .inr (4, [.ref c1])), (c1, .inl (eI E, 265, .inl f))] (fun w9 => w9 = [(hB, .inr (5, [.ref b1, .ref b2, .ref b3, .ref b4, .ref b5, .ref b6, .ref b7, .ref b8, .ref b9, .ref b10])), (b1, .inr (4, [.ref c1])), (c1, .inl (eI E, 265, .inl f))]) "java/lang/IndexOutOfBoundsException" := by
  have hwP := hW.P
  have hwA := hW.A
  have hwS := hW.S
  refine th_of hst (by decide +kernel) (Nat.le_of_ble_eq_true rfl) (fun ω C TZ TQ => ?_)
  show ω [(hB, .inr (5, [.ref b1, .ref b2, .ref b3, .ref b4, .ref b5, .ref b6, .ref b7, .ref b8, .ref b9, .ref b10])), (b1, .inr (4, [.ref c1])), (c1, .inl (eI E, 265, .inl f))] [(0, .ref hB), (1, .int (nI n)), (2, .int p), (3, .int a), (4, .int x)] [] 0
  refine r_iload_n C (i := 1) 1 dX5_slip_0 rfl rfl ?_
  refine r_readS (rest := []) C (c_X5_requireNight (n := n) (hn := (by omega))) lk_X5_requireNight w_2_3 [] dX5_slip_1 rfl rfl rfl ⟨by decide, by decide⟩ (Nat.le_of_ble_eq_true rfl) (st' := []) rfl ?_
  refine r_aload_n C (i := 0) 0 dX5_slip_4 rfl rfl ?_
  refine r_iload_n C (i := 2) 2 dX5_slip_5 rfl rfl ?_
  exact TQ.2 _ _ _ _ [] _ 6 _ _ _ _ _ 5 _ _ _ _ _ [0, 1, 2] _ _ (c_X5_requirePart__t (hst := hst) (hB := hB) (b1 := b1) (b2 := b2) (b3 := b3) (b4 := b4) (b5 := b5) (b6 := b6) (b7 := b7) (b8 := b8) (b9 := b9) (b10 := b10) (c1 := c1) (f := f) (σ := σ) (p := p) (hR := hR) (hW := hW) (hx := hx)) lk_X5_requirePart w_3_183 rfl dX5_slip_6 rfl rfl rfl rfl ⟨by decide, by decide⟩ (Nat.le_of_ble_eq_true rfl) (fun w hw _ => th_same rfl hw rfl)
set_option maxRecDepth 100000 in
set_option maxHeartbeats 1000000 in
theorem c_X5_slip__tc {l : Launch} {E : Ev} (hst : l.stackTraces = false) {hB b1 b2 b3 b4 b5 b6 b7 b8 b9 b10 : Nat} {c1 : Nat} {f : Nat → Int32} {σ : Sg} (hR : RepC σ f) (hW : Wf σ) {n p : Nat} {a x : Int32} (hn : n < 20) (hp : p < sP σ) (hx : ¬ vI a (sA σ)) : Th l E yX5_slip cX5_slip 6 (some FieldType.int) 7 111 [.ref hB, .int (nI n), .int (nI p), .int a, .int x] [(hB, .inr (5, [.ref b1, .ref b2, .ref b3, .ref b4, .ref b5, .ref b6, .ref b7, .ref b8, .ref b9, .ref b10])), (b1, .inr (4, [.ref c1])), (c1, .inl (eI E, 265, .inl f))] (fun w9 => w9 = [(hB, .inr (5, [.ref b1, .ref b2, .ref b3, .ref b4, .ref b5, .ref b6, .ref b7, .ref b8, .ref b9, .ref b10])), (b1, .inr (4, [.ref c1])), (c1, .inl (eI E, 265, .inl f))]) "java/lang/IndexOutOfBoundsException" := by
  have hwP := hW.P
  have hwA := hW.A
  have hwS := hW.S
  refine th_of hst (by decide +kernel) (Nat.le_of_ble_eq_true rfl) (fun ω C TZ TQ => ?_)
  show ω [(hB, .inr (5, [.ref b1, .ref b2, .ref b3, .ref b4, .ref b5, .ref b6, .ref b7, .ref b8, .ref b9, .ref b10])), (b1, .inr (4, [.ref c1])), (c1, .inl (eI E, 265, .inl f))] [(0, .ref hB), (1, .int (nI n)), (2, .int (nI p)), (3, .int a), (4, .int x)] [] 0
  refine r_iload_n C (i := 1) 1 dX5_slip_0 rfl rfl ?_
  refine r_readS (rest := []) C (c_X5_requireNight (n := n) (hn := (by omega))) lk_X5_requireNight w_2_3 [] dX5_slip_1 rfl rfl rfl ⟨by decide, by decide⟩ (Nat.le_of_ble_eq_true rfl) (st' := []) rfl ?_
  refine r_aload_n C (i := 0) 0 dX5_slip_4 rfl rfl ?_
  refine r_iload_n C (i := 2) 2 dX5_slip_5 rfl rfl ?_
  refine r_readV (rest := []) C (c_X5_requirePart (hB := hB) (b1 := b1) (b2 := b2) (b3 := b3) (b4 := b4) (b5 := b5) (b6 := b6) (b7 := b7) (b8 := b8) (b9 := b9) (b10 := b10) (c1 := c1) (f := f) (σ := σ) (p := p) (hR := hR) (hW := hW) (hx := (by omega))) lk_X5_requirePart w_3_183 [0, 1, 2] rfl dX5_slip_6 rfl rfl rfl rfl ⟨by decide, by decide⟩ (Nat.le_of_ble_eq_true rfl) (st' := []) rfl ?_
  refine r_aload_n C (i := 0) 0 dX5_slip_9 rfl rfl ?_
  refine r_iload_n C (i := 3) 3 dX5_slip_10 rfl rfl ?_
  exact TQ.2 _ _ _ _ [] _ 11 _ _ _ _ _ 5 _ _ _ _ _ [0, 1, 2] _ _ (c_X5_requireActor__t (hst := hst) (hB := hB) (b1 := b1) (b2 := b2) (b3 := b3) (b4 := b4) (b5 := b5) (b6 := b6) (b7 := b7) (b8 := b8) (b9 := b9) (b10 := b10) (c1 := c1) (f := f) (σ := σ) (a := a) (hR := hR) (hW := hW) (hx := hx)) lk_X5_requireActor w_1_167 rfl dX5_slip_11 rfl rfl rfl rfl ⟨by decide, by decide⟩ (Nat.le_of_ble_eq_true rfl) (fun w hw _ => th_same rfl hw rfl)
set_option maxRecDepth 100000 in
set_option maxHeartbeats 1000000 in
theorem c_X5_slip__td {l : Launch} {E : Ev} (hst : l.stackTraces = false) {hB b1 b2 b3 b4 b5 b6 b7 b8 b9 b10 : Nat} {c1 : Nat} {f : Nat → Int32} {σ : Sg} (hR : RepC σ f) (hW : Wf σ) {n p a : Nat} {x : Int32} (hn : n < 20) (hp : p < sP σ) (ha : a < sA σ) (hx : ¬ vI x 24) : Th l E yX5_slip cX5_slip 6 (some FieldType.int) 7 111 [.ref hB, .int (nI n), .int (nI p), .int (nI a), .int x] [(hB, .inr (5, [.ref b1, .ref b2, .ref b3, .ref b4, .ref b5, .ref b6, .ref b7, .ref b8, .ref b9, .ref b10])), (b1, .inr (4, [.ref c1])), (c1, .inl (eI E, 265, .inl f))] (fun w9 => w9 = [(hB, .inr (5, [.ref b1, .ref b2, .ref b3, .ref b4, .ref b5, .ref b6, .ref b7, .ref b8, .ref b9, .ref b10])), (b1, .inr (4, [.ref c1])), (c1, .inl (eI E, 265, .inl f))]) "java/lang/IllegalArgumentException" := by
  have hwP := hW.P
  have hwA := hW.A
  have hwS := hW.S
  refine th_of hst (by decide +kernel) (Nat.le_of_ble_eq_true rfl) (fun ω C TZ TQ => ?_)
  show ω [(hB, .inr (5, [.ref b1, .ref b2, .ref b3, .ref b4, .ref b5, .ref b6, .ref b7, .ref b8, .ref b9, .ref b10])), (b1, .inr (4, [.ref c1])), (c1, .inl (eI E, 265, .inl f))] [(0, .ref hB), (1, .int (nI n)), (2, .int (nI p)), (3, .int (nI a)), (4, .int x)] [] 0
  refine r_iload_n C (i := 1) 1 dX5_slip_0 rfl rfl ?_
  refine r_readS (rest := []) C (c_X5_requireNight (n := n) (hn := (by omega))) lk_X5_requireNight w_2_3 [] dX5_slip_1 rfl rfl rfl ⟨by decide, by decide⟩ (Nat.le_of_ble_eq_true rfl) (st' := []) rfl ?_
  refine r_aload_n C (i := 0) 0 dX5_slip_4 rfl rfl ?_
  refine r_iload_n C (i := 2) 2 dX5_slip_5 rfl rfl ?_
  refine r_readV (rest := []) C (c_X5_requirePart (hB := hB) (b1 := b1) (b2 := b2) (b3 := b3) (b4 := b4) (b5 := b5) (b6 := b6) (b7 := b7) (b8 := b8) (b9 := b9) (b10 := b10) (c1 := c1) (f := f) (σ := σ) (p := p) (hR := hR) (hW := hW) (hx := (by omega))) lk_X5_requirePart w_3_183 [0, 1, 2] rfl dX5_slip_6 rfl rfl rfl rfl ⟨by decide, by decide⟩ (Nat.le_of_ble_eq_true rfl) (st' := []) rfl ?_
  refine r_aload_n C (i := 0) 0 dX5_slip_9 rfl rfl ?_
  refine r_iload_n C (i := 3) 3 dX5_slip_10 rfl rfl ?_
  refine r_readV (rest := []) C (c_X5_requireActor (hB := hB) (b1 := b1) (b2 := b2) (b3 := b3) (b4 := b4) (b5 := b5) (b6 := b6) (b7 := b7) (b8 := b8) (b9 := b9) (b10 := b10) (c1 := c1) (f := f) (σ := σ) (a := a) (hR := hR) (hW := hW) (hx := (by omega))) lk_X5_requireActor w_1_167 [0, 1, 2] rfl dX5_slip_11 rfl rfl rfl rfl ⟨by decide, by decide⟩ (Nat.le_of_ble_eq_true rfl) (st' := []) rfl ?_
  refine r_iload C (i := 4) 4 dX5_slip_14 rfl ?_
  refine r_if_lt C (y := 0) (c9 := x < nI 0) 26 dX5_slip_16 (by decide) Iff.rfl (fun h16_1 => ?_) (fun h16_1 => ?_)
  · exact TZ.2 _ _ _ 26 _ _ _ 31 _ _ fit_A.1 fit_A.2 cl_A ini_A rfl atS_A ot_A dX5_slip_26 dX5_slip_29 dX5_slip_30 dX5_slip_33 dX5_slip_36 (by decide) (Nat.le_of_ble_eq_true rfl) rfl rfl
  · refine r_iload C (i := 4) 4 dX5_slip_19 rfl ?_
    refine r_bipush C dX5_slip_21 kb_24 ?_
    refine r_icmp_lt C (c9 := x < nI 24) 37 dX5_slip_23 (by decide) Iff.rfl (fun h23_2 => ?_) (fun h23_2 => ?_)
    · exact absurd (raw_in h16_1 h23_2 (by decide)) hx
    · exact TZ.2 _ _ _ 26 _ _ _ 31 _ _ fit_A.1 fit_A.2 cl_A ini_A rfl atS_A ot_A dX5_slip_26 dX5_slip_29 dX5_slip_30 dX5_slip_33 dX5_slip_36 (by decide) (Nat.le_of_ble_eq_true rfl) rfl rfl
set_option maxRecDepth 100000 in
set_option maxHeartbeats 1000000 in
theorem c_X5_slip__te {l : Launch} {E : Ev} (hst : l.stackTraces = false) {hB b1 b2 b3 b4 b5 b6 b7 b8 b9 b10 : Nat} {c1 : Nat} {f : Nat → Int32} {σ : Sg} (hR : RepC σ f) (hW : Wf σ) {n p a x : Nat} (hn : n < 20) (hp : p < sP σ) (ha : a < sA σ) (h24 : x < 24) (hx : ¬ sS σ < 20) : Th l E yX5_slip cX5_slip 6 (some FieldType.int) 7 111 [.ref hB, .int (nI n), .int (nI p), .int (nI a), .int (nI x)] [(hB, .inr (5, [.ref b1, .ref b2, .ref b3, .ref b4, .ref b5, .ref b6, .ref b7, .ref b8, .ref b9, .ref b10])), (b1, .inr (4, [.ref c1])), (c1, .inl (eI E, 265, .inl f))] (fun w9 => w9 = [(hB, .inr (5, [.ref b1, .ref b2, .ref b3, .ref b4, .ref b5, .ref b6, .ref b7, .ref b8, .ref b9, .ref b10])), (b1, .inr (4, [.ref c1])), (c1, .inl (eI E, 265, .inl f))]) "java/lang/IllegalStateException" := by
  have hwP := hW.P
  have hwA := hW.A
  have hwS := hW.S
  refine th_of hst (by decide +kernel) (Nat.le_of_ble_eq_true rfl) (fun ω C TZ TQ => ?_)
  show ω [(hB, .inr (5, [.ref b1, .ref b2, .ref b3, .ref b4, .ref b5, .ref b6, .ref b7, .ref b8, .ref b9, .ref b10])), (b1, .inr (4, [.ref c1])), (c1, .inl (eI E, 265, .inl f))] [(0, .ref hB), (1, .int (nI n)), (2, .int (nI p)), (3, .int (nI a)), (4, .int (nI x))] [] 0
  refine r_iload_n C (i := 1) 1 dX5_slip_0 rfl rfl ?_
  refine r_readS (rest := []) C (c_X5_requireNight (n := n) (hn := (by omega))) lk_X5_requireNight w_2_3 [] dX5_slip_1 rfl rfl rfl ⟨by decide, by decide⟩ (Nat.le_of_ble_eq_true rfl) (st' := []) rfl ?_
  refine r_aload_n C (i := 0) 0 dX5_slip_4 rfl rfl ?_
  refine r_iload_n C (i := 2) 2 dX5_slip_5 rfl rfl ?_
  refine r_readV (rest := []) C (c_X5_requirePart (hB := hB) (b1 := b1) (b2 := b2) (b3 := b3) (b4 := b4) (b5 := b5) (b6 := b6) (b7 := b7) (b8 := b8) (b9 := b9) (b10 := b10) (c1 := c1) (f := f) (σ := σ) (p := p) (hR := hR) (hW := hW) (hx := (by omega))) lk_X5_requirePart w_3_183 [0, 1, 2] rfl dX5_slip_6 rfl rfl rfl rfl ⟨by decide, by decide⟩ (Nat.le_of_ble_eq_true rfl) (st' := []) rfl ?_
  refine r_aload_n C (i := 0) 0 dX5_slip_9 rfl rfl ?_
  refine r_iload_n C (i := 3) 3 dX5_slip_10 rfl rfl ?_
  refine r_readV (rest := []) C (c_X5_requireActor (hB := hB) (b1 := b1) (b2 := b2) (b3 := b3) (b4 := b4) (b5 := b5) (b6 := b6) (b7 := b7) (b8 := b8) (b9 := b9) (b10 := b10) (c1 := c1) (f := f) (σ := σ) (a := a) (hR := hR) (hW := hW) (hx := (by omega))) lk_X5_requireActor w_1_167 [0, 1, 2] rfl dX5_slip_11 rfl rfl rfl rfl ⟨by decide, by decide⟩ (Nat.le_of_ble_eq_true rfl) (st' := []) rfl ?_
  refine r_iload C (i := 4) 4 dX5_slip_14 rfl ?_
  refine r_if_ltF C (y := 0) (tgt := 26) dX5_slip_16 (by decide) (fun z => ((by omega) : ¬ (x < 0)) ((z_ltN (by omega)).mp z)) ?_
  refine r_iload C (i := 4) 4 dX5_slip_19 rfl ?_
  refine r_bipush C dX5_slip_21 kb_24 ?_
  refine r_icmp_ltT C 37 dX5_slip_23 (by decide) ((c_ltNN (by omega) (by omega)).mpr (by omega)) ?_
  refine r_aload_n C (i := 0) 0 dX5_slip_37 rfl rfl ?_
  refine r_get C 0 0 uX5 rfl rfl (by decide) w_1_128 rfl dX5_slip_38 ?_
  refine r_iload_n C (i := 1) 1 dX5_slip_41 rfl rfl ?_
  refine r_iload_n C (i := 2) 2 dX5_slip_42 rfl rfl ?_
  refine r_iload_n C (i := 3) 3 dX5_slip_43 rfl rfl ?_
  refine r_iload C (i := 4) 4 dX5_slip_44 rfl ?_
  refine r_readV (rest := []) C (c_X4_canAddSlip (h0 := b1) (q1 := c1) (f := f) (σ := σ) (n := n) (p := p) (a := a) (h := x) (hR := hR) (hW := hW) (hn := (by omega)) (hp := (by omega)) (ha := (by omega)) (hh := (by omega))) lk_X4_canAddSlip w_5_10 [1, 2] rfl dX5_slip_46 rfl rfl rfl rfl ⟨by decide, by decide⟩ (Nat.le_of_ble_eq_true rfl) (st' := [.int (bP (n < 20 ∧ p < sP σ ∧ a < sA σ ∧ x < 24 ∧ sS σ < 20))]) rfl ?_
  refine r_if_neF C (y := 0) (tgt := 63) dX5_slip_49 (by decide) (fun z => ((fun z => hx z.2.2.2.2) : ¬ (n < 20 ∧ p < sP σ ∧ a < sA σ ∧ x < 24 ∧ sS σ < 20)) (z_neB.mp z)) ?_
  exact TZ.2 _ _ _ 52 _ _ _ 32 _ _ fit_S.1 fit_S.2 cl_S ini_S rfl atS_S ot_S dX5_slip_52 dX5_slip_55 dX5_slip_56 dX5_slip_59 dX5_slip_62 (by decide) (Nat.le_of_ble_eq_true rfl) rfl rfl
set_option maxRecDepth 100000 in
set_option maxHeartbeats 1000000 in
theorem c_X5_lose__t {l : Launch} {E : Ev} (hst : l.stackTraces = false) {hB b1 b2 b3 b4 b5 b6 b7 b8 b9 b10 : Nat} {c1 : Nat} {f : Nat → Int32} {σ : Sg} (hR : RepC σ f) (hW : Wf σ) {k : Int32} (hx : ¬ vI k (sS σ)) : Th l E yX5_lose cX5_lose 2 (some FieldType.int) 7 111 [.ref hB, .int k] [(hB, .inr (5, [.ref b1, .ref b2, .ref b3, .ref b4, .ref b5, .ref b6, .ref b7, .ref b8, .ref b9, .ref b10])), (b1, .inr (4, [.ref c1])), (c1, .inl (eI E, 265, .inl f))] (fun w9 => w9 = [(hB, .inr (5, [.ref b1, .ref b2, .ref b3, .ref b4, .ref b5, .ref b6, .ref b7, .ref b8, .ref b9, .ref b10])), (b1, .inr (4, [.ref c1])), (c1, .inl (eI E, 265, .inl f))]) "java/lang/IndexOutOfBoundsException" := by
  have hwP := hW.P
  have hwA := hW.A
  have hwS := hW.S
  refine th_of hst (by decide +kernel) (Nat.le_of_ble_eq_true rfl) (fun ω C TZ TQ => ?_)
  show ω [(hB, .inr (5, [.ref b1, .ref b2, .ref b3, .ref b4, .ref b5, .ref b6, .ref b7, .ref b8, .ref b9, .ref b10])), (b1, .inr (4, [.ref c1])), (c1, .inl (eI E, 265, .inl f))] [(0, .ref hB), (1, .int k)] [] 0
  refine r_aload_n C (i := 0) 0 dX5_lose_0 rfl rfl ?_
  refine r_iload_n C (i := 1) 1 dX5_lose_1 rfl rfl ?_
  exact TQ.2 _ _ _ _ [] _ 2 _ _ _ _ _ 5 _ _ _ _ _ [0, 1, 2] _ _ (c_X5_requireSlip__t (hst := hst) (hB := hB) (b1 := b1) (b2 := b2) (b3 := b3) (b4 := b4) (b5 := b5) (b6 := b6) (b7 := b7) (b8 := b8) (b9 := b9) (b10 := b10) (c1 := c1) (f := f) (σ := σ) (k := k) (hR := hR) (hW := hW) (hx := hx)) lk_X5_requireSlip w_4_33 rfl dX5_lose_2 rfl rfl rfl rfl ⟨by decide, by decide⟩ (Nat.le_of_ble_eq_true rfl) (fun w hw _ => th_same rfl hw rfl)
set_option maxRecDepth 100000 in
set_option maxHeartbeats 1000000 in
theorem c_X5_set__ta {l : Launch} {E : Ev} (hst : l.stackTraces = false) {hB b1 b2 b3 b4 b5 b6 b7 b8 b9 b10 : Nat} {c1 : Nat} {f : Nat → Int32} {σ : Sg} (hR : RepC σ f) (hW : Wf σ) {w v : Int32} (hx : ¬ vI w 2) : Th l E yX5_set cX5_set 4 (some FieldType.int) 7 110 [.ref hB, .int w, .int v] [(hB, .inr (5, [.ref b1, .ref b2, .ref b3, .ref b4, .ref b5, .ref b6, .ref b7, .ref b8, .ref b9, .ref b10])), (b1, .inr (4, [.ref c1])), (c1, .inl (eI E, 265, .inl f))] (fun w9 => w9 = [(hB, .inr (5, [.ref b1, .ref b2, .ref b3, .ref b4, .ref b5, .ref b6, .ref b7, .ref b8, .ref b9, .ref b10])), (b1, .inr (4, [.ref c1])), (c1, .inl (eI E, 265, .inl f))]) "java/lang/IllegalArgumentException" := by
  have hwP := hW.P
  have hwA := hW.A
  have hwS := hW.S
  refine th_of hst (by decide +kernel) (Nat.le_of_ble_eq_true rfl) (fun ω C TZ TQ => ?_)
  show ω [(hB, .inr (5, [.ref b1, .ref b2, .ref b3, .ref b4, .ref b5, .ref b6, .ref b7, .ref b8, .ref b9, .ref b10])), (b1, .inr (4, [.ref c1])), (c1, .inl (eI E, 265, .inl f))] [(0, .ref hB), (1, .int w), (2, .int v)] [] 0
  refine r_iload_n C (i := 1) 1 dX5_set_0 rfl rfl ?_
  exact TQ.1 _ _ _ _ [] _ 1 _ _ _ _ _ _ _ _ [] (c_X5_requireSetting__t (hst := hst) (w := w) (hx := hx)) lk_X5_requireSetting w_4_54 dX5_set_1 rfl rfl rfl ⟨by decide, by decide⟩ (Nat.le_of_ble_eq_true rfl) (fun w hw _ => th_same rfl hw rfl)
set_option maxRecDepth 100000 in
set_option maxHeartbeats 1000000 in
theorem c_X5_set__tb0 {l : Launch} {E : Ev} (hst : l.stackTraces = false) {hB b1 b2 b3 b4 b5 b6 b7 b8 b9 b10 : Nat} {c1 : Nat} {f : Nat → Int32} {σ : Sg} (hR : RepC σ f) (hW : Wf σ) {v : Int32} (hx : ¬ vI v 100) : Th l E yX5_set cX5_set 4 (some FieldType.int) 7 110 [.ref hB, .int (nI 0), .int v] [(hB, .inr (5, [.ref b1, .ref b2, .ref b3, .ref b4, .ref b5, .ref b6, .ref b7, .ref b8, .ref b9, .ref b10])), (b1, .inr (4, [.ref c1])), (c1, .inl (eI E, 265, .inl f))] (fun w9 => w9 = [(hB, .inr (5, [.ref b1, .ref b2, .ref b3, .ref b4, .ref b5, .ref b6, .ref b7, .ref b8, .ref b9, .ref b10])), (b1, .inr (4, [.ref c1])), (c1, .inl (eI E, 265, .inl f))]) "java/lang/IllegalArgumentException" := by
  have hwP := hW.P
  have hwA := hW.A
  have hwS := hW.S
  refine th_of hst (by decide +kernel) (Nat.le_of_ble_eq_true rfl) (fun ω C TZ TQ => ?_)
  show ω [(hB, .inr (5, [.ref b1, .ref b2, .ref b3, .ref b4, .ref b5, .ref b6, .ref b7, .ref b8, .ref b9, .ref b10])), (b1, .inr (4, [.ref c1])), (c1, .inl (eI E, 265, .inl f))] [(0, .ref hB), (1, .int (nI 0)), (2, .int v)] [] 0
  refine r_iload_n C (i := 1) 1 dX5_set_0 rfl rfl ?_
  refine r_readS (rest := []) C (c_X5_requireSetting (w := 0) (hw := (by omega))) lk_X5_requireSetting w_4_54 [] dX5_set_1 rfl rfl rfl ⟨by decide, by decide⟩ (Nat.le_of_ble_eq_true rfl) (st' := []) rfl ?_
  refine r_iload_n C (i := 2) 2 dX5_set_4 rfl rfl ?_
  refine r_if_lt C (y := 0) (c9 := v < nI 0) 23 dX5_set_5 (by decide) Iff.rfl (fun h5_1 => ?_) (fun h5_1 => ?_)
  · exact TZ.2 _ _ _ 23 _ _ _ 25 _ _ fit_A.1 fit_A.2 cl_A ini_A rfl atS_A ot_A dX5_set_23 dX5_set_26 dX5_set_27 dX5_set_30 dX5_set_33 (by decide) (Nat.le_of_ble_eq_true rfl) rfl rfl
  · refine r_iload_n C (i := 2) 2 dX5_set_8 rfl rfl ?_
    refine r_iload_n C (i := 1) 1 dX5_set_9 rfl rfl ?_
    refine r_if_neF C (y := 0) (tgt := 18) dX5_set_10 (by decide) (fun z => ((by decide) : ¬ (0 ≠ 0)) ((z_neN (by omega)).mp z)) ?_
    refine r_bipush C dX5_set_13 kb_99 ?_
    refine r_goto C 20 dX5_set_15 (by decide) ?_
    refine r_icmp_le C (c9 := v ≤ nI 99) 34 dX5_set_20 (by decide) Iff.rfl (fun h20_2 => ?_) (fun h20_2 => ?_)
    · exact absurd (raw_le h5_1 h20_2 (by decide)) hx
    · exact TZ.2 _ _ _ 23 _ _ _ 25 _ _ fit_A.1 fit_A.2 cl_A ini_A rfl atS_A ot_A dX5_set_23 dX5_set_26 dX5_set_27 dX5_set_30 dX5_set_33 (by decide) (Nat.le_of_ble_eq_true rfl) rfl rfl
set_option maxRecDepth 100000 in
set_option maxHeartbeats 1000000 in
theorem c_X5_set__tb1 {l : Launch} {E : Ev} (hst : l.stackTraces = false) {hB b1 b2 b3 b4 b5 b6 b7 b8 b9 b10 : Nat} {c1 : Nat} {f : Nat → Int32} {σ : Sg} (hR : RepC σ f) (hW : Wf σ) {v : Int32} (hx : ¬ vI v 10) : Th l E yX5_set cX5_set 4 (some FieldType.int) 7 110 [.ref hB, .int (nI 1), .int v] [(hB, .inr (5, [.ref b1, .ref b2, .ref b3, .ref b4, .ref b5, .ref b6, .ref b7, .ref b8, .ref b9, .ref b10])), (b1, .inr (4, [.ref c1])), (c1, .inl (eI E, 265, .inl f))] (fun w9 => w9 = [(hB, .inr (5, [.ref b1, .ref b2, .ref b3, .ref b4, .ref b5, .ref b6, .ref b7, .ref b8, .ref b9, .ref b10])), (b1, .inr (4, [.ref c1])), (c1, .inl (eI E, 265, .inl f))]) "java/lang/IllegalArgumentException" := by
  have hwP := hW.P
  have hwA := hW.A
  have hwS := hW.S
  refine th_of hst (by decide +kernel) (Nat.le_of_ble_eq_true rfl) (fun ω C TZ TQ => ?_)
  show ω [(hB, .inr (5, [.ref b1, .ref b2, .ref b3, .ref b4, .ref b5, .ref b6, .ref b7, .ref b8, .ref b9, .ref b10])), (b1, .inr (4, [.ref c1])), (c1, .inl (eI E, 265, .inl f))] [(0, .ref hB), (1, .int (nI 1)), (2, .int v)] [] 0
  refine r_iload_n C (i := 1) 1 dX5_set_0 rfl rfl ?_
  refine r_readS (rest := []) C (c_X5_requireSetting (w := 1) (hw := (by omega))) lk_X5_requireSetting w_4_54 [] dX5_set_1 rfl rfl rfl ⟨by decide, by decide⟩ (Nat.le_of_ble_eq_true rfl) (st' := []) rfl ?_
  refine r_iload_n C (i := 2) 2 dX5_set_4 rfl rfl ?_
  refine r_if_lt C (y := 0) (c9 := v < nI 0) 23 dX5_set_5 (by decide) Iff.rfl (fun h5_1 => ?_) (fun h5_1 => ?_)
  · exact TZ.2 _ _ _ 23 _ _ _ 25 _ _ fit_A.1 fit_A.2 cl_A ini_A rfl atS_A ot_A dX5_set_23 dX5_set_26 dX5_set_27 dX5_set_30 dX5_set_33 (by decide) (Nat.le_of_ble_eq_true rfl) rfl rfl
  · refine r_iload_n C (i := 2) 2 dX5_set_8 rfl rfl ?_
    refine r_iload_n C (i := 1) 1 dX5_set_9 rfl rfl ?_
    refine r_if_neT C (y := 0) 18 dX5_set_10 (by decide) ((z_neN (by omega)).mpr (by decide)) ?_
    refine r_bipush C dX5_set_18 kb_9 ?_
    refine r_icmp_le C (c9 := v ≤ nI 9) 34 dX5_set_20 (by decide) Iff.rfl (fun h20_2 => ?_) (fun h20_2 => ?_)
    · exact absurd (raw_le h5_1 h20_2 (by decide)) hx
    · exact TZ.2 _ _ _ 23 _ _ _ 25 _ _ fit_A.1 fit_A.2 cl_A ini_A rfl atS_A ot_A dX5_set_23 dX5_set_26 dX5_set_27 dX5_set_30 dX5_set_33 (by decide) (Nat.le_of_ble_eq_true rfl) rfl rfl
set_option maxRecDepth 100000 in
set_option maxHeartbeats 1000000 in
theorem c_X5_undo__t {l : Launch} {E : Ev} (hst : l.stackTraces = false) {hB b1 b2 b3 b4 b5 b6 b7 b8 b9 b10 : Nat} {c3 od cnt : Nat} (hx : cnt = 0) : Th l E yX5_undo cX5_undo 1 (some FieldType.int) 6 90 [.ref hB] [(hB, .inr (5, [.ref b1, .ref b2, .ref b3, .ref b4, .ref b5, .ref b6, .ref b7, .ref b8, .ref b9, .ref b10])), (b3, .inr (1, [.ref c3, .int (nI od), .int (nI cnt)]))] (fun w9 => w9 = [(hB, .inr (5, [.ref b1, .ref b2, .ref b3, .ref b4, .ref b5, .ref b6, .ref b7, .ref b8, .ref b9, .ref b10])), (b3, .inr (1, [.ref c3, .int (nI od), .int (nI cnt)]))]) "java/lang/IllegalStateException" := by
  refine th_of hst (by decide +kernel) (Nat.le_of_ble_eq_true rfl) (fun ω C TZ TQ => ?_)
  show ω [(hB, .inr (5, [.ref b1, .ref b2, .ref b3, .ref b4, .ref b5, .ref b6, .ref b7, .ref b8, .ref b9, .ref b10])), (b3, .inr (1, [.ref c3, .int (nI od), .int (nI cnt)]))] [(0, .ref hB)] [] 0
  refine r_aload_n C (i := 0) 0 dX5_undo_0 rfl rfl ?_
  refine r_get C 0 2 uX5 rfl rfl (by decide) w_1_130 rfl dX5_undo_1 ?_
  refine r_readV (rest := []) C (c_X1_size (hh := b3) (hr := c3) (od := od) (cnt := cnt) ) lk_X1_size w_4_141 [1] rfl dX5_undo_4 rfl rfl rfl rfl ⟨by decide, by decide⟩ (Nat.le_of_ble_eq_true rfl) (st' := [.int (nI cnt)]) rfl ?_
  refine r_if_neF C (y := 0) (tgt := 21) dX5_undo_7 (by decide) (fun z => ((by omega) : ¬ (cnt ≠ 0)) ((z_neN (by omega)).mp z)) ?_
  exact TZ.2 _ _ _ 10 _ _ _ 26 _ _ fit_S.1 fit_S.2 cl_S ini_S rfl atS_S ot_S dX5_undo_10 dX5_undo_13 dX5_undo_14 dX5_undo_17 dX5_undo_20 (by decide) (Nat.le_of_ble_eq_true rfl) rfl rfl
set_option maxRecDepth 100000 in
set_option maxHeartbeats 1000000 in
theorem c_X5_find__ta {l : Launch} {E : Ev} (hst : l.stackTraces = false) {hB b1 b2 b3 b4 b5 b6 b7 b8 b9 b10 : Nat} {c1 : Nat} {f : Nat → Int32} {σ : Sg} (hR : RepC σ f) (hW : Wf σ) {p a : Int32} {k : Int32} (hx : ¬ vI p (sP σ)) : Th l E yX5_find cX5_find 7 (some FieldType.int) 7 119 [.ref hB, .int p, .int a, .int k] [(hB, .inr (5, [.ref b1, .ref b2, .ref b3, .ref b4, .ref b5, .ref b6, .ref b7, .ref b8, .ref b9, .ref b10])), (b1, .inr (4, [.ref c1])), (c1, .inl (eI E, 265, .inl f))] (fun w9 => w9 = [(hB, .inr (5, [.ref b1, .ref b2, .ref b3, .ref b4, .ref b5, .ref b6, .ref b7, .ref b8, .ref b9, .ref b10])), (b1, .inr (4, [.ref c1])), (c1, .inl (eI E, 265, .inl f))]) "java/lang/IndexOutOfBoundsException" := by
  have hwP := hW.P
  have hwA := hW.A
  have hwS := hW.S
  refine th_of hst (by decide +kernel) (Nat.le_of_ble_eq_true rfl) (fun ω C TZ TQ => ?_)
  show ω [(hB, .inr (5, [.ref b1, .ref b2, .ref b3, .ref b4, .ref b5, .ref b6, .ref b7, .ref b8, .ref b9, .ref b10])), (b1, .inr (4, [.ref c1])), (c1, .inl (eI E, 265, .inl f))] [(0, .ref hB), (1, .int p), (2, .int a), (3, .int k)] [] 0
  refine r_aload_n C (i := 0) 0 dX5_find_0 rfl rfl ?_
  refine r_iload_n C (i := 1) 1 dX5_find_1 rfl rfl ?_
  exact TQ.2 _ _ _ _ [] _ 2 _ _ _ _ _ 5 _ _ _ _ _ [0, 1, 2] _ _ (c_X5_requirePart__t (hst := hst) (hB := hB) (b1 := b1) (b2 := b2) (b3 := b3) (b4 := b4) (b5 := b5) (b6 := b6) (b7 := b7) (b8 := b8) (b9 := b9) (b10 := b10) (c1 := c1) (f := f) (σ := σ) (p := p) (hR := hR) (hW := hW) (hx := hx)) lk_X5_requirePart w_3_183 rfl dX5_find_2 rfl rfl rfl rfl ⟨by decide, by decide⟩ (Nat.le_of_ble_eq_true rfl) (fun w hw _ => th_same rfl hw rfl)
set_option maxRecDepth 100000 in
set_option maxHeartbeats 1000000 in
theorem c_X5_find__tb {l : Launch} {E : Ev} (hst : l.stackTraces = false) {hB b1 b2 b3 b4 b5 b6 b7 b8 b9 b10 : Nat} {c1 : Nat} {f : Nat → Int32} {σ : Sg} (hR : RepC σ f) (hW : Wf σ) {p : Nat} {a : Int32} {k : Int32} (h1 : p < sP σ) (hx : ¬ vI a (sA σ)) : Th l E yX5_find cX5_find 7 (some FieldType.int) 7 119 [.ref hB, .int (nI p), .int a, .int k] [(hB, .inr (5, [.ref b1, .ref b2, .ref b3, .ref b4, .ref b5, .ref b6, .ref b7, .ref b8, .ref b9, .ref b10])), (b1, .inr (4, [.ref c1])), (c1, .inl (eI E, 265, .inl f))] (fun w9 => w9 = [(hB, .inr (5, [.ref b1, .ref b2, .ref b3, .ref b4, .ref b5, .ref b6, .ref b7, .ref b8, .ref b9, .ref b10])), (b1, .inr (4, [.ref c1])), (c1, .inl (eI E, 265, .inl f))]) "java/lang/IndexOutOfBoundsException" := by
  have hwP := hW.P
  have hwA := hW.A
  have hwS := hW.S
  refine th_of hst (by decide +kernel) (Nat.le_of_ble_eq_true rfl) (fun ω C TZ TQ => ?_)
  show ω [(hB, .inr (5, [.ref b1, .ref b2, .ref b3, .ref b4, .ref b5, .ref b6, .ref b7, .ref b8, .ref b9, .ref b10])), (b1, .inr (4, [.ref c1])), (c1, .inl (eI E, 265, .inl f))] [(0, .ref hB), (1, .int (nI p)), (2, .int a), (3, .int k)] [] 0
  refine r_aload_n C (i := 0) 0 dX5_find_0 rfl rfl ?_
  refine r_iload_n C (i := 1) 1 dX5_find_1 rfl rfl ?_
  refine r_readV (rest := []) C (c_X5_requirePart (hB := hB) (b1 := b1) (b2 := b2) (b3 := b3) (b4 := b4) (b5 := b5) (b6 := b6) (b7 := b7) (b8 := b8) (b9 := b9) (b10 := b10) (c1 := c1) (f := f) (σ := σ) (p := p) (hR := hR) (hW := hW) (hx := (by omega))) lk_X5_requirePart w_3_183 [0, 1, 2] rfl dX5_find_2 rfl rfl rfl rfl ⟨by decide, by decide⟩ (Nat.le_of_ble_eq_true rfl) (st' := []) rfl ?_
  refine r_aload_n C (i := 0) 0 dX5_find_5 rfl rfl ?_
  refine r_iload_n C (i := 2) 2 dX5_find_6 rfl rfl ?_
  exact TQ.2 _ _ _ _ [] _ 7 _ _ _ _ _ 5 _ _ _ _ _ [0, 1, 2] _ _ (c_X5_requireActor__t (hst := hst) (hB := hB) (b1 := b1) (b2 := b2) (b3 := b3) (b4 := b4) (b5 := b5) (b6 := b6) (b7 := b7) (b8 := b8) (b9 := b9) (b10 := b10) (c1 := c1) (f := f) (σ := σ) (a := a) (hR := hR) (hW := hW) (hx := hx)) lk_X5_requireActor w_1_167 rfl dX5_find_7 rfl rfl rfl rfl ⟨by decide, by decide⟩ (Nat.le_of_ble_eq_true rfl) (fun w hw _ => th_same rfl hw rfl)
set_option maxRecDepth 100000 in
set_option maxHeartbeats 1000000 in
theorem c_X5_find__tc {l : Launch} {E : Ev} (hst : l.stackTraces = false) {hB b1 b2 b3 b4 b5 b6 b7 b8 b9 b10 : Nat} {c1 : Nat} {f : Nat → Int32} {σ : Sg} (hR : RepC σ f) (hW : Wf σ) {p a : Nat} {k : Int32} (hp : p < sP σ) (ha : a < sA σ) (hx : k < 0) : Th l E yX5_find cX5_find 7 (some FieldType.int) 7 119 [.ref hB, .int (nI p), .int (nI a), .int k] [(hB, .inr (5, [.ref b1, .ref b2, .ref b3, .ref b4, .ref b5, .ref b6, .ref b7, .ref b8, .ref b9, .ref b10])), (b1, .inr (4, [.ref c1])), (c1, .inl (eI E, 265, .inl f))] (fun w9 => w9 = [(hB, .inr (5, [.ref b1, .ref b2, .ref b3, .ref b4, .ref b5, .ref b6, .ref b7, .ref b8, .ref b9, .ref b10])), (b1, .inr (4, [.ref c1])), (c1, .inl (eI E, 265, .inl f))]) "java/lang/IllegalArgumentException" := by
  have hwP := hW.P
  have hwA := hW.A
  have hwS := hW.S
  refine th_of hst (by decide +kernel) (Nat.le_of_ble_eq_true rfl) (fun ω C TZ TQ => ?_)
  show ω [(hB, .inr (5, [.ref b1, .ref b2, .ref b3, .ref b4, .ref b5, .ref b6, .ref b7, .ref b8, .ref b9, .ref b10])), (b1, .inr (4, [.ref c1])), (c1, .inl (eI E, 265, .inl f))] [(0, .ref hB), (1, .int (nI p)), (2, .int (nI a)), (3, .int k)] [] 0
  refine r_aload_n C (i := 0) 0 dX5_find_0 rfl rfl ?_
  refine r_iload_n C (i := 1) 1 dX5_find_1 rfl rfl ?_
  refine r_readV (rest := []) C (c_X5_requirePart (hB := hB) (b1 := b1) (b2 := b2) (b3 := b3) (b4 := b4) (b5 := b5) (b6 := b6) (b7 := b7) (b8 := b8) (b9 := b9) (b10 := b10) (c1 := c1) (f := f) (σ := σ) (p := p) (hR := hR) (hW := hW) (hx := (by omega))) lk_X5_requirePart w_3_183 [0, 1, 2] rfl dX5_find_2 rfl rfl rfl rfl ⟨by decide, by decide⟩ (Nat.le_of_ble_eq_true rfl) (st' := []) rfl ?_
  refine r_aload_n C (i := 0) 0 dX5_find_5 rfl rfl ?_
  refine r_iload_n C (i := 2) 2 dX5_find_6 rfl rfl ?_
  refine r_readV (rest := []) C (c_X5_requireActor (hB := hB) (b1 := b1) (b2 := b2) (b3 := b3) (b4 := b4) (b5 := b5) (b6 := b6) (b7 := b7) (b8 := b8) (b9 := b9) (b10 := b10) (c1 := c1) (f := f) (σ := σ) (a := a) (hR := hR) (hW := hW) (hx := (by omega))) lk_X5_requireActor w_1_167 [0, 1, 2] rfl dX5_find_7 rfl rfl rfl rfl ⟨by decide, by decide⟩ (Nat.le_of_ble_eq_true rfl) (st' := []) rfl ?_
  refine r_iload_n C (i := 3) 3 dX5_find_10 rfl rfl ?_
  refine r_if_geF C (y := 0) (tgt := 25) dX5_find_11 (by decide) (fun z => ((fun z => Int32.lt_irrefl (Int32.lt_of_lt_of_le hx z)) : ¬ (0 ≤ k)) (Iff.rfl.mp z)) ?_
  exact TZ.2 _ _ _ 14 _ _ _ 27 _ _ fit_A.1 fit_A.2 cl_A ini_A rfl atS_A ot_A dX5_find_14 dX5_find_17 dX5_find_18 dX5_find_21 dX5_find_24 (by decide) (Nat.le_of_ble_eq_true rfl) rfl rfl
set_option maxRecDepth 100000 in
set_option maxHeartbeats 1000000 in
theorem c_X5_together__ta {l : Launch} {E : Ev} (hst : l.stackTraces = false) {hB b1 b2 b3 b4 b5 b6 b7 b8 b9 b10 : Nat} {c1 : Nat} {f : Nat → Int32} {σ : Sg} (hR : RepC σ f) (hW : Wf σ) {a b : Int32} (hx : ¬ vI a (sA σ)) : Th l E yX5_together cX5_together 3 (some FieldType.int) 7 118 [.ref hB, .int a, .int b] [(hB, .inr (5, [.ref b1, .ref b2, .ref b3, .ref b4, .ref b5, .ref b6, .ref b7, .ref b8, .ref b9, .ref b10])), (b1, .inr (4, [.ref c1])), (c1, .inl (eI E, 265, .inl f))] (fun w9 => w9 = [(hB, .inr (5, [.ref b1, .ref b2, .ref b3, .ref b4, .ref b5, .ref b6, .ref b7, .ref b8, .ref b9, .ref b10])), (b1, .inr (4, [.ref c1])), (c1, .inl (eI E, 265, .inl f))]) "java/lang/IndexOutOfBoundsException" := by
  have hwP := hW.P
  have hwA := hW.A
  have hwS := hW.S
  refine th_of hst (by decide +kernel) (Nat.le_of_ble_eq_true rfl) (fun ω C TZ TQ => ?_)
  show ω [(hB, .inr (5, [.ref b1, .ref b2, .ref b3, .ref b4, .ref b5, .ref b6, .ref b7, .ref b8, .ref b9, .ref b10])), (b1, .inr (4, [.ref c1])), (c1, .inl (eI E, 265, .inl f))] [(0, .ref hB), (1, .int a), (2, .int b)] [] 0
  refine r_aload_n C (i := 0) 0 dX5_together_0 rfl rfl ?_
  refine r_iload_n C (i := 1) 1 dX5_together_1 rfl rfl ?_
  exact TQ.2 _ _ _ _ [] _ 2 _ _ _ _ _ 5 _ _ _ _ _ [0, 1, 2] _ _ (c_X5_requireActor__t (hst := hst) (hB := hB) (b1 := b1) (b2 := b2) (b3 := b3) (b4 := b4) (b5 := b5) (b6 := b6) (b7 := b7) (b8 := b8) (b9 := b9) (b10 := b10) (c1 := c1) (f := f) (σ := σ) (a := a) (hR := hR) (hW := hW) (hx := hx)) lk_X5_requireActor w_1_167 rfl dX5_together_2 rfl rfl rfl rfl ⟨by decide, by decide⟩ (Nat.le_of_ble_eq_true rfl) (fun w hw _ => th_same rfl hw rfl)
set_option maxRecDepth 100000 in
set_option maxHeartbeats 1000000 in
theorem c_X5_together__tb {l : Launch} {E : Ev} (hst : l.stackTraces = false) {hB b1 b2 b3 b4 b5 b6 b7 b8 b9 b10 : Nat} {c1 : Nat} {f : Nat → Int32} {σ : Sg} (hR : RepC σ f) (hW : Wf σ) {a : Nat} {b : Int32} (h1 : a < sA σ) (hx : ¬ vI b (sA σ)) : Th l E yX5_together cX5_together 3 (some FieldType.int) 7 118 [.ref hB, .int (nI a), .int b] [(hB, .inr (5, [.ref b1, .ref b2, .ref b3, .ref b4, .ref b5, .ref b6, .ref b7, .ref b8, .ref b9, .ref b10])), (b1, .inr (4, [.ref c1])), (c1, .inl (eI E, 265, .inl f))] (fun w9 => w9 = [(hB, .inr (5, [.ref b1, .ref b2, .ref b3, .ref b4, .ref b5, .ref b6, .ref b7, .ref b8, .ref b9, .ref b10])), (b1, .inr (4, [.ref c1])), (c1, .inl (eI E, 265, .inl f))]) "java/lang/IndexOutOfBoundsException" := by
  have hwP := hW.P
  have hwA := hW.A
  have hwS := hW.S
  refine th_of hst (by decide +kernel) (Nat.le_of_ble_eq_true rfl) (fun ω C TZ TQ => ?_)
  show ω [(hB, .inr (5, [.ref b1, .ref b2, .ref b3, .ref b4, .ref b5, .ref b6, .ref b7, .ref b8, .ref b9, .ref b10])), (b1, .inr (4, [.ref c1])), (c1, .inl (eI E, 265, .inl f))] [(0, .ref hB), (1, .int (nI a)), (2, .int b)] [] 0
  refine r_aload_n C (i := 0) 0 dX5_together_0 rfl rfl ?_
  refine r_iload_n C (i := 1) 1 dX5_together_1 rfl rfl ?_
  refine r_readV (rest := []) C (c_X5_requireActor (hB := hB) (b1 := b1) (b2 := b2) (b3 := b3) (b4 := b4) (b5 := b5) (b6 := b6) (b7 := b7) (b8 := b8) (b9 := b9) (b10 := b10) (c1 := c1) (f := f) (σ := σ) (a := a) (hR := hR) (hW := hW) (hx := (by omega))) lk_X5_requireActor w_1_167 [0, 1, 2] rfl dX5_together_2 rfl rfl rfl rfl ⟨by decide, by decide⟩ (Nat.le_of_ble_eq_true rfl) (st' := []) rfl ?_
  refine r_aload_n C (i := 0) 0 dX5_together_5 rfl rfl ?_
  refine r_iload_n C (i := 2) 2 dX5_together_6 rfl rfl ?_
  exact TQ.2 _ _ _ _ [] _ 7 _ _ _ _ _ 5 _ _ _ _ _ [0, 1, 2] _ _ (c_X5_requireActor__t (hst := hst) (hB := hB) (b1 := b1) (b2 := b2) (b3 := b3) (b4 := b4) (b5 := b5) (b6 := b6) (b7 := b7) (b8 := b8) (b9 := b9) (b10 := b10) (c1 := c1) (f := f) (σ := σ) (a := b) (hR := hR) (hW := hW) (hx := hx)) lk_X5_requireActor w_1_167 rfl dX5_together_7 rfl rfl rfl rfl ⟨by decide, by decide⟩ (Nat.le_of_ble_eq_true rfl) (fun w hw _ => th_same rfl hw rfl)
set_option maxRecDepth 100000 in
set_option maxHeartbeats 1000000 in
theorem c_X5_longest__ta {l : Launch} {E : Ev} (hst : l.stackTraces = false) {hB b1 b2 b3 b4 b5 b6 b7 b8 b9 b10 : Nat} {c1 : Nat} {f : Nat → Int32} {σ : Sg} (hR : RepC σ f) (hW : Wf σ) {p a : Int32} (hx : ¬ vI p (sP σ)) : Th l E yX5_longest cX5_longest 7 (some FieldType.int) 7 119 [.ref hB, .int p, .int a] [(hB, .inr (5, [.ref b1, .ref b2, .ref b3, .ref b4, .ref b5, .ref b6, .ref b7, .ref b8, .ref b9, .ref b10])), (b1, .inr (4, [.ref c1])), (c1, .inl (eI E, 265, .inl f))] (fun w9 => w9 = [(hB, .inr (5, [.ref b1, .ref b2, .ref b3, .ref b4, .ref b5, .ref b6, .ref b7, .ref b8, .ref b9, .ref b10])), (b1, .inr (4, [.ref c1])), (c1, .inl (eI E, 265, .inl f))]) "java/lang/IndexOutOfBoundsException" := by
  have hwP := hW.P
  have hwA := hW.A
  have hwS := hW.S
  refine th_of hst (by decide +kernel) (Nat.le_of_ble_eq_true rfl) (fun ω C TZ TQ => ?_)
  show ω [(hB, .inr (5, [.ref b1, .ref b2, .ref b3, .ref b4, .ref b5, .ref b6, .ref b7, .ref b8, .ref b9, .ref b10])), (b1, .inr (4, [.ref c1])), (c1, .inl (eI E, 265, .inl f))] [(0, .ref hB), (1, .int p), (2, .int a)] [] 0
  refine r_aload_n C (i := 0) 0 dX5_longest_0 rfl rfl ?_
  refine r_iload_n C (i := 1) 1 dX5_longest_1 rfl rfl ?_
  exact TQ.2 _ _ _ _ [] _ 2 _ _ _ _ _ 5 _ _ _ _ _ [0, 1, 2] _ _ (c_X5_requirePart__t (hst := hst) (hB := hB) (b1 := b1) (b2 := b2) (b3 := b3) (b4 := b4) (b5 := b5) (b6 := b6) (b7 := b7) (b8 := b8) (b9 := b9) (b10 := b10) (c1 := c1) (f := f) (σ := σ) (p := p) (hR := hR) (hW := hW) (hx := hx)) lk_X5_requirePart w_3_183 rfl dX5_longest_2 rfl rfl rfl rfl ⟨by decide, by decide⟩ (Nat.le_of_ble_eq_true rfl) (fun w hw _ => th_same rfl hw rfl)
set_option maxRecDepth 100000 in
set_option maxHeartbeats 1000000 in
theorem c_X5_longest__tb {l : Launch} {E : Ev} (hst : l.stackTraces = false) {hB b1 b2 b3 b4 b5 b6 b7 b8 b9 b10 : Nat} {c1 : Nat} {f : Nat → Int32} {σ : Sg} (hR : RepC σ f) (hW : Wf σ) {p : Nat} {a : Int32} (h1 : p < sP σ) (hx : ¬ vI a (sA σ)) : Th l E yX5_longest cX5_longest 7 (some FieldType.int) 7 119 [.ref hB, .int (nI p), .int a] [(hB, .inr (5, [.ref b1, .ref b2, .ref b3, .ref b4, .ref b5, .ref b6, .ref b7, .ref b8, .ref b9, .ref b10])), (b1, .inr (4, [.ref c1])), (c1, .inl (eI E, 265, .inl f))] (fun w9 => w9 = [(hB, .inr (5, [.ref b1, .ref b2, .ref b3, .ref b4, .ref b5, .ref b6, .ref b7, .ref b8, .ref b9, .ref b10])), (b1, .inr (4, [.ref c1])), (c1, .inl (eI E, 265, .inl f))]) "java/lang/IndexOutOfBoundsException" := by
  have hwP := hW.P
  have hwA := hW.A
  have hwS := hW.S
  refine th_of hst (by decide +kernel) (Nat.le_of_ble_eq_true rfl) (fun ω C TZ TQ => ?_)
  show ω [(hB, .inr (5, [.ref b1, .ref b2, .ref b3, .ref b4, .ref b5, .ref b6, .ref b7, .ref b8, .ref b9, .ref b10])), (b1, .inr (4, [.ref c1])), (c1, .inl (eI E, 265, .inl f))] [(0, .ref hB), (1, .int (nI p)), (2, .int a)] [] 0
  refine r_aload_n C (i := 0) 0 dX5_longest_0 rfl rfl ?_
  refine r_iload_n C (i := 1) 1 dX5_longest_1 rfl rfl ?_
  refine r_readV (rest := []) C (c_X5_requirePart (hB := hB) (b1 := b1) (b2 := b2) (b3 := b3) (b4 := b4) (b5 := b5) (b6 := b6) (b7 := b7) (b8 := b8) (b9 := b9) (b10 := b10) (c1 := c1) (f := f) (σ := σ) (p := p) (hR := hR) (hW := hW) (hx := (by omega))) lk_X5_requirePart w_3_183 [0, 1, 2] rfl dX5_longest_2 rfl rfl rfl rfl ⟨by decide, by decide⟩ (Nat.le_of_ble_eq_true rfl) (st' := []) rfl ?_
  refine r_aload_n C (i := 0) 0 dX5_longest_5 rfl rfl ?_
  refine r_iload_n C (i := 2) 2 dX5_longest_6 rfl rfl ?_
  exact TQ.2 _ _ _ _ [] _ 7 _ _ _ _ _ 5 _ _ _ _ _ [0, 1, 2] _ _ (c_X5_requireActor__t (hst := hst) (hB := hB) (b1 := b1) (b2 := b2) (b3 := b3) (b4 := b4) (b5 := b5) (b6 := b6) (b7 := b7) (b8 := b8) (b9 := b9) (b10 := b10) (c1 := c1) (f := f) (σ := σ) (a := a) (hR := hR) (hW := hW) (hx := hx)) lk_X5_requireActor w_1_167 rfl dX5_longest_7 rfl rfl rfl rfl ⟨by decide, by decide⟩ (Nat.le_of_ble_eq_true rfl) (fun w hw _ => th_same rfl hw rfl)
set_option maxRecDepth 100000 in
set_option maxHeartbeats 1000000 in
theorem c_X5_ifIll__ta {l : Launch} {E : Ev} (hst : l.stackTraces = false) {hB b1 b2 b3 b4 b5 b6 b7 b8 b9 b10 : Nat} {c1 : Nat} {f : Nat → Int32} {σ : Sg} (hR : RepC σ f) (hW : Wf σ) {a n : Int32} {w : Int32} (hx : ¬ vI a (sA σ)) : Th l E yX5_ifIll cX5_ifIll 4 (some FieldType.int) 7 111 [.ref hB, .int a, .int n, .int w] [(hB, .inr (5, [.ref b1, .ref b2, .ref b3, .ref b4, .ref b5, .ref b6, .ref b7, .ref b8, .ref b9, .ref b10])), (b1, .inr (4, [.ref c1])), (c1, .inl (eI E, 265, .inl f))] (fun w9 => w9 = [(hB, .inr (5, [.ref b1, .ref b2, .ref b3, .ref b4, .ref b5, .ref b6, .ref b7, .ref b8, .ref b9, .ref b10])), (b1, .inr (4, [.ref c1])), (c1, .inl (eI E, 265, .inl f))]) "java/lang/IndexOutOfBoundsException" := by
  have hwP := hW.P
  have hwA := hW.A
  have hwS := hW.S
  refine th_of hst (by decide +kernel) (Nat.le_of_ble_eq_true rfl) (fun ω C TZ TQ => ?_)
  show ω [(hB, .inr (5, [.ref b1, .ref b2, .ref b3, .ref b4, .ref b5, .ref b6, .ref b7, .ref b8, .ref b9, .ref b10])), (b1, .inr (4, [.ref c1])), (c1, .inl (eI E, 265, .inl f))] [(0, .ref hB), (1, .int a), (2, .int n), (3, .int w)] [] 0
  refine r_aload_n C (i := 0) 0 dX5_ifIll_0 rfl rfl ?_
  refine r_iload_n C (i := 1) 1 dX5_ifIll_1 rfl rfl ?_
  exact TQ.2 _ _ _ _ [] _ 2 _ _ _ _ _ 5 _ _ _ _ _ [0, 1, 2] _ _ (c_X5_requireActor__t (hst := hst) (hB := hB) (b1 := b1) (b2 := b2) (b3 := b3) (b4 := b4) (b5 := b5) (b6 := b6) (b7 := b7) (b8 := b8) (b9 := b9) (b10 := b10) (c1 := c1) (f := f) (σ := σ) (a := a) (hR := hR) (hW := hW) (hx := hx)) lk_X5_requireActor w_1_167 rfl dX5_ifIll_2 rfl rfl rfl rfl ⟨by decide, by decide⟩ (Nat.le_of_ble_eq_true rfl) (fun w hw _ => th_same rfl hw rfl)
set_option maxRecDepth 100000 in
set_option maxHeartbeats 1000000 in
theorem c_X5_ifIll__tb {l : Launch} {E : Ev} (hst : l.stackTraces = false) {hB b1 b2 b3 b4 b5 b6 b7 b8 b9 b10 : Nat} {c1 : Nat} {f : Nat → Int32} {σ : Sg} (hR : RepC σ f) (hW : Wf σ) {a : Nat} {n : Int32} {w : Int32} (h1 : a < sA σ) (hx : ¬ vI n 20) : Th l E yX5_ifIll cX5_ifIll 4 (some FieldType.int) 7 111 [.ref hB, .int (nI a), .int n, .int w] [(hB, .inr (5, [.ref b1, .ref b2, .ref b3, .ref b4, .ref b5, .ref b6, .ref b7, .ref b8, .ref b9, .ref b10])), (b1, .inr (4, [.ref c1])), (c1, .inl (eI E, 265, .inl f))] (fun w9 => w9 = [(hB, .inr (5, [.ref b1, .ref b2, .ref b3, .ref b4, .ref b5, .ref b6, .ref b7, .ref b8, .ref b9, .ref b10])), (b1, .inr (4, [.ref c1])), (c1, .inl (eI E, 265, .inl f))]) "java/lang/IndexOutOfBoundsException" := by
  have hwP := hW.P
  have hwA := hW.A
  have hwS := hW.S
  refine th_of hst (by decide +kernel) (Nat.le_of_ble_eq_true rfl) (fun ω C TZ TQ => ?_)
  show ω [(hB, .inr (5, [.ref b1, .ref b2, .ref b3, .ref b4, .ref b5, .ref b6, .ref b7, .ref b8, .ref b9, .ref b10])), (b1, .inr (4, [.ref c1])), (c1, .inl (eI E, 265, .inl f))] [(0, .ref hB), (1, .int (nI a)), (2, .int n), (3, .int w)] [] 0
  refine r_aload_n C (i := 0) 0 dX5_ifIll_0 rfl rfl ?_
  refine r_iload_n C (i := 1) 1 dX5_ifIll_1 rfl rfl ?_
  refine r_readV (rest := []) C (c_X5_requireActor (hB := hB) (b1 := b1) (b2 := b2) (b3 := b3) (b4 := b4) (b5 := b5) (b6 := b6) (b7 := b7) (b8 := b8) (b9 := b9) (b10 := b10) (c1 := c1) (f := f) (σ := σ) (a := a) (hR := hR) (hW := hW) (hx := (by omega))) lk_X5_requireActor w_1_167 [0, 1, 2] rfl dX5_ifIll_2 rfl rfl rfl rfl ⟨by decide, by decide⟩ (Nat.le_of_ble_eq_true rfl) (st' := []) rfl ?_
  refine r_iload_n C (i := 2) 2 dX5_ifIll_5 rfl rfl ?_
  exact TQ.1 _ _ _ _ [] _ 6 _ _ _ _ _ _ _ _ [] (c_X5_requireNight__t (hst := hst) (n := n) (hx := hx)) lk_X5_requireNight w_2_3 dX5_ifIll_6 rfl rfl rfl ⟨by decide, by decide⟩ (Nat.le_of_ble_eq_true rfl) (fun w hw _ => th_same rfl hw rfl)
set_option maxRecDepth 100000 in
set_option maxHeartbeats 1000000 in
theorem c_X5_ifIll__tc {l : Launch} {E : Ev} (hst : l.stackTraces = false) {hB b1 b2 b3 b4 b5 b6 b7 b8 b9 b10 : Nat} {c1 : Nat} {f : Nat → Int32} {σ : Sg} (hR : RepC σ f) (hW : Wf σ) {a n : Nat} {w : Int32} (ha : a < sA σ) (hn : n < 20) (hx : ¬ vI w 2) : Th l E yX5_ifIll cX5_ifIll 4 (some FieldType.int) 7 111 [.ref hB, .int (nI a), .int (nI n), .int w] [(hB, .inr (5, [.ref b1, .ref b2, .ref b3, .ref b4, .ref b5, .ref b6, .ref b7, .ref b8, .ref b9, .ref b10])), (b1, .inr (4, [.ref c1])), (c1, .inl (eI E, 265, .inl f))] (fun w9 => w9 = [(hB, .inr (5, [.ref b1, .ref b2, .ref b3, .ref b4, .ref b5, .ref b6, .ref b7, .ref b8, .ref b9, .ref b10])), (b1, .inr (4, [.ref c1])), (c1, .inl (eI E, 265, .inl f))]) "java/lang/IllegalArgumentException" := by
  have hwP := hW.P
  have hwA := hW.A
  have hwS := hW.S
  refine th_of hst (by decide +kernel) (Nat.le_of_ble_eq_true rfl) (fun ω C TZ TQ => ?_)
  show ω [(hB, .inr (5, [.ref b1, .ref b2, .ref b3, .ref b4, .ref b5, .ref b6, .ref b7, .ref b8, .ref b9, .ref b10])), (b1, .inr (4, [.ref c1])), (c1, .inl (eI E, 265, .inl f))] [(0, .ref hB), (1, .int (nI a)), (2, .int (nI n)), (3, .int w)] [] 0
  refine r_aload_n C (i := 0) 0 dX5_ifIll_0 rfl rfl ?_
  refine r_iload_n C (i := 1) 1 dX5_ifIll_1 rfl rfl ?_
  refine r_readV (rest := []) C (c_X5_requireActor (hB := hB) (b1 := b1) (b2 := b2) (b3 := b3) (b4 := b4) (b5 := b5) (b6 := b6) (b7 := b7) (b8 := b8) (b9 := b9) (b10 := b10) (c1 := c1) (f := f) (σ := σ) (a := a) (hR := hR) (hW := hW) (hx := (by omega))) lk_X5_requireActor w_1_167 [0, 1, 2] rfl dX5_ifIll_2 rfl rfl rfl rfl ⟨by decide, by decide⟩ (Nat.le_of_ble_eq_true rfl) (st' := []) rfl ?_
  refine r_iload_n C (i := 2) 2 dX5_ifIll_5 rfl rfl ?_
  refine r_readS (rest := []) C (c_X5_requireNight (n := n) (hn := (by omega))) lk_X5_requireNight w_2_3 [] dX5_ifIll_6 rfl rfl rfl ⟨by decide, by decide⟩ (Nat.le_of_ble_eq_true rfl) (st' := []) rfl ?_
  refine r_iload_n C (i := 3) 3 dX5_ifIll_9 rfl rfl ?_
  refine r_if_eqF C (y := 0) (tgt := 29) dX5_ifIll_10 (by decide) (fun z => ((fun z => hx (by rw [z]; exact (vI_N (by decide)).mpr (by decide))) : ¬ (w = nI 0)) (Iff.rfl.mp z)) ?_
  refine r_iload_n C (i := 3) 3 dX5_ifIll_13 rfl rfl ?_
  refine r_iconst C dX5_ifIll_14 ki_1 ?_
  refine r_icmp_eqF C (tgt := 29) dX5_ifIll_15 (by decide) (fun z => ((fun z => hx (by rw [z]; exact (vI_N (by decide)).mpr (by decide))) : ¬ (w = nI 1)) (Iff.rfl.mp z)) ?_
  exact TZ.2 _ _ _ 18 _ _ _ 28 _ _ fit_A.1 fit_A.2 cl_A ini_A rfl atS_A ot_A dX5_ifIll_18 dX5_ifIll_21 dX5_ifIll_22 dX5_ifIll_25 dX5_ifIll_28 (by decide) (Nat.le_of_ble_eq_true rfl) rfl rfl
set_option maxRecDepth 100000 in
set_option maxHeartbeats 1000000 in
theorem c_X5_bestUnderstudy__t {l : Launch} {E : Ev} (hst : l.stackTraces = false) {hB b1 b2 b3 b4 b5 b6 b7 b8 b9 b10 : Nat} {c1 : Nat} {f : Nat → Int32} {σ : Sg} (hR : RepC σ f) (hW : Wf σ) {p : Int32} (hx : ¬ vI p (sP σ)) : Th l E yX5_bestUnderstudy cX5_bestUnderstudy 6 (some FieldType.int) 7 117 [.ref hB, .int p] [(hB, .inr (5, [.ref b1, .ref b2, .ref b3, .ref b4, .ref b5, .ref b6, .ref b7, .ref b8, .ref b9, .ref b10])), (b1, .inr (4, [.ref c1])), (c1, .inl (eI E, 265, .inl f))] (fun w9 => w9 = [(hB, .inr (5, [.ref b1, .ref b2, .ref b3, .ref b4, .ref b5, .ref b6, .ref b7, .ref b8, .ref b9, .ref b10])), (b1, .inr (4, [.ref c1])), (c1, .inl (eI E, 265, .inl f))]) "java/lang/IndexOutOfBoundsException" := by
  have hwP := hW.P
  have hwA := hW.A
  have hwS := hW.S
  refine th_of hst (by decide +kernel) (Nat.le_of_ble_eq_true rfl) (fun ω C TZ TQ => ?_)
  show ω [(hB, .inr (5, [.ref b1, .ref b2, .ref b3, .ref b4, .ref b5, .ref b6, .ref b7, .ref b8, .ref b9, .ref b10])), (b1, .inr (4, [.ref c1])), (c1, .inl (eI E, 265, .inl f))] [(0, .ref hB), (1, .int p)] [] 0
  refine r_aload_n C (i := 0) 0 dX5_bestUnderstudy_0 rfl rfl ?_
  refine r_iload_n C (i := 1) 1 dX5_bestUnderstudy_1 rfl rfl ?_
  exact TQ.2 _ _ _ _ [] _ 2 _ _ _ _ _ 5 _ _ _ _ _ [0, 1, 2] _ _ (c_X5_requirePart__t (hst := hst) (hB := hB) (b1 := b1) (b2 := b2) (b3 := b3) (b4 := b4) (b5 := b5) (b6 := b6) (b7 := b7) (b8 := b8) (b9 := b9) (b10 := b10) (c1 := c1) (f := f) (σ := σ) (p := p) (hR := hR) (hW := hW) (hx := hx)) lk_X5_requirePart w_3_183 rfl dX5_bestUnderstudy_2 rfl rfl rfl rfl ⟨by decide, by decide⟩ (Nat.le_of_ble_eq_true rfl) (fun w hw _ => th_same rfl hw rfl)
set_option maxRecDepth 100000 in
set_option maxHeartbeats 1000000 in
theorem c_X5_runScript__ta {l : Launch} {E : Ev} (hst : l.stackTraces = false) {hB b1 b2 b3 b4 b5 b6 b7 b8 b9 b10 : Nat} {c1 : Nat} {f : Nat → Int32} {σ : Sg} (hR : RepC σ f) (hW : Wf σ) {n : Int32} {z : Int64} (hx : ¬ vJ n 3) : Th l E yX5_runScript cX5_runScript 6 (some FieldType.int) 6 143 [.ref hB, .int n, .long z] [(hB, .inr (5, [.ref b1, .ref b2, .ref b3, .ref b4, .ref b5, .ref b6, .ref b7, .ref b8, .ref b9, .ref b10])), (b1, .inr (4, [.ref c1])), (c1, .inl (eI E, 265, .inl f))] (fun w9 => w9 = [(hB, .inr (5, [.ref b1, .ref b2, .ref b3, .ref b4, .ref b5, .ref b6, .ref b7, .ref b8, .ref b9, .ref b10])), (b1, .inr (4, [.ref c1])), (c1, .inl (eI E, 265, .inl f))]) "java/lang/IllegalArgumentException" := by
  have hwP := hW.P
  have hwA := hW.A
  have hwS := hW.S
  refine th_of hst (by decide +kernel) (Nat.le_of_ble_eq_true rfl) (fun ω C TZ TQ => ?_)
  show ω [(hB, .inr (5, [.ref b1, .ref b2, .ref b3, .ref b4, .ref b5, .ref b6, .ref b7, .ref b8, .ref b9, .ref b10])), (b1, .inr (4, [.ref c1])), (c1, .inl (eI E, 265, .inl f))] [(0, .ref hB), (1, .int n), (2, .long z)] [] 0
  refine r_iload_n C (i := 1) 1 dX5_runScript_0 rfl rfl ?_
  refine r_iconst C dX5_runScript_1 ki_1 ?_
  refine r_icmp_lt C (c9 := n < nI 1) 10 dX5_runScript_2 (by decide) Iff.rfl (fun h2_1 => ?_) (fun h2_1 => ?_)
  · exact TZ.2 _ _ _ 10 _ _ _ 33 _ _ fit_A.1 fit_A.2 cl_A ini_A rfl atS_A ot_A dX5_runScript_10 dX5_runScript_13 dX5_runScript_14 dX5_runScript_17 dX5_runScript_20 (by decide) (Nat.le_of_ble_eq_true rfl) rfl rfl
  · refine r_iload_n C (i := 1) 1 dX5_runScript_5 rfl rfl ?_
    refine r_iconst C dX5_runScript_6 ki_3 ?_
    refine r_icmp_le C (c9 := n ≤ nI 3) 21 dX5_runScript_7 (by decide) Iff.rfl (fun h7_2 => ?_) (fun h7_2 => ?_)
    · exact absurd (raw_J h2_1 h7_2 (by decide)) hx
    · exact TZ.2 _ _ _ 10 _ _ _ 33 _ _ fit_A.1 fit_A.2 cl_A ini_A rfl atS_A ot_A dX5_runScript_10 dX5_runScript_13 dX5_runScript_14 dX5_runScript_17 dX5_runScript_20 (by decide) (Nat.le_of_ble_eq_true rfl) rfl rfl
set_option maxRecDepth 100000 in
set_option maxHeartbeats 1000000 in
theorem c_X5_runScript__tb {l : Launch} {E : Ev} (hst : l.stackTraces = false) {hB b1 b2 b3 b4 b5 b6 b7 b8 b9 b10 : Nat} {c1 : Nat} {f : Nat → Int32} {σ : Sg} (hR : RepC σ f) (hW : Wf σ) {n : Nat} {z : Int64} (hn : 1 ≤ n ∧ n ≤ 3) (hx : z < lN 0) : Th l E yX5_runScript cX5_runScript 6 (some FieldType.int) 6 143 [.ref hB, .int (nI n), .long z] [(hB, .inr (5, [.ref b1, .ref b2, .ref b3, .ref b4, .ref b5, .ref b6, .ref b7, .ref b8, .ref b9, .ref b10])), (b1, .inr (4, [.ref c1])), (c1, .inl (eI E, 265, .inl f))] (fun w9 => w9 = [(hB, .inr (5, [.ref b1, .ref b2, .ref b3, .ref b4, .ref b5, .ref b6, .ref b7, .ref b8, .ref b9, .ref b10])), (b1, .inr (4, [.ref c1])), (c1, .inl (eI E, 265, .inl f))]) "java/lang/IllegalArgumentException" := by
  have hwP := hW.P
  have hwA := hW.A
  have hwS := hW.S
  refine th_of hst (by decide +kernel) (Nat.le_of_ble_eq_true rfl) (fun ω C TZ TQ => ?_)
  show ω [(hB, .inr (5, [.ref b1, .ref b2, .ref b3, .ref b4, .ref b5, .ref b6, .ref b7, .ref b8, .ref b9, .ref b10])), (b1, .inr (4, [.ref c1])), (c1, .inl (eI E, 265, .inl f))] [(0, .ref hB), (1, .int (nI n)), (2, .long z)] [] 0
  refine r_iload_n C (i := 1) 1 dX5_runScript_0 rfl rfl ?_
  refine r_iconst C dX5_runScript_1 ki_1 ?_
  refine r_icmp_ltF C (tgt := 10) dX5_runScript_2 (by decide) (fun z => ((by omega) : ¬ (n < 1)) ((c_ltNN (by omega) (by omega)).mp z)) ?_
  refine r_iload_n C (i := 1) 1 dX5_runScript_5 rfl rfl ?_
  refine r_iconst C dX5_runScript_6 ki_3 ?_
  refine r_icmp_leT C 21 dX5_runScript_7 (by decide) ((c_leNN (by omega) (by omega)).mpr (by omega)) ?_
  refine r_lload_n C (i := 2) 2 dX5_runScript_21 rfl rfl ?_
  refine r_lconst (v := lN 0) C dX5_runScript_22 (by decide +kernel) ?_
  refine r_lcmp C dX5_runScript_23 rfl ?_
  refine r_if_ltT C (y := 0) 37 dX5_runScript_24 (by decide) ((lg_cmp_lt _ _).mpr hx) ?_
  exact TZ.2 _ _ _ 37 _ _ _ 34 _ _ fit_A.1 fit_A.2 cl_A ini_A rfl atS_A ot_A dX5_runScript_37 dX5_runScript_40 dX5_runScript_41 dX5_runScript_44 dX5_runScript_47 (by decide) (Nat.le_of_ble_eq_true rfl) rfl rfl
set_option maxRecDepth 100000 in
set_option maxHeartbeats 1000000 in
theorem c_X5_runScript__tc {l : Launch} {E : Ev} (hst : l.stackTraces = false) {hB b1 b2 b3 b4 b5 b6 b7 b8 b9 b10 : Nat} {c1 : Nat} {f : Nat → Int32} {σ : Sg} (hR : RepC σ f) (hW : Wf σ) {n S : Nat} (hn : 1 ≤ n ∧ n ≤ 3) (hS : S < 9223372036854775808) (hx : 100000 ^ n ≤ S) : Th l E yX5_runScript cX5_runScript 6 (some FieldType.int) 6 143 [.ref hB, .int (nI n), .long (lN S)] [(hB, .inr (5, [.ref b1, .ref b2, .ref b3, .ref b4, .ref b5, .ref b6, .ref b7, .ref b8, .ref b9, .ref b10])), (b1, .inr (4, [.ref c1])), (c1, .inl (eI E, 265, .inl f))] (fun w9 => w9 = [(hB, .inr (5, [.ref b1, .ref b2, .ref b3, .ref b4, .ref b5, .ref b6, .ref b7, .ref b8, .ref b9, .ref b10])), (b1, .inr (4, [.ref c1])), (c1, .inl (eI E, 265, .inl f))]) "java/lang/IllegalArgumentException" := by
  have hwP := hW.P
  have hwA := hW.A
  have hwS := hW.S
  refine th_of hst (by decide +kernel) (Nat.le_of_ble_eq_true rfl) (fun ω C TZ TQ => ?_)
  show ω [(hB, .inr (5, [.ref b1, .ref b2, .ref b3, .ref b4, .ref b5, .ref b6, .ref b7, .ref b8, .ref b9, .ref b10])), (b1, .inr (4, [.ref c1])), (c1, .inl (eI E, 265, .inl f))] [(0, .ref hB), (1, .int (nI n)), (2, .long (lN S))] [] 0
  refine r_iload_n C (i := 1) 1 dX5_runScript_0 rfl rfl ?_
  refine r_iconst C dX5_runScript_1 ki_1 ?_
  refine r_icmp_ltF C (tgt := 10) dX5_runScript_2 (by decide) (fun z => ((by omega) : ¬ (n < 1)) ((c_ltNN (by omega) (by omega)).mp z)) ?_
  refine r_iload_n C (i := 1) 1 dX5_runScript_5 rfl rfl ?_
  refine r_iconst C dX5_runScript_6 ki_3 ?_
  refine r_icmp_leT C 21 dX5_runScript_7 (by decide) ((c_leNN (by omega) (by omega)).mpr (by omega)) ?_
  refine r_lload_n C (i := 2) 2 dX5_runScript_21 rfl rfl ?_
  refine r_lconst (v := lN 0) C dX5_runScript_22 (by decide +kernel) ?_
  refine r_lcmp C dX5_runScript_23 rfl ?_
  refine r_if_ltF C (y := 0) (tgt := 37) dX5_runScript_24 (by decide) (fun z => ((fun z => absurd ((pk_lLT (by omega) (by decide)).mp z) (Nat.not_lt_zero _)) : ¬ (lN S < lN 0)) ((lg_cmp_lt _ _).mp z)) ?_
  refine r_lload_n C (i := 2) 2 dX5_runScript_27 rfl rfl ?_
  refine r_iload_n C (i := 1) 1 dX5_runScript_28 rfl rfl ?_
  refine r_readS (rest := []) C (c_X5_groupsAbove (S := S) (k := n) (hS := (by omega)) (hk := (by omega))) lk_X5_groupsAbove w_5_20 [] dX5_runScript_29 rfl rfl rfl ⟨by decide, by decide⟩ (Nat.le_of_ble_eq_true rfl) (st' := [.long (lN (S / 100000 ^ n))]) rfl ?_
  refine r_lconst (v := lN 0) C dX5_runScript_32 (by decide +kernel) ?_
  refine r_lcmp C dX5_runScript_33 rfl ?_
  have hq1 : 1 ≤ S / 100000 ^ n := (Nat.one_le_div_iff (Nat.pow_pos (by decide))).mpr hx
  have hq2 := Nat.div_le_self S (100000 ^ n)
  refine r_if_eqF C (y := 0) (tgt := 48) dX5_runScript_34 (by decide) (fun z => ((fun z => by have h9 := (pk_lEQ (by omega) (by decide)).mp z; omega) : ¬ (lN (S / 100000 ^ n) = lN 0)) ((lg_cmp_eq _ _).mp z)) ?_
  exact TZ.2 _ _ _ 37 _ _ _ 34 _ _ fit_A.1 fit_A.2 cl_A ini_A rfl atS_A ot_A dX5_runScript_37 dX5_runScript_40 dX5_runScript_41 dX5_runScript_44 dX5_runScript_47 (by decide) (Nat.le_of_ble_eq_true rfl) rfl rfl
set_option maxRecDepth 100000 in
set_option maxHeartbeats 1000000 in
theorem c_X5_simulate__t {l : Launch} {E : Ev} (hst : l.stackTraces = false) {hB b1 b2 b3 b4 b5 b6 b7 b8 b9 b10 : Nat} {c1 : Nat} {f : Nat → Int32} {σ : Sg} (hR : RepC σ f) (hW : Wf σ) {z : Int64} {m : Int32} (hx : ¬ vJ m 60) : Th l E yX5_simulate cX5_simulate 7 (some FieldType.int) 6 117 [.ref hB, .long z, .int m] [(hB, .inr (5, [.ref b1, .ref b2, .ref b3, .ref b4, .ref b5, .ref b6, .ref b7, .ref b8, .ref b9, .ref b10])), (b1, .inr (4, [.ref c1])), (c1, .inl (eI E, 265, .inl f))] (fun w9 => w9 = [(hB, .inr (5, [.ref b1, .ref b2, .ref b3, .ref b4, .ref b5, .ref b6, .ref b7, .ref b8, .ref b9, .ref b10])), (b1, .inr (4, [.ref c1])), (c1, .inl (eI E, 265, .inl f))]) "java/lang/IllegalArgumentException" := by
  have hwP := hW.P
  have hwA := hW.A
  have hwS := hW.S
  refine th_of hst (by decide +kernel) (Nat.le_of_ble_eq_true rfl) (fun ω C TZ TQ => ?_)
  show ω [(hB, .inr (5, [.ref b1, .ref b2, .ref b3, .ref b4, .ref b5, .ref b6, .ref b7, .ref b8, .ref b9, .ref b10])), (b1, .inr (4, [.ref c1])), (c1, .inl (eI E, 265, .inl f))] [(0, .ref hB), (1, .long z), (3, .int m)] [] 0
  refine r_iload_n C (i := 3) 2 dX5_simulate_0 rfl rfl ?_
  refine r_iconst C dX5_simulate_1 ki_1 ?_
  refine r_icmp_lt C (c9 := m < nI 1) 11 dX5_simulate_2 (by decide) Iff.rfl (fun h2_1 => ?_) (fun h2_1 => ?_)
  · exact TZ.2 _ _ _ 11 _ _ _ 35 _ _ fit_A.1 fit_A.2 cl_A ini_A rfl atS_A ot_A dX5_simulate_11 dX5_simulate_14 dX5_simulate_15 dX5_simulate_18 dX5_simulate_21 (by decide) (Nat.le_of_ble_eq_true rfl) rfl rfl
  · refine r_iload_n C (i := 3) 2 dX5_simulate_5 rfl rfl ?_
    refine r_bipush C dX5_simulate_6 kb_60 ?_
    refine r_icmp_le C (c9 := m ≤ nI 60) 22 dX5_simulate_8 (by decide) Iff.rfl (fun h8_2 => ?_) (fun h8_2 => ?_)
    · exact absurd (raw_J h2_1 h8_2 (by decide)) hx
    · exact TZ.2 _ _ _ 11 _ _ _ 35 _ _ fit_A.1 fit_A.2 cl_A ini_A rfl atS_A ot_A dX5_simulate_11 dX5_simulate_14 dX5_simulate_15 dX5_simulate_18 dX5_simulate_21 (by decide) (Nat.le_of_ble_eq_true rfl) rfl rfl
set_option maxRecDepth 100000 in
set_option maxHeartbeats 1000000 in
theorem c_X5_save__t {l : Launch} {E : Ev} (hst : l.stackTraces = false) {hB b1 b2 b3 b4 b5 b6 b7 b8 b9 b10 : Nat} {c1 : Nat} {f : Nat → Int32} {σ : Sg} (hR : RepC σ f) (hW : Wf σ) {s : Int32} (hx : ¬ vI s 2) : Th l E yX5_save cX5_save 2 (some FieldType.int) 7 110 [.ref hB, .int s] [(hB, .inr (5, [.ref b1, .ref b2, .ref b3, .ref b4, .ref b5, .ref b6, .ref b7, .ref b8, .ref b9, .ref b10])), (b1, .inr (4, [.ref c1])), (c1, .inl (eI E, 265, .inl f))] (fun w9 => w9 = [(hB, .inr (5, [.ref b1, .ref b2, .ref b3, .ref b4, .ref b5, .ref b6, .ref b7, .ref b8, .ref b9, .ref b10])), (b1, .inr (4, [.ref c1])), (c1, .inl (eI E, 265, .inl f))]) "java/lang/IndexOutOfBoundsException" := by
  have hwP := hW.P
  have hwA := hW.A
  have hwS := hW.S
  refine th_of hst (by decide +kernel) (Nat.le_of_ble_eq_true rfl) (fun ω C TZ TQ => ?_)
  show ω [(hB, .inr (5, [.ref b1, .ref b2, .ref b3, .ref b4, .ref b5, .ref b6, .ref b7, .ref b8, .ref b9, .ref b10])), (b1, .inr (4, [.ref c1])), (c1, .inl (eI E, 265, .inl f))] [(0, .ref hB), (1, .int s)] [] 0
  refine r_iload_n C (i := 1) 1 dX5_save_0 rfl rfl ?_
  exact TQ.1 _ _ _ _ [] _ 1 _ _ _ _ _ _ _ _ [] (c_X5_requireSlot__t (hst := hst) (w := s) (hx := hx)) lk_X5_requireSlot w_4_217 dX5_save_1 rfl rfl rfl ⟨by decide, by decide⟩ (Nat.le_of_ble_eq_true rfl) (fun w hw _ => th_same rfl hw rfl)
set_option maxRecDepth 100000 in
set_option maxHeartbeats 1000000 in
theorem c_X5_restore__ta {l : Launch} {E : Ev} (hst : l.stackTraces = false) {hB b1 b2 b3 b4 b5 b6 b7 b8 b9 b10 : Nat} {c1 : Nat} {f : Nat → Int32} {σ : Sg} (hR : RepC σ f) (hW : Wf σ) {s : Int32} (hx : ¬ vI s 2) : Th l E yX5_restore cX5_restore 2 (some FieldType.int) 7 110 [.ref hB, .int s] [(hB, .inr (5, [.ref b1, .ref b2, .ref b3, .ref b4, .ref b5, .ref b6, .ref b7, .ref b8, .ref b9, .ref b10])), (b1, .inr (4, [.ref c1])), (c1, .inl (eI E, 265, .inl f))] (fun w9 => w9 = [(hB, .inr (5, [.ref b1, .ref b2, .ref b3, .ref b4, .ref b5, .ref b6, .ref b7, .ref b8, .ref b9, .ref b10])), (b1, .inr (4, [.ref c1])), (c1, .inl (eI E, 265, .inl f))]) "java/lang/IndexOutOfBoundsException" := by
  have hwP := hW.P
  have hwA := hW.A
  have hwS := hW.S
  refine th_of hst (by decide +kernel) (Nat.le_of_ble_eq_true rfl) (fun ω C TZ TQ => ?_)
  show ω [(hB, .inr (5, [.ref b1, .ref b2, .ref b3, .ref b4, .ref b5, .ref b6, .ref b7, .ref b8, .ref b9, .ref b10])), (b1, .inr (4, [.ref c1])), (c1, .inl (eI E, 265, .inl f))] [(0, .ref hB), (1, .int s)] [] 0
  refine r_iload_n C (i := 1) 1 dX5_restore_0 rfl rfl ?_
  exact TQ.1 _ _ _ _ [] _ 1 _ _ _ _ _ _ _ _ [] (c_X5_requireSlot__t (hst := hst) (w := s) (hx := hx)) lk_X5_requireSlot w_4_217 dX5_restore_1 rfl rfl rfl ⟨by decide, by decide⟩ (Nat.le_of_ble_eq_true rfl) (fun w hw _ => th_same rfl hw rfl)
set_option maxRecDepth 100000 in
set_option maxHeartbeats 1000000 in
theorem c_X5_restore__tb {l : Launch} {E : Ev} (hst : l.stackTraces = false) {hB b1 b2 b3 b4 b5 b6 b7 b8 b9 b10 : Nat} {c1 : Nat} {f : Nat → Int32} {σ : Sg} (hR : RepC σ f) (hW : Wf σ) {ks : Nat → Sg} {kd : Nat → Nat} {K Z : Nat → Int32} (hK : KeepC ks kd K Z) {s : Nat} (hs : s < 2) (hk0 : kd s = 0) : Th l E yX5_restore cX5_restore 2 (some FieldType.int) 7 110 [.ref hB, .int (nI s)] [(hB, .inr (5, [.ref b1, .ref b2, .ref b3, .ref b4, .ref b5, .ref b6, .ref b7, .ref b8, .ref b9, .ref b10])), (b1, .inr (4, [.ref c1])), (c1, .inl (eI E, 265, .inl f)), (b5, .inl (eZ E, 2, .inl Z))] (fun w9 => w9 = [(hB, .inr (5, [.ref b1, .ref b2, .ref b3, .ref b4, .ref b5, .ref b6, .ref b7, .ref b8, .ref b9, .ref b10])), (b1, .inr (4, [.ref c1])), (c1, .inl (eI E, 265, .inl f)), (b5, .inl (eZ E, 2, .inl Z))]) "java/lang/IllegalStateException" := by
  have hwP := hW.P
  have hwA := hW.A
  have hwS := hW.S
  refine th_of hst (by decide +kernel) (Nat.le_of_ble_eq_true rfl) (fun ω C TZ TQ => ?_)
  show ω [(hB, .inr (5, [.ref b1, .ref b2, .ref b3, .ref b4, .ref b5, .ref b6, .ref b7, .ref b8, .ref b9, .ref b10])), (b1, .inr (4, [.ref c1])), (c1, .inl (eI E, 265, .inl f)), (b5, .inl (eZ E, 2, .inl Z))] [(0, .ref hB), (1, .int (nI s))] [] 0
  refine r_iload_n C (i := 1) 1 dX5_restore_0 rfl rfl ?_
  refine r_readS (rest := []) C (c_X5_requireSlot (w := s) (hw := (by omega))) lk_X5_requireSlot w_4_217 [] dX5_restore_1 rfl rfl rfl ⟨by decide, by decide⟩ (Nat.le_of_ble_eq_true rfl) (st' := []) rfl ?_
  refine r_aload_n C (i := 0) 0 dX5_restore_4 rfl rfl ?_
  refine r_get C 0 4 uX5 rfl rfl (by decide) w_1_132 rfl dX5_restore_5 ?_
  refine r_iload_n C (i := 1) 1 dX5_restore_8 rfl rfl ?_
  refine r_zald (j := s) (v := nI (kd s)) C 3 rfl (by omega) (by decide) ((hK s hs).2.1) dX5_restore_9 ?_
  refine r_if_neF C (y := 0) (tgt := 24) dX5_restore_10 (by decide) (fun z => ((by omega) : ¬ (kd s ≠ 0)) ((z_neN (by omega)).mp z)) ?_
  exact TZ.2 _ _ _ 13 _ _ _ 30 _ _ fit_S.1 fit_S.2 cl_S ini_S rfl atS_S ot_S dX5_restore_13 dX5_restore_16 dX5_restore_17 dX5_restore_20 dX5_restore_23 (by decide) (Nat.le_of_ble_eq_true rfl) rfl rfl
