/-! words of the exceptions -/
def xs_k : List Nat := [67, 77, 87, 95, 121, 153, 158, 160, 166, 171, 173, 179, 194, 215, 228, 239, 248, 272, 274, 276, 278, 283, 288, 290]
theorem tw_41 : Cond.initialized "java/lang/Throwable" ∈ TB := tb_of 41 (by rfl) (by rfl)
theorem tw_296 : Cond.instantiable "java/util/NoSuchElementException" 6 ∈ TB := tb_of 296 (by rfl) (by rfl)
theorem tw_304 : Cond.selects "java/util/NoSuchElementException" ⟨"java/lang/Throwable", "fillInStackTrace", "(I)Ljava/lang/Throwable;"⟩ ⟨"java/lang/Throwable", "fillInStackTrace", "(I)Ljava/lang/Throwable;"⟩ ∈ TB := tb_of 304 (by rfl) (by rfl)
theorem tw_305 : Cond.selects "java/util/NoSuchElementException" ⟨"java/lang/Throwable", "fillInStackTrace", "()Ljava/lang/Throwable;"⟩ ⟨"java/lang/Throwable", "fillInStackTrace", "()Ljava/lang/Throwable;"⟩ ∈ TB := tb_of 305 (by rfl) (by rfl)
theorem tw_306 : Cond.lays "java/util/NoSuchElementException" "java/lang/Throwable" "cause" "Ljava/lang/Throwable;" ∈ TB := tb_of 306 (by rfl) (by rfl)
theorem tw_307 : Cond.lays "java/lang/Throwable" "java/lang/Throwable" "cause" "Ljava/lang/Throwable;" ∈ TB := tb_of 307 (by rfl) (by rfl)
theorem tw_308 : Cond.lays "java/util/NoSuchElementException" "java/lang/Throwable" "stackTrace" "[Ljava/lang/StackTraceElement;" ∈ TB := tb_of 308 (by rfl) (by rfl)
theorem tw_309 : Cond.lays "java/lang/Throwable" "java/lang/Throwable" "stackTrace" "[Ljava/lang/StackTraceElement;" ∈ TB := tb_of 309 (by rfl) (by rfl)
theorem tw_310 : Cond.lays "java/util/NoSuchElementException" "java/lang/Throwable" "suppressedExceptions" "Ljava/util/List;" ∈ TB := tb_of 310 (by rfl) (by rfl)
theorem tw_311 : Cond.lays "java/lang/Throwable" "java/lang/Throwable" "suppressedExceptions" "Ljava/util/List;" ∈ TB := tb_of 311 (by rfl) (by rfl)
theorem tw_312 : Cond.lays "java/util/NoSuchElementException" "java/lang/Throwable" "detailMessage" "Ljava/lang/String;" ∈ TB := tb_of 312 (by rfl) (by rfl)
theorem tw_313 : Cond.lays "java/lang/Throwable" "java/lang/Throwable" "detailMessage" "Ljava/lang/String;" ∈ TB := tb_of 313 (by rfl) (by rfl)
theorem tw_314 : Cond.lays "java/util/NoSuchElementException" "java/lang/Throwable" "backtrace" "Ljava/lang/Object;" ∈ TB := tb_of 314 (by rfl) (by rfl)
theorem tw_315 : Cond.lays "java/lang/Throwable" "java/lang/Throwable" "backtrace" "Ljava/lang/Object;" ∈ TB := tb_of 315 (by rfl) (by rfl)
theorem tw_316 : Cond.fieldLink "java/lang/Throwable" 198 "java/lang/Throwable" "backtrace" "Ljava/lang/Object;" ∈ TB := tb_of 316 (by rfl) (by rfl)
theorem tw_317 : Cond.superclass "java/lang/Throwable" "java/lang/Object" ∈ TB := tb_of 317 (by rfl) (by rfl)
theorem tw_318 : Cond.instanceMethod ⟨"java/lang/Throwable", "<init>", "()V"⟩ ∈ TB := tb_of 318 (by rfl) (by rfl)
theorem tw_319 : Cond.code ⟨"java/lang/Throwable", "<init>", "()V"⟩ prog_17_method_1_code 1 none ∈ TB := tb_of 319 (by rfl) (by rfl)
theorem tw_320 : Cond.methodLink "java/lang/Throwable" 1 ⟨"java/lang/Object", "<init>", "()V"⟩ ∈ TB := tb_of 320 (by rfl) (by rfl)
theorem tw_321 : Cond.fieldLink "java/lang/Throwable" 13 "java/lang/Throwable" "UNASSIGNED_STACK" "[Ljava/lang/StackTraceElement;" ∈ TB := tb_of 321 (by rfl) (by rfl)
theorem tw_323 : Cond.fieldLink "java/lang/Throwable" 20 "java/lang/Throwable" "SUPPRESSED_SENTINEL" "Ljava/util/List;" ∈ TB := tb_of 323 (by rfl) (by rfl)
theorem tw_325 : Cond.methodLink "java/lang/Throwable" 27 ⟨"java/lang/Throwable", "fillInStackTrace", "()Ljava/lang/Throwable;"⟩ ∈ TB := tb_of 325 (by rfl) (by rfl)
theorem tw_326 : Cond.instanceMethod ⟨"java/lang/Throwable", "fillInStackTrace", "()Ljava/lang/Throwable;"⟩ ∈ TB := tb_of 326 (by rfl) (by rfl)
theorem tw_328 : Cond.selects "java/lang/IllegalArgumentException" ⟨"java/lang/Throwable", "fillInStackTrace", "()Ljava/lang/Throwable;"⟩ ⟨"java/lang/Throwable", "fillInStackTrace", "()Ljava/lang/Throwable;"⟩ ∈ TB := tb_of 328 (by rfl) (by rfl)
theorem tw_329 : Cond.selects "java/lang/IllegalStateException" ⟨"java/lang/Throwable", "fillInStackTrace", "()Ljava/lang/Throwable;"⟩ ⟨"java/lang/Throwable", "fillInStackTrace", "()Ljava/lang/Throwable;"⟩ ∈ TB := tb_of 329 (by rfl) (by rfl)
theorem tw_330 : Cond.codeSync ⟨"java/lang/Throwable", "fillInStackTrace", "()Ljava/lang/Throwable;"⟩ prog_17_method_18_code 1 (some (FieldType.object "java/lang/Throwable")) ∈ TB := tb_of 330 (by rfl) (by rfl)
theorem tw_331 : Cond.methodLink "java/lang/Throwable" 202 ⟨"java/lang/Throwable", "fillInStackTrace", "(I)Ljava/lang/Throwable;"⟩ ∈ TB := tb_of 331 (by rfl) (by rfl)
theorem tw_333 : Cond.instanceMethod ⟨"java/lang/Throwable", "fillInStackTrace", "(I)Ljava/lang/Throwable;"⟩ ∈ TB := tb_of 333 (by rfl) (by rfl)
set_option maxRecDepth 100000 in
theorem tw_335 : Cond.native ⟨"java/lang/Throwable", "fillInStackTrace", "(I)Ljava/lang/Throwable;"⟩ ∈ TB := tb_of 335 (by rfl) (by rfl)
set_option maxRecDepth 100000 in
theorem tw_337 : Cond.methodLink "OrganConsole" 97 ⟨"java/util/NoSuchElementException", "<init>", "(Ljava/lang/String;)V"⟩ ∈ TB := tb_of 337 (by rfl) (by rfl)
set_option maxRecDepth 100000 in
theorem tw_338 : Cond.instanceMethod ⟨"java/util/NoSuchElementException", "<init>", "(Ljava/lang/String;)V"⟩ ∈ TB := tb_of 338 (by rfl) (by rfl)
set_option maxRecDepth 100000 in
theorem tw_339 : Cond.code ⟨"java/util/NoSuchElementException", "<init>", "(Ljava/lang/String;)V"⟩ prog_19_method_4_code 2 none ∈ TB := tb_of 339 (by rfl) (by rfl)
set_option maxRecDepth 100000 in
theorem tw_340 : Cond.methodLink "java/util/NoSuchElementException" 13 ⟨"java/lang/RuntimeException", "<init>", "(Ljava/lang/String;)V"⟩ ∈ TB := tb_of 340 (by rfl) (by rfl)
set_option maxRecDepth 100000 in
theorem tw_341 : Cond.instanceMethod ⟨"java/lang/RuntimeException", "<init>", "(Ljava/lang/String;)V"⟩ ∈ TB := tb_of 341 (by rfl) (by rfl)
set_option maxRecDepth 100000 in
theorem tw_342 : Cond.code ⟨"java/lang/RuntimeException", "<init>", "(Ljava/lang/String;)V"⟩ prog_14_method_2_code 2 none ∈ TB := tb_of 342 (by rfl) (by rfl)
set_option maxRecDepth 100000 in
theorem tw_343 : Cond.methodLink "java/lang/RuntimeException" 7 ⟨"java/lang/Exception", "<init>", "(Ljava/lang/String;)V"⟩ ∈ TB := tb_of 343 (by rfl) (by rfl)
set_option maxRecDepth 100000 in
theorem tw_344 : Cond.instanceMethod ⟨"java/lang/Exception", "<init>", "(Ljava/lang/String;)V"⟩ ∈ TB := tb_of 344 (by rfl) (by rfl)
set_option maxRecDepth 100000 in
theorem tw_345 : Cond.code ⟨"java/lang/Exception", "<init>", "(Ljava/lang/String;)V"⟩ prog_9_method_2_code 2 none ∈ TB := tb_of 345 (by rfl) (by rfl)
set_option maxRecDepth 100000 in
theorem tw_346 : Cond.methodLink "java/lang/Exception" 7 ⟨"java/lang/Throwable", "<init>", "(Ljava/lang/String;)V"⟩ ∈ TB := tb_of 346 (by rfl) (by rfl)
set_option maxRecDepth 100000 in
theorem tw_347 : Cond.instanceMethod ⟨"java/lang/Throwable", "<init>", "(Ljava/lang/String;)V"⟩ ∈ TB := tb_of 347 (by rfl) (by rfl)
set_option maxRecDepth 100000 in
theorem tw_348 : Cond.code ⟨"java/lang/Throwable", "<init>", "(Ljava/lang/String;)V"⟩ prog_17_method_2_code 2 none ∈ TB := tb_of 348 (by rfl) (by rfl)
set_option maxRecDepth 100000 in
theorem tw_350 : Cond.fieldLink "java/lang/Throwable" 31 "java/lang/Throwable" "detailMessage" "Ljava/lang/String;" ∈ TB := tb_of 350 (by rfl) (by rfl)
set_option maxRecDepth 100000 in
theorem tw_351 : Cond.fieldLink "java/lang/Throwable" 7 "java/lang/Throwable" "cause" "Ljava/lang/Throwable;" ∈ TB := tb_of 351 (by rfl) (by rfl)
set_option maxRecDepth 100000 in
theorem tw_352 : Cond.fieldLink "java/lang/Throwable" 17 "java/lang/Throwable" "stackTrace" "[Ljava/lang/StackTraceElement;" ∈ TB := tb_of 352 (by rfl) (by rfl)
set_option maxRecDepth 100000 in
theorem tw_353 : Cond.fieldLink "java/lang/Throwable" 24 "java/lang/Throwable" "suppressedExceptions" "Ljava/util/List;" ∈ TB := tb_of 353 (by rfl) (by rfl)
set_option maxRecDepth 100000 in
theorem tw_367 : Cond.instantiable "java/lang/IllegalArgumentException" 6 ∈ TB := tb_of 367 (by rfl) (by rfl)
set_option maxRecDepth 100000 in
theorem tw_369 : Cond.selects "java/lang/IllegalArgumentException" ⟨"java/lang/Throwable", "fillInStackTrace", "(I)Ljava/lang/Throwable;"⟩ ⟨"java/lang/Throwable", "fillInStackTrace", "(I)Ljava/lang/Throwable;"⟩ ∈ TB := tb_of 369 (by rfl) (by rfl)
set_option maxRecDepth 100000 in
theorem tw_370 : Cond.lays "java/lang/IllegalArgumentException" "java/lang/Throwable" "cause" "Ljava/lang/Throwable;" ∈ TB := tb_of 370 (by rfl) (by rfl)
set_option maxRecDepth 100000 in
theorem tw_371 : Cond.lays "java/lang/IllegalArgumentException" "java/lang/Throwable" "stackTrace" "[Ljava/lang/StackTraceElement;" ∈ TB := tb_of 371 (by rfl) (by rfl)
set_option maxRecDepth 100000 in
theorem tw_372 : Cond.lays "java/lang/IllegalArgumentException" "java/lang/Throwable" "suppressedExceptions" "Ljava/util/List;" ∈ TB := tb_of 372 (by rfl) (by rfl)
set_option maxRecDepth 100000 in
theorem tw_373 : Cond.lays "java/lang/IllegalArgumentException" "java/lang/Throwable" "detailMessage" "Ljava/lang/String;" ∈ TB := tb_of 373 (by rfl) (by rfl)
set_option maxRecDepth 100000 in
theorem tw_374 : Cond.lays "java/lang/IllegalArgumentException" "java/lang/Throwable" "backtrace" "Ljava/lang/Object;" ∈ TB := tb_of 374 (by rfl) (by rfl)
set_option maxRecDepth 100000 in
theorem tw_376 : Cond.methodLink "OrganConsole" 69 ⟨"java/lang/IllegalArgumentException", "<init>", "(Ljava/lang/String;)V"⟩ ∈ TB := tb_of 376 (by rfl) (by rfl)
set_option maxRecDepth 100000 in
theorem tw_377 : Cond.instanceMethod ⟨"java/lang/IllegalArgumentException", "<init>", "(Ljava/lang/String;)V"⟩ ∈ TB := tb_of 377 (by rfl) (by rfl)
set_option maxRecDepth 100000 in
theorem tw_378 : Cond.code ⟨"java/lang/IllegalArgumentException", "<init>", "(Ljava/lang/String;)V"⟩ prog_10_method_2_code 2 none ∈ TB := tb_of 378 (by rfl) (by rfl)
set_option maxRecDepth 100000 in
theorem tw_379 : Cond.methodLink "java/lang/IllegalArgumentException" 7 ⟨"java/lang/RuntimeException", "<init>", "(Ljava/lang/String;)V"⟩ ∈ TB := tb_of 379 (by rfl) (by rfl)
set_option maxRecDepth 100000 in
theorem tw_384 : Cond.instantiable "java/lang/IllegalStateException" 6 ∈ TB := tb_of 384 (by rfl) (by rfl)
set_option maxRecDepth 100000 in
theorem tw_386 : Cond.selects "java/lang/IllegalStateException" ⟨"java/lang/Throwable", "fillInStackTrace", "(I)Ljava/lang/Throwable;"⟩ ⟨"java/lang/Throwable", "fillInStackTrace", "(I)Ljava/lang/Throwable;"⟩ ∈ TB := tb_of 386 (by rfl) (by rfl)
set_option maxRecDepth 100000 in
theorem tw_387 : Cond.lays "java/lang/IllegalStateException" "java/lang/Throwable" "cause" "Ljava/lang/Throwable;" ∈ TB := tb_of 387 (by rfl) (by rfl)
set_option maxRecDepth 100000 in
theorem tw_388 : Cond.lays "java/lang/IllegalStateException" "java/lang/Throwable" "stackTrace" "[Ljava/lang/StackTraceElement;" ∈ TB := tb_of 388 (by rfl) (by rfl)
set_option maxRecDepth 100000 in
theorem tw_389 : Cond.lays "java/lang/IllegalStateException" "java/lang/Throwable" "suppressedExceptions" "Ljava/util/List;" ∈ TB := tb_of 389 (by rfl) (by rfl)
set_option maxRecDepth 100000 in
theorem tw_390 : Cond.lays "java/lang/IllegalStateException" "java/lang/Throwable" "detailMessage" "Ljava/lang/String;" ∈ TB := tb_of 390 (by rfl) (by rfl)
set_option maxRecDepth 100000 in
theorem tw_391 : Cond.lays "java/lang/IllegalStateException" "java/lang/Throwable" "backtrace" "Ljava/lang/Object;" ∈ TB := tb_of 391 (by rfl) (by rfl)
set_option maxRecDepth 100000 in
theorem tw_393 : Cond.methodLink "OrganConsole" 79 ⟨"java/lang/IllegalStateException", "<init>", "(Ljava/lang/String;)V"⟩ ∈ TB := tb_of 393 (by rfl) (by rfl)
set_option maxRecDepth 100000 in
theorem tw_394 : Cond.instanceMethod ⟨"java/lang/IllegalStateException", "<init>", "(Ljava/lang/String;)V"⟩ ∈ TB := tb_of 394 (by rfl) (by rfl)
set_option maxRecDepth 100000 in
theorem tw_395 : Cond.code ⟨"java/lang/IllegalStateException", "<init>", "(Ljava/lang/String;)V"⟩ prog_11_method_2_code 2 none ∈ TB := tb_of 395 (by rfl) (by rfl)
set_option maxRecDepth 100000 in
theorem tw_396 : Cond.methodLink "java/lang/IllegalStateException" 7 ⟨"java/lang/RuntimeException", "<init>", "(Ljava/lang/String;)V"⟩ ∈ TB := tb_of 396 (by rfl) (by rfl)
theorem fm_n {P : Cond → Prop} : ∀ w ∈ ([] : List Cond), P w := fun _ h => nomatch h
theorem fm_c {P : Cond → Prop} {a : Cond} {l : List Cond} (h : P a) (t : ∀ w ∈ l, P w) : ∀ w ∈ a :: l, P w := fun w hw => by
  rcases List.mem_cons.mp hw with e | e
  · rw [e]; exact h
  · exact t w e
/-- what a method that throws needs of the state besides the words -/
def XB (U : State) : Prop := sx "java/lang/Throwable" "UNASSIGNED_STACK" "[Ljava/lang/StackTraceElement;" U U.heap ∧ sx "java/lang/Throwable" "SUPPRESSED_SENTINEL" "Ljava/util/List;" U U.heap ∧
  (Cond.declares ⟨"java/lang/RuntimeException", "<init>", "(Ljava/lang/String;)V"⟩).before #[] U = true ∧ (Cond.declares ⟨"java/lang/Exception", "<init>", "(Ljava/lang/String;)V"⟩).before #[] U = true ∧ (Cond.declares ⟨"java/lang/Throwable", "<init>", "(Ljava/lang/String;)V"⟩).before #[] U = true ∧
  ∀ k ∈ xs_k, ∃ (t : String) (a : Nat), vk_R "OrganConsole" k t a U
theorem dcl_warm {x : MethodName} {a' : Array Value} {s U : State} (hW : s.WarmedH U.vm) (h : (Cond.declares x).before #[] s = true) : (Cond.declares x).before a' U = true := by
  have h2 : (Cond.declares x).before #[] (s.setVm U.vm) = true := by rw [Cond.declares_setVm hW.alike]; exact h
  exact h2
theorem XB.move {s U : State} (h : XB s) (hW : s.WarmedH U.vm) (hq : ∀ a : Nat, a < s.heap.size → U.heap[a]? = s.heap[a]?) : XB U :=
  ⟨h.1.move hW.alike hq, h.2.1.move hW.alike hq, dcl_warm hW h.2.2.1, dcl_warm hW h.2.2.2.1, dcl_warm hW h.2.2.2.2.1, fun k hk => by obtain ⟨t, a, h9⟩ := h.2.2.2.2.2 k hk; exact ⟨t, a, h9.warm hW⟩⟩
section XW
variable {args : Array Value} {s : State}
theorem xw_T (htb : ∀ w ∈ TB, w.before args s = true) (hB : XB s) : ∀ w ∈ Bundle.throwableAtoms, w.before args s = true := by
  unfold Bundle.throwableAtoms
  exact (fm_c (P := fun w => w.before args s = true) (htb _ tw_41) (fm_c (P := fun w => w.before args s = true) (htb _ tw_317) (fm_c (P := fun w => w.before args s = true) (htb _ tw_326) (fm_c (P := fun w => w.before args s = true) (htb _ tw_330) (fm_c (P := fun w => w.before args s = true) (htb _ tw_333) (fm_c (P := fun w => w.before args s = true) (htb _ tw_335) (fm_c (P := fun w => w.before args s = true) (htb _ tw_318) (fm_c (P := fun w => w.before args s = true) (htb _ tw_319) (fm_c (P := fun w => w.before args s = true) (htb _ tw_57) (fm_c (P := fun w => w.before args s = true) (htb _ tw_58) (fm_c (P := fun w => w.before args s = true) (htb _ tw_320) (fm_c (P := fun w => w.before args s = true) (htb _ tw_325) (fm_c (P := fun w => w.before args s = true) (htb _ tw_331) (fm_c (P := fun w => w.before args s = true) (htb _ tw_351) (fm_c (P := fun w => w.before args s = true) (htb _ tw_307) (fm_c (P := fun w => w.before args s = true) (htb _ tw_352) (fm_c (P := fun w => w.before args s = true) (htb _ tw_309) (fm_c (P := fun w => w.before args s = true) (htb _ tw_353) (fm_c (P := fun w => w.before args s = true) (htb _ tw_311) (fm_c (P := fun w => w.before args s = true) (htb _ tw_321) (fm_c (P := fun w => w.before args s = true) hB.1.lays (fm_c (P := fun w => w.before args s = true) (htb _ tw_323) (fm_c (P := fun w => w.before args s = true) hB.2.1.lays (fm_c (P := fun w => w.before args s = true) (htb _ tw_313) fm_n))))))))))))))))))))))))
theorem xw_S (htb : ∀ w ∈ TB, w.before args s = true) : ∀ w ∈ Bundle.throwableSAtoms, w.before args s = true := by
  unfold Bundle.throwableSAtoms
  exact (fm_c (P := fun w => w.before args s = true) (htb _ tw_347) (fm_c (P := fun w => w.before args s = true) (htb _ tw_348) (fm_c (P := fun w => w.before args s = true) (htb _ tw_350) (fm_c (P := fun w => w.before args s = true) (htb _ tw_313) fm_n))))
theorem xw_R (htb : ∀ w ∈ TB, w.before args s = true) (hB : XB s) : ∀ w ∈ Bundle.chainSAtoms "java/lang/RuntimeException" ["java/lang/Exception"], w.before args s = true := by
  show ∀ w ∈ Bundle.passSAtoms "java/lang/RuntimeException" "java/lang/Exception" 7 Bundle.six ++ Bundle.passSAtoms "java/lang/Exception" Bundle.tN 7 Bundle.six, w.before args s = true
  unfold Bundle.passSAtoms
  exact (fm_c (P := fun w => w.before args s = true) (htb _ tw_341) (fm_c (P := fun w => w.before args s = true) (htb _ tw_342) (fm_c (P := fun w => w.before args s = true) (htb _ tw_343) (fm_c (P := fun w => w.before args s = true) (htb _ tw_344) (fm_c (P := fun w => w.before args s = true) hB.2.2.2.1 (fm_c (P := fun w => w.before args s = true) (htb _ tw_344) (fm_c (P := fun w => w.before args s = true) (htb _ tw_345) (fm_c (P := fun w => w.before args s = true) (htb _ tw_346) (fm_c (P := fun w => w.before args s = true) (htb _ tw_347) (fm_c (P := fun w => w.before args s = true) hB.2.2.2.2.1 fm_n))))))))))
/-- the words of one exception's class -/
def xw_L (E : String) (k : Nat) (b : ByteArray) : List Cond := Bundle.passSAtoms E "java/lang/RuntimeException" k b ++ [.instantiable E 6, .selects E Bundle.tFill0 Bundle.tFill0, .selects E Bundle.tFill Bundle.tFill, .lays E Bundle.tN "cause" "Ljava/lang/Throwable;", .lays E Bundle.tN "stackTrace" Bundle.steD, .lays E Bundle.tN "suppressedExceptions" Bundle.listD, .lays E Bundle.tN "detailMessage" "Ljava/lang/String;", .lays E Bundle.tN "backtrace" "Ljava/lang/Object;"]
theorem xw_N (htb : ∀ w ∈ TB, w.before args s = true) (hB : XB s) : ∀ w ∈ xw_L "java/util/NoSuchElementException" 13 prog_19_method_4_code, w.before args s = true := by
  unfold xw_L Bundle.passSAtoms
  exact (fm_c (P := fun w => w.before args s = true) (htb _ tw_338) (fm_c (P := fun w => w.before args s = true) (htb _ tw_339) (fm_c (P := fun w => w.before args s = true) (htb _ tw_340) (fm_c (P := fun w => w.before args s = true) (htb _ tw_341) (fm_c (P := fun w => w.before args s = true) hB.2.2.1 (fm_c (P := fun w => w.before args s = true) (htb _ tw_296) (fm_c (P := fun w => w.before args s = true) (htb _ tw_304) (fm_c (P := fun w => w.before args s = true) (htb _ tw_305) (fm_c (P := fun w => w.before args s = true) (htb _ tw_306) (fm_c (P := fun w => w.before args s = true) (htb _ tw_308) (fm_c (P := fun w => w.before args s = true) (htb _ tw_310) (fm_c (P := fun w => w.before args s = true) (htb _ tw_312) (fm_c (P := fun w => w.before args s = true) (htb _ tw_314) fm_n)))))))))))))
theorem xw_A (htb : ∀ w ∈ TB, w.before args s = true) (hB : XB s) : ∀ w ∈ xw_L "java/lang/IllegalArgumentException" 7 prog_10_method_2_code, w.before args s = true := by
  unfold xw_L Bundle.passSAtoms
  exact (fm_c (P := fun w => w.before args s = true) (htb _ tw_377) (fm_c (P := fun w => w.before args s = true) (htb _ tw_378) (fm_c (P := fun w => w.before args s = true) (htb _ tw_379) (fm_c (P := fun w => w.before args s = true) (htb _ tw_341) (fm_c (P := fun w => w.before args s = true) hB.2.2.1 (fm_c (P := fun w => w.before args s = true) (htb _ tw_367) (fm_c (P := fun w => w.before args s = true) (htb _ tw_369) (fm_c (P := fun w => w.before args s = true) (htb _ tw_328) (fm_c (P := fun w => w.before args s = true) (htb _ tw_370) (fm_c (P := fun w => w.before args s = true) (htb _ tw_371) (fm_c (P := fun w => w.before args s = true) (htb _ tw_372) (fm_c (P := fun w => w.before args s = true) (htb _ tw_373) (fm_c (P := fun w => w.before args s = true) (htb _ tw_374) fm_n)))))))))))))
theorem xw_I (htb : ∀ w ∈ TB, w.before args s = true) (hB : XB s) : ∀ w ∈ xw_L "java/lang/IllegalStateException" 7 prog_11_method_2_code, w.before args s = true := by
  unfold xw_L Bundle.passSAtoms
  exact (fm_c (P := fun w => w.before args s = true) (htb _ tw_394) (fm_c (P := fun w => w.before args s = true) (htb _ tw_395) (fm_c (P := fun w => w.before args s = true) (htb _ tw_396) (fm_c (P := fun w => w.before args s = true) (htb _ tw_341) (fm_c (P := fun w => w.before args s = true) hB.2.2.1 (fm_c (P := fun w => w.before args s = true) (htb _ tw_384) (fm_c (P := fun w => w.before args s = true) (htb _ tw_386) (fm_c (P := fun w => w.before args s = true) (htb _ tw_329) (fm_c (P := fun w => w.before args s = true) (htb _ tw_387) (fm_c (P := fun w => w.before args s = true) (htb _ tw_388) (fm_c (P := fun w => w.before args s = true) (htb _ tw_389) (fm_c (P := fun w => w.before args s = true) (htb _ tw_390) (fm_c (P := fun w => w.before args s = true) (htb _ tw_391) fm_n)))))))))))))
end XW
