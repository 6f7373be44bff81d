theorem m_0 : (Jvm.Cond.initialized "LetterforgeLaw") ∈ aw_tbl := aw_mem 0 (by decide +kernel) (by decide +kernel)
theorem m_21 : (Jvm.Cond.classLink "LetterforgeLaw" (9 : Nat) "Letterforge") ∈ aw_tbl := aw_mem 21 (by decide +kernel) (by decide +kernel)
theorem m_22 : (Jvm.Cond.instantiable "Letterforge" (13 : Nat)) ∈ aw_tbl := aw_mem 22 (by decide +kernel) (by decide +kernel)
theorem m_23 : (Jvm.Cond.methodLink "LetterforgeLaw" (203 : Nat) ({ cls := "Letterforge", name := "<init>", desc := "()V" } : Jvm.MethodName)) ∈ aw_tbl := aw_mem 23 (by decide +kernel) (by decide +kernel)
theorem m_24 : (Jvm.Cond.instanceMethod ({ cls := "Letterforge", name := "<init>", desc := "()V" } : Jvm.MethodName)) ∈ aw_tbl := aw_mem 24 (by decide +kernel) (by decide +kernel)
set_option maxRecDepth 100000 in
theorem m_25 : (Jvm.Cond.code ({ cls := "Letterforge", name := "<init>", desc := "()V" } : Jvm.MethodName) prog_1_method_1_code (2 : Nat) (Option.none : Option Jvm.ClassFile.FieldType)) ∈ aw_tbl := aw_mem 25 (by rfl) (by decide +kernel)
theorem m_303 : (Jvm.Cond.methodLink "LetterforgeLaw" (204 : Nat) ({ cls := "LetterforgeLaw", name := "part", desc := "([III)I" } : Jvm.MethodName)) ∈ aw_tbl := aw_mem 303 (by decide +kernel) (by decide +kernel)
theorem m_304 : (Jvm.Cond.static ({ cls := "LetterforgeLaw", name := "part", desc := "([III)I" } : Jvm.MethodName)) ∈ aw_tbl := aw_mem 304 (by decide +kernel) (by decide +kernel)
set_option maxRecDepth 100000 in
theorem m_305 : (Jvm.Cond.code ({ cls := "LetterforgeLaw", name := "part", desc := "([III)I" } : Jvm.MethodName) method_2_code (4 : Nat) (Option.some Jvm.ClassFile.FieldType.int)) ∈ aw_tbl := aw_mem 305 (by rfl) (by decide +kernel)
theorem m_306 : (Jvm.Cond.constant "LetterforgeLaw" (7 : Nat) (2147483647 : Int32)) ∈ aw_tbl := aw_mem 306 (by decide +kernel) (by decide +kernel)
theorem m_307 : (Jvm.Cond.methodLink "LetterforgeLaw" (123 : Nat) ({ cls := "LetterforgeLaw", name := "does", desc := "(LLetterforge;IIIIII)I" } : Jvm.MethodName)) ∈ aw_tbl := aw_mem 307 (by decide +kernel) (by decide +kernel)
theorem m_308 : (Jvm.Cond.static ({ cls := "LetterforgeLaw", name := "does", desc := "(LLetterforge;IIIIII)I" } : Jvm.MethodName)) ∈ aw_tbl := aw_mem 308 (by decide +kernel) (by decide +kernel)
set_option maxRecDepth 100000 in
theorem m_309 : (Jvm.Cond.codeWith ({ cls := "LetterforgeLaw", name := "does", desc := "(LLetterforge;IIIIII)I" } : Jvm.MethodName) method_3_code (8 : Nat) (Option.some Jvm.ClassFile.FieldType.int) [((0 : Nat), (227 : Nat), (228 : Nat), (59 : Nat)), ((0 : Nat), (227 : Nat), (233 : Nat), (62 : Nat)), ((0 : Nat), (227 : Nat), (238 : Nat), (65 : Nat))]) ∈ aw_tbl := aw_mem 309 (by rfl) (by decide +kernel)
theorem m_310 : (Jvm.Cond.classLink "LetterforgeLaw" (59 : Nat) "java/lang/IndexOutOfBoundsException") ∈ aw_tbl := aw_mem 310 (by decide +kernel) (by decide +kernel)
theorem m_311 : (Jvm.Cond.classLink "LetterforgeLaw" (62 : Nat) "java/lang/IllegalArgumentException") ∈ aw_tbl := aw_mem 311 (by decide +kernel) (by decide +kernel)
theorem m_312 : (Jvm.Cond.classLink "LetterforgeLaw" (65 : Nat) "java/lang/IllegalStateException") ∈ aw_tbl := aw_mem 312 (by decide +kernel) (by decide +kernel)
theorem m_313 : (Jvm.Cond.methodLink "LetterforgeLaw" (8 : Nat) ({ cls := "Letterforge", name := "syllable", desc := "(I)I" } : Jvm.MethodName)) ∈ aw_tbl := aw_mem 313 (by decide +kernel) (by decide +kernel)
theorem m_314 : (Jvm.Cond.instanceMethod ({ cls := "Letterforge", name := "syllable", desc := "(I)I" } : Jvm.MethodName)) ∈ aw_tbl := aw_mem 314 (by decide +kernel) (by decide +kernel)
theorem m_315 : (Jvm.Cond.selects "Letterforge" ({ cls := "Letterforge", name := "syllable", desc := "(I)I" } : Jvm.MethodName) ({ cls := "Letterforge", name := "syllable", desc := "(I)I" } : Jvm.MethodName)) ∈ aw_tbl := aw_mem 315 (by decide +kernel) (by decide +kernel)
set_option maxRecDepth 100000 in
theorem m_316 : (Jvm.Cond.code ({ cls := "Letterforge", name := "syllable", desc := "(I)I" } : Jvm.MethodName) prog_1_method_2_code (2 : Nat) (Option.some Jvm.ClassFile.FieldType.int)) ∈ aw_tbl := aw_mem 316 (by rfl) (by decide +kernel)
theorem m_405 : (Jvm.Cond.methodLink "LetterforgeLaw" (14 : Nat) ({ cls := "Letterforge", name := "word", desc := "(I)I" } : Jvm.MethodName)) ∈ aw_tbl := aw_mem 405 (by decide +kernel) (by decide +kernel)
theorem m_406 : (Jvm.Cond.instanceMethod ({ cls := "Letterforge", name := "word", desc := "(I)I" } : Jvm.MethodName)) ∈ aw_tbl := aw_mem 406 (by decide +kernel) (by decide +kernel)
theorem m_407 : (Jvm.Cond.selects "Letterforge" ({ cls := "Letterforge", name := "word", desc := "(I)I" } : Jvm.MethodName) ({ cls := "Letterforge", name := "word", desc := "(I)I" } : Jvm.MethodName)) ∈ aw_tbl := aw_mem 407 (by decide +kernel) (by decide +kernel)
set_option maxRecDepth 100000 in
theorem m_408 : (Jvm.Cond.code ({ cls := "Letterforge", name := "word", desc := "(I)I" } : Jvm.MethodName) prog_1_method_3_code (3 : Nat) (Option.some Jvm.ClassFile.FieldType.int)) ∈ aw_tbl := aw_mem 408 (by rfl) (by decide +kernel)
theorem m_430 : (Jvm.Cond.methodLink "LetterforgeLaw" (17 : Nat) ({ cls := "Letterforge", name := "change", desc := "(IIIIZ)I" } : Jvm.MethodName)) ∈ aw_tbl := aw_mem 430 (by decide +kernel) (by decide +kernel)
theorem m_431 : (Jvm.Cond.instanceMethod ({ cls := "Letterforge", name := "change", desc := "(IIIIZ)I" } : Jvm.MethodName)) ∈ aw_tbl := aw_mem 431 (by decide +kernel) (by decide +kernel)
theorem m_432 : (Jvm.Cond.selects "Letterforge" ({ cls := "Letterforge", name := "change", desc := "(IIIIZ)I" } : Jvm.MethodName) ({ cls := "Letterforge", name := "change", desc := "(IIIIZ)I" } : Jvm.MethodName)) ∈ aw_tbl := aw_mem 432 (by decide +kernel) (by decide +kernel)
set_option maxRecDepth 100000 in
theorem m_433 : (Jvm.Cond.code ({ cls := "Letterforge", name := "change", desc := "(IIIIZ)I" } : Jvm.MethodName) prog_1_method_4_code (7 : Nat) (Option.some Jvm.ClassFile.FieldType.int)) ∈ aw_tbl := aw_mem 433 (by rfl) (by decide +kernel)
theorem m_464 : (Jvm.Cond.methodLink "LetterforgeLaw" (21 : Nat) ({ cls := "Letterforge", name := "design", desc := "(II)I" } : Jvm.MethodName)) ∈ aw_tbl := aw_mem 464 (by decide +kernel) (by decide +kernel)
theorem m_465 : (Jvm.Cond.instanceMethod ({ cls := "Letterforge", name := "design", desc := "(II)I" } : Jvm.MethodName)) ∈ aw_tbl := aw_mem 465 (by decide +kernel) (by decide +kernel)
theorem m_466 : (Jvm.Cond.selects "Letterforge" ({ cls := "Letterforge", name := "design", desc := "(II)I" } : Jvm.MethodName) ({ cls := "Letterforge", name := "design", desc := "(II)I" } : Jvm.MethodName)) ∈ aw_tbl := aw_mem 466 (by decide +kernel) (by decide +kernel)
set_option maxRecDepth 100000 in
theorem m_467 : (Jvm.Cond.code ({ cls := "Letterforge", name := "design", desc := "(II)I" } : Jvm.MethodName) prog_1_method_6_code (3 : Nat) (Option.some Jvm.ClassFile.FieldType.int)) ∈ aw_tbl := aw_mem 467 (by rfl) (by decide +kernel)
theorem m_496 : (Jvm.Cond.methodLink "LetterforgeLaw" (25 : Nat) ({ cls := "Letterforge", name := "assign", desc := "(IIIZ)I" } : Jvm.MethodName)) ∈ aw_tbl := aw_mem 496 (by decide +kernel) (by decide +kernel)
theorem m_497 : (Jvm.Cond.instanceMethod ({ cls := "Letterforge", name := "assign", desc := "(IIIZ)I" } : Jvm.MethodName)) ∈ aw_tbl := aw_mem 497 (by decide +kernel) (by decide +kernel)
theorem m_498 : (Jvm.Cond.selects "Letterforge" ({ cls := "Letterforge", name := "assign", desc := "(IIIZ)I" } : Jvm.MethodName) ({ cls := "Letterforge", name := "assign", desc := "(IIIZ)I" } : Jvm.MethodName)) ∈ aw_tbl := aw_mem 498 (by decide +kernel) (by decide +kernel)
set_option maxRecDepth 100000 in
theorem m_499 : (Jvm.Cond.code ({ cls := "Letterforge", name := "assign", desc := "(IIIZ)I" } : Jvm.MethodName) prog_1_method_7_code (6 : Nat) (Option.some Jvm.ClassFile.FieldType.int)) ∈ aw_tbl := aw_mem 499 (by rfl) (by decide +kernel)
theorem m_517 : (Jvm.Cond.methodLink "LetterforgeLaw" (29 : Nat) ({ cls := "Letterforge", name := "shape", desc := "(II)I" } : Jvm.MethodName)) ∈ aw_tbl := aw_mem 517 (by decide +kernel) (by decide +kernel)
theorem m_518 : (Jvm.Cond.instanceMethod ({ cls := "Letterforge", name := "shape", desc := "(II)I" } : Jvm.MethodName)) ∈ aw_tbl := aw_mem 518 (by decide +kernel) (by decide +kernel)
theorem m_519 : (Jvm.Cond.selects "Letterforge" ({ cls := "Letterforge", name := "shape", desc := "(II)I" } : Jvm.MethodName) ({ cls := "Letterforge", name := "shape", desc := "(II)I" } : Jvm.MethodName)) ∈ aw_tbl := aw_mem 519 (by decide +kernel) (by decide +kernel)
set_option maxRecDepth 100000 in
theorem m_520 : (Jvm.Cond.code ({ cls := "Letterforge", name := "shape", desc := "(II)I" } : Jvm.MethodName) prog_1_method_16_code (4 : Nat) (Option.some Jvm.ClassFile.FieldType.int)) ∈ aw_tbl := aw_mem 520 (by rfl) (by decide +kernel)
theorem m_531 : (Jvm.Cond.methodLink "LetterforgeLaw" (32 : Nat) ({ cls := "Letterforge", name := "key", desc := "(III)I" } : Jvm.MethodName)) ∈ aw_tbl := aw_mem 531 (by decide +kernel) (by decide +kernel)
theorem m_532 : (Jvm.Cond.instanceMethod ({ cls := "Letterforge", name := "key", desc := "(III)I" } : Jvm.MethodName)) ∈ aw_tbl := aw_mem 532 (by decide +kernel) (by decide +kernel)
theorem m_533 : (Jvm.Cond.selects "Letterforge" ({ cls := "Letterforge", name := "key", desc := "(III)I" } : Jvm.MethodName) ({ cls := "Letterforge", name := "key", desc := "(III)I" } : Jvm.MethodName)) ∈ aw_tbl := aw_mem 533 (by decide +kernel) (by decide +kernel)
set_option maxRecDepth 100000 in
theorem m_534 : (Jvm.Cond.code ({ cls := "Letterforge", name := "key", desc := "(III)I" } : Jvm.MethodName) prog_1_method_23_code (4 : Nat) (Option.some Jvm.ClassFile.FieldType.int)) ∈ aw_tbl := aw_mem 534 (by rfl) (by decide +kernel)
theorem m_540 : (Jvm.Cond.methodLink "LetterforgeLaw" (36 : Nat) ({ cls := "Letterforge", name := "group", desc := "(IIII)I" } : Jvm.MethodName)) ∈ aw_tbl := aw_mem 540 (by decide +kernel) (by decide +kernel)
theorem m_541 : (Jvm.Cond.instanceMethod ({ cls := "Letterforge", name := "group", desc := "(IIII)I" } : Jvm.MethodName)) ∈ aw_tbl := aw_mem 541 (by decide +kernel) (by decide +kernel)
theorem m_542 : (Jvm.Cond.selects "Letterforge" ({ cls := "Letterforge", name := "group", desc := "(IIII)I" } : Jvm.MethodName) ({ cls := "Letterforge", name := "group", desc := "(IIII)I" } : Jvm.MethodName)) ∈ aw_tbl := aw_mem 542 (by decide +kernel) (by decide +kernel)
set_option maxRecDepth 100000 in
theorem m_543 : (Jvm.Cond.code ({ cls := "Letterforge", name := "group", desc := "(IIII)I" } : Jvm.MethodName) prog_1_method_26_code (6 : Nat) (Option.some Jvm.ClassFile.FieldType.int)) ∈ aw_tbl := aw_mem 543 (by rfl) (by decide +kernel)
theorem m_551 : (Jvm.Cond.methodLink "LetterforgeLaw" (40 : Nat) ({ cls := "Letterforge", name := "spoken", desc := "(III)I" } : Jvm.MethodName)) ∈ aw_tbl := aw_mem 551 (by decide +kernel) (by decide +kernel)
theorem m_552 : (Jvm.Cond.instanceMethod ({ cls := "Letterforge", name := "spoken", desc := "(III)I" } : Jvm.MethodName)) ∈ aw_tbl := aw_mem 552 (by decide +kernel) (by decide +kernel)
theorem m_553 : (Jvm.Cond.selects "Letterforge" ({ cls := "Letterforge", name := "spoken", desc := "(III)I" } : Jvm.MethodName) ({ cls := "Letterforge", name := "spoken", desc := "(III)I" } : Jvm.MethodName)) ∈ aw_tbl := aw_mem 553 (by decide +kernel) (by decide +kernel)
set_option maxRecDepth 100000 in
theorem m_554 : (Jvm.Cond.code ({ cls := "Letterforge", name := "spoken", desc := "(III)I" } : Jvm.MethodName) prog_1_method_5_code (5 : Nat) (Option.some Jvm.ClassFile.FieldType.int)) ∈ aw_tbl := aw_mem 554 (by rfl) (by decide +kernel)
theorem m_569 : (Jvm.Cond.methodLink "LetterforgeLaw" (43 : Nat) ({ cls := "Letterforge", name := "spelled", desc := "(III)I" } : Jvm.MethodName)) ∈ aw_tbl := aw_mem 569 (by decide +kernel) (by decide +kernel)
theorem m_570 : (Jvm.Cond.instanceMethod ({ cls := "Letterforge", name := "spelled", desc := "(III)I" } : Jvm.MethodName)) ∈ aw_tbl := aw_mem 570 (by decide +kernel) (by decide +kernel)
theorem m_571 : (Jvm.Cond.selects "Letterforge" ({ cls := "Letterforge", name := "spelled", desc := "(III)I" } : Jvm.MethodName) ({ cls := "Letterforge", name := "spelled", desc := "(III)I" } : Jvm.MethodName)) ∈ aw_tbl := aw_mem 571 (by decide +kernel) (by decide +kernel)
set_option maxRecDepth 100000 in
theorem m_572 : (Jvm.Cond.code ({ cls := "Letterforge", name := "spelled", desc := "(III)I" } : Jvm.MethodName) prog_1_method_9_code (4 : Nat) (Option.some Jvm.ClassFile.FieldType.int)) ∈ aw_tbl := aw_mem 572 (by rfl) (by decide +kernel)
theorem m_590 : (Jvm.Cond.methodLink "LetterforgeLaw" (46 : Nat) ({ cls := "Letterforge", name := "leastCost", desc := "(I)I" } : Jvm.MethodName)) ∈ aw_tbl := aw_mem 590 (by decide +kernel) (by decide +kernel)
theorem m_591 : (Jvm.Cond.instanceMethod ({ cls := "Letterforge", name := "leastCost", desc := "(I)I" } : Jvm.MethodName)) ∈ aw_tbl := aw_mem 591 (by decide +kernel) (by decide +kernel)
theorem m_592 : (Jvm.Cond.selects "Letterforge" ({ cls := "Letterforge", name := "leastCost", desc := "(I)I" } : Jvm.MethodName) ({ cls := "Letterforge", name := "leastCost", desc := "(I)I" } : Jvm.MethodName)) ∈ aw_tbl := aw_mem 592 (by decide +kernel) (by decide +kernel)
set_option maxRecDepth 100000 in
theorem m_593 : (Jvm.Cond.code ({ cls := "Letterforge", name := "leastCost", desc := "(I)I" } : Jvm.MethodName) prog_1_method_22_code (2 : Nat) (Option.some Jvm.ClassFile.FieldType.int)) ∈ aw_tbl := aw_mem 593 (by rfl) (by decide +kernel)
theorem m_637 : (Jvm.Cond.methodLink "LetterforgeLaw" (49 : Nat) ({ cls := "Letterforge", name := "errors", desc := "(II)I" } : Jvm.MethodName)) ∈ aw_tbl := aw_mem 637 (by decide +kernel) (by decide +kernel)
theorem m_638 : (Jvm.Cond.instanceMethod ({ cls := "Letterforge", name := "errors", desc := "(II)I" } : Jvm.MethodName)) ∈ aw_tbl := aw_mem 638 (by decide +kernel) (by decide +kernel)
theorem m_639 : (Jvm.Cond.selects "Letterforge" ({ cls := "Letterforge", name := "errors", desc := "(II)I" } : Jvm.MethodName) ({ cls := "Letterforge", name := "errors", desc := "(II)I" } : Jvm.MethodName)) ∈ aw_tbl := aw_mem 639 (by decide +kernel) (by decide +kernel)
set_option maxRecDepth 100000 in
theorem m_640 : (Jvm.Cond.code ({ cls := "Letterforge", name := "errors", desc := "(II)I" } : Jvm.MethodName) prog_1_method_19_code (7 : Nat) (Option.some Jvm.ClassFile.FieldType.int)) ∈ aw_tbl := aw_mem 640 (by rfl) (by decide +kernel)
theorem m_670 : (Jvm.Cond.methodLink "LetterforgeLaw" (52 : Nat) ({ cls := "Letterforge", name := "elected", desc := "()I" } : Jvm.MethodName)) ∈ aw_tbl := aw_mem 670 (by decide +kernel) (by decide +kernel)
theorem m_671 : (Jvm.Cond.instanceMethod ({ cls := "Letterforge", name := "elected", desc := "()I" } : Jvm.MethodName)) ∈ aw_tbl := aw_mem 671 (by decide +kernel) (by decide +kernel)
theorem m_672 : (Jvm.Cond.selects "Letterforge" ({ cls := "Letterforge", name := "elected", desc := "()I" } : Jvm.MethodName) ({ cls := "Letterforge", name := "elected", desc := "()I" } : Jvm.MethodName)) ∈ aw_tbl := aw_mem 672 (by decide +kernel) (by decide +kernel)
set_option maxRecDepth 100000 in
theorem m_673 : (Jvm.Cond.code ({ cls := "Letterforge", name := "elected", desc := "()I" } : Jvm.MethodName) prog_1_method_29_code (1 : Nat) (Option.some Jvm.ClassFile.FieldType.int)) ∈ aw_tbl := aw_mem 673 (by rfl) (by decide +kernel)
theorem m_738 : (Jvm.Cond.methodLink "LetterforgeLaw" (56 : Nat) ({ cls := "Letterforge", name := "primer", desc := "(II)I" } : Jvm.MethodName)) ∈ aw_tbl := aw_mem 738 (by decide +kernel) (by decide +kernel)
theorem m_739 : (Jvm.Cond.instanceMethod ({ cls := "Letterforge", name := "primer", desc := "(II)I" } : Jvm.MethodName)) ∈ aw_tbl := aw_mem 739 (by decide +kernel) (by decide +kernel)
theorem m_740 : (Jvm.Cond.selects "Letterforge" ({ cls := "Letterforge", name := "primer", desc := "(II)I" } : Jvm.MethodName) ({ cls := "Letterforge", name := "primer", desc := "(II)I" } : Jvm.MethodName)) ∈ aw_tbl := aw_mem 740 (by decide +kernel) (by decide +kernel)
set_option maxRecDepth 100000 in
theorem m_741 : (Jvm.Cond.code ({ cls := "Letterforge", name := "primer", desc := "(II)I" } : Jvm.MethodName) prog_1_method_20_code (3 : Nat) (Option.some Jvm.ClassFile.FieldType.int)) ∈ aw_tbl := aw_mem 741 (by rfl) (by decide +kernel)
theorem m_759 : (Jvm.Cond.constant "LetterforgeLaw" (61 : Nat) (-3000000 : Int32)) ∈ aw_tbl := aw_mem 759 (by decide +kernel) (by decide +kernel)
theorem m_760 : (Jvm.Cond.constant "LetterforgeLaw" (64 : Nat) (-2000000 : Int32)) ∈ aw_tbl := aw_mem 760 (by decide +kernel) (by decide +kernel)
theorem m_761 : (Jvm.Cond.constant "LetterforgeLaw" (67 : Nat) (-1000000 : Int32)) ∈ aw_tbl := aw_mem 761 (by decide +kernel) (by decide +kernel)
theorem m_762 : (Jvm.Cond.methodLink "LetterforgeLaw" (224 : Nat) ({ cls := "LetterforgeLaw", name := "isSo", desc := "(LLetterforge;[I[I[I[I[I[I[IIII[J[J)Z" } : Jvm.MethodName)) ∈ aw_tbl := aw_mem 762 (by decide +kernel) (by decide +kernel)
theorem m_763 : (Jvm.Cond.static ({ cls := "LetterforgeLaw", name := "isSo", desc := "(LLetterforge;[I[I[I[I[I[I[IIII[J[J)Z" } : Jvm.MethodName)) ∈ aw_tbl := aw_mem 763 (by decide +kernel) (by decide +kernel)
set_option maxRecDepth 100000 in
theorem m_764 : (Jvm.Cond.code ({ cls := "LetterforgeLaw", name := "isSo", desc := "(LLetterforge;[I[I[I[I[I[I[IIII[J[J)Z" } : Jvm.MethodName) method_27_code (18 : Nat) (Option.some Jvm.ClassFile.FieldType.boolean)) ∈ aw_tbl := aw_mem 764 (by rfl) (by decide +kernel)
theorem m_765 : (Jvm.Cond.methodLink "LetterforgeLaw" (130 : Nat) ({ cls := "LetterforgeLaw", name := "spellsAll", desc := "([I[I[I[I[II[J)V" } : Jvm.MethodName)) ∈ aw_tbl := aw_mem 765 (by decide +kernel) (by decide +kernel)
theorem m_766 : (Jvm.Cond.static ({ cls := "LetterforgeLaw", name := "spellsAll", desc := "([I[I[I[I[II[J)V" } : Jvm.MethodName)) ∈ aw_tbl := aw_mem 766 (by decide +kernel) (by decide +kernel)
set_option maxRecDepth 100000 in
theorem m_767 : (Jvm.Cond.code ({ cls := "LetterforgeLaw", name := "spellsAll", desc := "([I[I[I[I[II[J)V" } : Jvm.MethodName) method_8_code (12 : Nat) (Option.none : Option Jvm.ClassFile.FieldType)) ∈ aw_tbl := aw_mem 767 (by rfl) (by decide +kernel)
theorem m_768 : (Jvm.Cond.methodLink "LetterforgeLaw" (75 : Nat) ({ cls := "LetterforgeLaw", name := "speaks", desc := "([I[I[IIII)I" } : Jvm.MethodName)) ∈ aw_tbl := aw_mem 768 (by decide +kernel) (by decide +kernel)
theorem m_769 : (Jvm.Cond.static ({ cls := "LetterforgeLaw", name := "speaks", desc := "([I[I[IIII)I" } : Jvm.MethodName)) ∈ aw_tbl := aw_mem 769 (by decide +kernel) (by decide +kernel)
set_option maxRecDepth 100000 in
theorem m_770 : (Jvm.Cond.code ({ cls := "LetterforgeLaw", name := "speaks", desc := "([I[I[IIII)I" } : Jvm.MethodName) method_5_code (12 : Nat) (Option.some Jvm.ClassFile.FieldType.int)) ∈ aw_tbl := aw_mem 770 (by rfl) (by decide +kernel)
theorem m_771 : (Jvm.Cond.methodLink "LetterforgeLaw" (68 : Nat) ({ cls := "LetterforgeLaw", name := "of", desc := "(II)I" } : Jvm.MethodName)) ∈ aw_tbl := aw_mem 771 (by decide +kernel) (by decide +kernel)
theorem m_772 : (Jvm.Cond.static ({ cls := "LetterforgeLaw", name := "of", desc := "(II)I" } : Jvm.MethodName)) ∈ aw_tbl := aw_mem 772 (by decide +kernel) (by decide +kernel)
set_option maxRecDepth 100000 in
theorem m_773 : (Jvm.Cond.code ({ cls := "LetterforgeLaw", name := "of", desc := "(II)I" } : Jvm.MethodName) method_4_code (2 : Nat) (Option.some Jvm.ClassFile.FieldType.int)) ∈ aw_tbl := aw_mem 773 (by rfl) (by decide +kernel)
theorem m_774 : (Jvm.Cond.methodLink "LetterforgeLaw" (79 : Nat) ({ cls := "LetterforgeLaw", name := "spells", desc := "([II)J" } : Jvm.MethodName)) ∈ aw_tbl := aw_mem 774 (by decide +kernel) (by decide +kernel)
theorem m_775 : (Jvm.Cond.static ({ cls := "LetterforgeLaw", name := "spells", desc := "([II)J" } : Jvm.MethodName)) ∈ aw_tbl := aw_mem 775 (by decide +kernel) (by decide +kernel)
set_option maxRecDepth 100000 in
theorem m_776 : (Jvm.Cond.code ({ cls := "LetterforgeLaw", name := "spells", desc := "([II)J" } : Jvm.MethodName) method_6_code (8 : Nat) (Option.some Jvm.ClassFile.FieldType.long)) ∈ aw_tbl := aw_mem 776 (by rfl) (by decide +kernel)
theorem m_777 : (Jvm.Cond.constantLong "LetterforgeLaw" (73 : Nat) (64 : Int64)) ∈ aw_tbl := aw_mem 777 (by decide +kernel) (by decide +kernel)
theorem m_778 : (Jvm.Cond.methodLink "LetterforgeLaw" (93 : Nat) ({ cls := "LetterforgeLaw", name := "many", desc := "([JI)I" } : Jvm.MethodName)) ∈ aw_tbl := aw_mem 778 (by decide +kernel) (by decide +kernel)
theorem m_779 : (Jvm.Cond.static ({ cls := "LetterforgeLaw", name := "many", desc := "([JI)I" } : Jvm.MethodName)) ∈ aw_tbl := aw_mem 779 (by decide +kernel) (by decide +kernel)
set_option maxRecDepth 100000 in
theorem m_780 : (Jvm.Cond.code ({ cls := "LetterforgeLaw", name := "many", desc := "([JI)I" } : Jvm.MethodName) method_10_code (3 : Nat) (Option.some Jvm.ClassFile.FieldType.int)) ∈ aw_tbl := aw_mem 780 (by rfl) (by decide +kernel)
theorem m_781 : (Jvm.Cond.methodLink "LetterforgeLaw" (85 : Nat) ({ cls := "LetterforgeLaw", name := "sign", desc := "([JII)I" } : Jvm.MethodName)) ∈ aw_tbl := aw_mem 781 (by decide +kernel) (by decide +kernel)
theorem m_782 : (Jvm.Cond.static ({ cls := "LetterforgeLaw", name := "sign", desc := "([JII)I" } : Jvm.MethodName)) ∈ aw_tbl := aw_mem 782 (by decide +kernel) (by decide +kernel)
set_option maxRecDepth 100000 in
theorem m_783 : (Jvm.Cond.code ({ cls := "LetterforgeLaw", name := "sign", desc := "([JII)I" } : Jvm.MethodName) method_9_code (3 : Nat) (Option.some Jvm.ClassFile.FieldType.int)) ∈ aw_tbl := aw_mem 783 (by rfl) (by decide +kernel)
theorem m_784 : (Jvm.Cond.constantLong "LetterforgeLaw" (83 : Nat) (63 : Int64)) ∈ aw_tbl := aw_mem 784 (by decide +kernel) (by decide +kernel)
theorem m_785 : (Jvm.Cond.methodLink "LetterforgeLaw" (142 : Nat) ({ cls := "Letterforge", name := "doubts", desc := "(I)I" } : Jvm.MethodName)) ∈ aw_tbl := aw_mem 785 (by decide +kernel) (by decide +kernel)
theorem m_786 : (Jvm.Cond.instanceMethod ({ cls := "Letterforge", name := "doubts", desc := "(I)I" } : Jvm.MethodName)) ∈ aw_tbl := aw_mem 786 (by decide +kernel) (by decide +kernel)
theorem m_787 : (Jvm.Cond.selects "Letterforge" ({ cls := "Letterforge", name := "doubts", desc := "(I)I" } : Jvm.MethodName) ({ cls := "Letterforge", name := "doubts", desc := "(I)I" } : Jvm.MethodName)) ∈ aw_tbl := aw_mem 787 (by decide +kernel) (by decide +kernel)
set_option maxRecDepth 100000 in
theorem m_788 : (Jvm.Cond.code ({ cls := "Letterforge", name := "doubts", desc := "(I)I" } : Jvm.MethodName) prog_1_method_10_code (5 : Nat) (Option.some Jvm.ClassFile.FieldType.int)) ∈ aw_tbl := aw_mem 788 (by rfl) (by decide +kernel)
theorem m_790 : (Jvm.Cond.methodLink "LetterforgeLaw" (145 : Nat) ({ cls := "LetterforgeLaw", name := "doubts", desc := "([J[I)I" } : Jvm.MethodName)) ∈ aw_tbl := aw_mem 790 (by decide +kernel) (by decide +kernel)
theorem m_791 : (Jvm.Cond.static ({ cls := "LetterforgeLaw", name := "doubts", desc := "([J[I)I" } : Jvm.MethodName)) ∈ aw_tbl := aw_mem 791 (by decide +kernel) (by decide +kernel)
set_option maxRecDepth 100000 in
theorem m_792 : (Jvm.Cond.code ({ cls := "LetterforgeLaw", name := "doubts", desc := "([J[I)I" } : Jvm.MethodName) method_13_code (5 : Nat) (Option.some Jvm.ClassFile.FieldType.int)) ∈ aw_tbl := aw_mem 792 (by rfl) (by decide +kernel)
theorem m_793 : (Jvm.Cond.methodLink "LetterforgeLaw" (89 : Nat) ({ cls := "LetterforgeLaw", name := "areAlike", desc := "([JI[JI)Z" } : Jvm.MethodName)) ∈ aw_tbl := aw_mem 793 (by decide +kernel) (by decide +kernel)
theorem m_794 : (Jvm.Cond.static ({ cls := "LetterforgeLaw", name := "areAlike", desc := "([JI[JI)Z" } : Jvm.MethodName)) ∈ aw_tbl := aw_mem 794 (by decide +kernel) (by decide +kernel)
set_option maxRecDepth 100000 in
theorem m_795 : (Jvm.Cond.code ({ cls := "LetterforgeLaw", name := "areAlike", desc := "([JI[JI)Z" } : Jvm.MethodName) method_11_code (4 : Nat) (Option.some Jvm.ClassFile.FieldType.boolean)) ∈ aw_tbl := aw_mem 795 (by rfl) (by decide +kernel)
theorem m_796 : (Jvm.Cond.methodLink "LetterforgeLaw" (148 : Nat) ({ cls := "Letterforge", name := "load", desc := "(I)I" } : Jvm.MethodName)) ∈ aw_tbl := aw_mem 796 (by decide +kernel) (by decide +kernel)
theorem m_797 : (Jvm.Cond.instanceMethod ({ cls := "Letterforge", name := "load", desc := "(I)I" } : Jvm.MethodName)) ∈ aw_tbl := aw_mem 797 (by decide +kernel) (by decide +kernel)
theorem m_798 : (Jvm.Cond.selects "Letterforge" ({ cls := "Letterforge", name := "load", desc := "(I)I" } : Jvm.MethodName) ({ cls := "Letterforge", name := "load", desc := "(I)I" } : Jvm.MethodName)) ∈ aw_tbl := aw_mem 798 (by decide +kernel) (by decide +kernel)
set_option maxRecDepth 100000 in
theorem m_799 : (Jvm.Cond.code ({ cls := "Letterforge", name := "load", desc := "(I)I" } : Jvm.MethodName) prog_1_method_11_code (2 : Nat) (Option.some Jvm.ClassFile.FieldType.int)) ∈ aw_tbl := aw_mem 799 (by rfl) (by decide +kernel)
theorem m_800 : (Jvm.Cond.methodLink "LetterforgeLaw" (134 : Nat) ({ cls := "LetterforgeLaw", name := "load", desc := "([J[I[I)I" } : Jvm.MethodName)) ∈ aw_tbl := aw_mem 800 (by decide +kernel) (by decide +kernel)
theorem m_801 : (Jvm.Cond.static ({ cls := "LetterforgeLaw", name := "load", desc := "([J[I[I)I" } : Jvm.MethodName)) ∈ aw_tbl := aw_mem 801 (by decide +kernel) (by decide +kernel)
set_option maxRecDepth 100000 in
theorem m_802 : (Jvm.Cond.code ({ cls := "LetterforgeLaw", name := "load", desc := "([J[I[I)I" } : Jvm.MethodName) method_12_code (10 : Nat) (Option.some Jvm.ClassFile.FieldType.int)) ∈ aw_tbl := aw_mem 802 (by rfl) (by decide +kernel)
theorem m_803 : (Jvm.Cond.methodLink "LetterforgeLaw" (150 : Nat) ({ cls := "Letterforge", name := "travel", desc := "(I)I" } : Jvm.MethodName)) ∈ aw_tbl := aw_mem 803 (by decide +kernel) (by decide +kernel)
theorem m_804 : (Jvm.Cond.instanceMethod ({ cls := "Letterforge", name := "travel", desc := "(I)I" } : Jvm.MethodName)) ∈ aw_tbl := aw_mem 804 (by decide +kernel) (by decide +kernel)
theorem m_805 : (Jvm.Cond.selects "Letterforge" ({ cls := "Letterforge", name := "travel", desc := "(I)I" } : Jvm.MethodName) ({ cls := "Letterforge", name := "travel", desc := "(I)I" } : Jvm.MethodName)) ∈ aw_tbl := aw_mem 805 (by decide +kernel) (by decide +kernel)
set_option maxRecDepth 100000 in
theorem m_806 : (Jvm.Cond.code ({ cls := "Letterforge", name := "travel", desc := "(I)I" } : Jvm.MethodName) prog_1_method_24_code (5 : Nat) (Option.some Jvm.ClassFile.FieldType.int)) ∈ aw_tbl := aw_mem 806 (by rfl) (by decide +kernel)
theorem m_814 : (Jvm.Cond.methodLink "LetterforgeLaw" (153 : Nat) ({ cls := "LetterforgeLaw", name := "travel", desc := "([I[J[I[I)I" } : Jvm.MethodName)) ∈ aw_tbl := aw_mem 814 (by decide +kernel) (by decide +kernel)
theorem m_815 : (Jvm.Cond.static ({ cls := "LetterforgeLaw", name := "travel", desc := "([I[J[I[I)I" } : Jvm.MethodName)) ∈ aw_tbl := aw_mem 815 (by decide +kernel) (by decide +kernel)
set_option maxRecDepth 100000 in
theorem m_816 : (Jvm.Cond.code ({ cls := "LetterforgeLaw", name := "travel", desc := "([I[J[I[I)I" } : Jvm.MethodName) method_21_code (8 : Nat) (Option.some Jvm.ClassFile.FieldType.int)) ∈ aw_tbl := aw_mem 816 (by rfl) (by decide +kernel)
theorem m_817 : (Jvm.Cond.methodLink "LetterforgeLaw" (156 : Nat) ({ cls := "LetterforgeLaw", name := "errors", desc := "([I[I[J[I[II)I" } : Jvm.MethodName)) ∈ aw_tbl := aw_mem 817 (by decide +kernel) (by decide +kernel)
theorem m_818 : (Jvm.Cond.static ({ cls := "LetterforgeLaw", name := "errors", desc := "([I[I[J[I[II)I" } : Jvm.MethodName)) ∈ aw_tbl := aw_mem 818 (by decide +kernel) (by decide +kernel)
set_option maxRecDepth 100000 in
theorem m_819 : (Jvm.Cond.code ({ cls := "LetterforgeLaw", name := "errors", desc := "([I[I[J[I[II)I" } : Jvm.MethodName) method_20_code (11 : Nat) (Option.some Jvm.ClassFile.FieldType.int)) ∈ aw_tbl := aw_mem 819 (by rfl) (by decide +kernel)
theorem m_820 : (Jvm.Cond.methodLink "LetterforgeLaw" (108 : Nat) ({ cls := "LetterforgeLaw", name := "has", desc := "([II)Z" } : Jvm.MethodName)) ∈ aw_tbl := aw_mem 820 (by decide +kernel) (by decide +kernel)
theorem m_821 : (Jvm.Cond.static ({ cls := "LetterforgeLaw", name := "has", desc := "([II)Z" } : Jvm.MethodName)) ∈ aw_tbl := aw_mem 821 (by decide +kernel) (by decide +kernel)
set_option maxRecDepth 100000 in
theorem m_822 : (Jvm.Cond.code ({ cls := "LetterforgeLaw", name := "has", desc := "([II)Z" } : Jvm.MethodName) method_19_code (4 : Nat) (Option.some Jvm.ClassFile.FieldType.boolean)) ∈ aw_tbl := aw_mem 822 (by rfl) (by decide +kernel)
theorem m_823 : (Jvm.Cond.methodLink "LetterforgeLaw" (104 : Nat) ({ cls := "LetterforgeLaw", name := "isUnit", desc := "([II)Z" } : Jvm.MethodName)) ∈ aw_tbl := aw_mem 823 (by decide +kernel) (by decide +kernel)
theorem m_824 : (Jvm.Cond.static ({ cls := "LetterforgeLaw", name := "isUnit", desc := "([II)Z" } : Jvm.MethodName)) ∈ aw_tbl := aw_mem 824 (by decide +kernel) (by decide +kernel)
set_option maxRecDepth 100000 in
theorem m_825 : (Jvm.Cond.code ({ cls := "LetterforgeLaw", name := "isUnit", desc := "([II)Z" } : Jvm.MethodName) method_18_code (2 : Nat) (Option.some Jvm.ClassFile.FieldType.boolean)) ∈ aw_tbl := aw_mem 825 (by rfl) (by decide +kernel)
theorem m_826 : (Jvm.Cond.methodLink "LetterforgeLaw" (111 : Nat) ({ cls := "LetterforgeLaw", name := "apart", desc := "([III)I" } : Jvm.MethodName)) ∈ aw_tbl := aw_mem 826 (by decide +kernel) (by decide +kernel)
theorem m_827 : (Jvm.Cond.static ({ cls := "LetterforgeLaw", name := "apart", desc := "([III)I" } : Jvm.MethodName)) ∈ aw_tbl := aw_mem 827 (by decide +kernel) (by decide +kernel)
set_option maxRecDepth 100000 in
theorem m_828 : (Jvm.Cond.code ({ cls := "LetterforgeLaw", name := "apart", desc := "([III)I" } : Jvm.MethodName) method_17_code (11 : Nat) (Option.some Jvm.ClassFile.FieldType.int)) ∈ aw_tbl := aw_mem 828 (by rfl) (by decide +kernel)
theorem m_829 : (Jvm.Cond.methodLink "LetterforgeLaw" (101 : Nat) ({ cls := "LetterforgeLaw", name := "length", desc := "(I)I" } : Jvm.MethodName)) ∈ aw_tbl := aw_mem 829 (by decide +kernel) (by decide +kernel)
theorem m_830 : (Jvm.Cond.static ({ cls := "LetterforgeLaw", name := "length", desc := "(I)I" } : Jvm.MethodName)) ∈ aw_tbl := aw_mem 830 (by decide +kernel) (by decide +kernel)
set_option maxRecDepth 100000 in
theorem m_831 : (Jvm.Cond.code ({ cls := "LetterforgeLaw", name := "length", desc := "(I)I" } : Jvm.MethodName) method_16_code (3 : Nat) (Option.some Jvm.ClassFile.FieldType.int)) ∈ aw_tbl := aw_mem 831 (by rfl) (by decide +kernel)
theorem m_832 : (Jvm.Cond.methodLink "LetterforgeLaw" (159 : Nat) ({ cls := "LetterforgeLaw", name := "isPrimer", desc := "(LLetterforge;[J[I[II)Z" } : Jvm.MethodName)) ∈ aw_tbl := aw_mem 832 (by decide +kernel) (by decide +kernel)
theorem m_833 : (Jvm.Cond.static ({ cls := "LetterforgeLaw", name := "isPrimer", desc := "(LLetterforge;[J[I[II)Z" } : Jvm.MethodName)) ∈ aw_tbl := aw_mem 833 (by decide +kernel) (by decide +kernel)
set_option maxRecDepth 100000 in
theorem m_834 : (Jvm.Cond.code ({ cls := "LetterforgeLaw", name := "isPrimer", desc := "(LLetterforge;[J[I[II)Z" } : Jvm.MethodName) method_24_code (18 : Nat) (Option.some Jvm.ClassFile.FieldType.boolean)) ∈ aw_tbl := aw_mem 834 (by rfl) (by decide +kernel)
theorem m_835 : (Jvm.Cond.methodLink "LetterforgeLaw" (115 : Nat) ({ cls := "LetterforgeLaw", name := "hasSign", desc := "([JIIJ)Z" } : Jvm.MethodName)) ∈ aw_tbl := aw_mem 835 (by decide +kernel) (by decide +kernel)
theorem m_836 : (Jvm.Cond.static ({ cls := "LetterforgeLaw", name := "hasSign", desc := "([JIIJ)Z" } : Jvm.MethodName)) ∈ aw_tbl := aw_mem 836 (by decide +kernel) (by decide +kernel)
set_option maxRecDepth 100000 in
theorem m_837 : (Jvm.Cond.code ({ cls := "LetterforgeLaw", name := "hasSign", desc := "([JIIJ)Z" } : Jvm.MethodName) method_22_code (8 : Nat) (Option.some Jvm.ClassFile.FieldType.boolean)) ∈ aw_tbl := aw_mem 837 (by rfl) (by decide +kernel)
theorem m_838 : (Jvm.Cond.methodLink "LetterforgeLaw" (119 : Nat) ({ cls := "LetterforgeLaw", name := "read", desc := "([J[I[IJ)I" } : Jvm.MethodName)) ∈ aw_tbl := aw_mem 838 (by decide +kernel) (by decide +kernel)
theorem m_839 : (Jvm.Cond.static ({ cls := "LetterforgeLaw", name := "read", desc := "([J[I[IJ)I" } : Jvm.MethodName)) ∈ aw_tbl := aw_mem 839 (by decide +kernel) (by decide +kernel)
set_option maxRecDepth 100000 in
theorem m_840 : (Jvm.Cond.code ({ cls := "LetterforgeLaw", name := "read", desc := "([J[I[IJ)I" } : Jvm.MethodName) method_23_code (7 : Nat) (Option.some Jvm.ClassFile.FieldType.int)) ∈ aw_tbl := aw_mem 840 (by rfl) (by decide +kernel)
theorem m_841 : (Jvm.Cond.methodLink "LetterforgeLaw" (127 : Nat) ({ cls := "Letterforge", name := "cost", desc := "(I)I" } : Jvm.MethodName)) ∈ aw_tbl := aw_mem 841 (by decide +kernel) (by decide +kernel)
theorem m_842 : (Jvm.Cond.instanceMethod ({ cls := "Letterforge", name := "cost", desc := "(I)I" } : Jvm.MethodName)) ∈ aw_tbl := aw_mem 842 (by decide +kernel) (by decide +kernel)
theorem m_843 : (Jvm.Cond.selects "Letterforge" ({ cls := "Letterforge", name := "cost", desc := "(I)I" } : Jvm.MethodName) ({ cls := "Letterforge", name := "cost", desc := "(I)I" } : Jvm.MethodName)) ∈ aw_tbl := aw_mem 843 (by decide +kernel) (by decide +kernel)
set_option maxRecDepth 100000 in
theorem m_844 : (Jvm.Cond.code ({ cls := "Letterforge", name := "cost", desc := "(I)I" } : Jvm.MethodName) prog_1_method_21_code (2 : Nat) (Option.some Jvm.ClassFile.FieldType.int)) ∈ aw_tbl := aw_mem 844 (by rfl) (by decide +kernel)
theorem m_849 : (Jvm.Cond.methodLink "LetterforgeLaw" (163 : Nat) ({ cls := "LetterforgeLaw", name := "readings", desc := "([I[JI)J" } : Jvm.MethodName)) ∈ aw_tbl := aw_mem 849 (by decide +kernel) (by decide +kernel)
theorem m_850 : (Jvm.Cond.static ({ cls := "LetterforgeLaw", name := "readings", desc := "([I[JI)J" } : Jvm.MethodName)) ∈ aw_tbl := aw_mem 850 (by decide +kernel) (by decide +kernel)
set_option maxRecDepth 100000 in
theorem m_851 : (Jvm.Cond.code ({ cls := "LetterforgeLaw", name := "readings", desc := "([I[JI)J" } : Jvm.MethodName) method_15_code (16 : Nat) (Option.some Jvm.ClassFile.FieldType.long)) ∈ aw_tbl := aw_mem 851 (by rfl) (by decide +kernel)
theorem m_852 : (Jvm.Cond.methodLink "LetterforgeLaw" (97 : Nat) ({ cls := "LetterforgeLaw", name := "signs", desc := "(J)I" } : Jvm.MethodName)) ∈ aw_tbl := aw_mem 852 (by decide +kernel) (by decide +kernel)
theorem m_853 : (Jvm.Cond.static ({ cls := "LetterforgeLaw", name := "signs", desc := "(J)I" } : Jvm.MethodName)) ∈ aw_tbl := aw_mem 853 (by decide +kernel) (by decide +kernel)
set_option maxRecDepth 100000 in
theorem m_854 : (Jvm.Cond.code ({ cls := "LetterforgeLaw", name := "signs", desc := "(J)I" } : Jvm.MethodName) method_7_code (3 : Nat) (Option.some Jvm.ClassFile.FieldType.int)) ∈ aw_tbl := aw_mem 854 (by rfl) (by decide +kernel)
theorem m_855 : (Jvm.Cond.methodLink "LetterforgeLaw" (167 : Nat) ({ cls := "Letterforge", name := "readings", desc := "(II)J" } : Jvm.MethodName)) ∈ aw_tbl := aw_mem 855 (by decide +kernel) (by decide +kernel)
theorem m_856 : (Jvm.Cond.instanceMethod ({ cls := "Letterforge", name := "readings", desc := "(II)J" } : Jvm.MethodName)) ∈ aw_tbl := aw_mem 856 (by decide +kernel) (by decide +kernel)
theorem m_857 : (Jvm.Cond.selects "Letterforge" ({ cls := "Letterforge", name := "readings", desc := "(II)J" } : Jvm.MethodName) ({ cls := "Letterforge", name := "readings", desc := "(II)J" } : Jvm.MethodName)) ∈ aw_tbl := aw_mem 857 (by decide +kernel) (by decide +kernel)
set_option maxRecDepth 100000 in
theorem m_858 : (Jvm.Cond.code ({ cls := "Letterforge", name := "readings", desc := "(II)J" } : Jvm.MethodName) prog_1_method_13_code (3 : Nat) (Option.some Jvm.ClassFile.FieldType.long)) ∈ aw_tbl := aw_mem 858 (by rfl) (by decide +kernel)
theorem m_891 : (Jvm.Cond.methodLink "LetterforgeLaw" (170 : Nat) ({ cls := "Letterforge", name := "readingsAnew", desc := "(II)J" } : Jvm.MethodName)) ∈ aw_tbl := aw_mem 891 (by decide +kernel) (by decide +kernel)
theorem m_892 : (Jvm.Cond.instanceMethod ({ cls := "Letterforge", name := "readingsAnew", desc := "(II)J" } : Jvm.MethodName)) ∈ aw_tbl := aw_mem 892 (by decide +kernel) (by decide +kernel)
theorem m_893 : (Jvm.Cond.selects "Letterforge" ({ cls := "Letterforge", name := "readingsAnew", desc := "(II)J" } : Jvm.MethodName) ({ cls := "Letterforge", name := "readingsAnew", desc := "(II)J" } : Jvm.MethodName)) ∈ aw_tbl := aw_mem 893 (by decide +kernel) (by decide +kernel)
set_option maxRecDepth 100000 in
theorem m_894 : (Jvm.Cond.code ({ cls := "Letterforge", name := "readingsAnew", desc := "(II)J" } : Jvm.MethodName) prog_1_method_14_code (3 : Nat) (Option.some Jvm.ClassFile.FieldType.long)) ∈ aw_tbl := aw_mem 894 (by rfl) (by decide +kernel)
theorem m_913 : (Jvm.Cond.methodLink "LetterforgeLaw" (173 : Nat) ({ cls := "Letterforge", name := "fit", desc := "(II)I" } : Jvm.MethodName)) ∈ aw_tbl := aw_mem 913 (by decide +kernel) (by decide +kernel)
theorem m_914 : (Jvm.Cond.instanceMethod ({ cls := "Letterforge", name := "fit", desc := "(II)I" } : Jvm.MethodName)) ∈ aw_tbl := aw_mem 914 (by decide +kernel) (by decide +kernel)
theorem m_915 : (Jvm.Cond.selects "Letterforge" ({ cls := "Letterforge", name := "fit", desc := "(II)I" } : Jvm.MethodName) ({ cls := "Letterforge", name := "fit", desc := "(II)I" } : Jvm.MethodName)) ∈ aw_tbl := aw_mem 915 (by decide +kernel) (by decide +kernel)
set_option maxRecDepth 100000 in
theorem m_916 : (Jvm.Cond.code ({ cls := "Letterforge", name := "fit", desc := "(II)I" } : Jvm.MethodName) prog_1_method_15_code (3 : Nat) (Option.some Jvm.ClassFile.FieldType.int)) ∈ aw_tbl := aw_mem 916 (by rfl) (by decide +kernel)
theorem m_917 : (Jvm.Cond.methodLink "LetterforgeLaw" (138 : Nat) ({ cls := "LetterforgeLaw", name := "fit", desc := "([J[J[I[I)I" } : Jvm.MethodName)) ∈ aw_tbl := aw_mem 917 (by decide +kernel) (by decide +kernel)
theorem m_918 : (Jvm.Cond.static ({ cls := "LetterforgeLaw", name := "fit", desc := "([J[J[I[I)I" } : Jvm.MethodName)) ∈ aw_tbl := aw_mem 918 (by decide +kernel) (by decide +kernel)
set_option maxRecDepth 100000 in
theorem m_919 : (Jvm.Cond.code ({ cls := "LetterforgeLaw", name := "fit", desc := "([J[J[I[I)I" } : Jvm.MethodName) method_14_code (6 : Nat) (Option.some Jvm.ClassFile.FieldType.int)) ∈ aw_tbl := aw_mem 919 (by rfl) (by decide +kernel)
theorem m_920 : (Jvm.Cond.methodLink "LetterforgeLaw" (175 : Nat) ({ cls := "Letterforge", name := "loadIf", desc := "(II)I" } : Jvm.MethodName)) ∈ aw_tbl := aw_mem 920 (by decide +kernel) (by decide +kernel)
theorem m_921 : (Jvm.Cond.instanceMethod ({ cls := "Letterforge", name := "loadIf", desc := "(II)I" } : Jvm.MethodName)) ∈ aw_tbl := aw_mem 921 (by decide +kernel) (by decide +kernel)
theorem m_922 : (Jvm.Cond.selects "Letterforge" ({ cls := "Letterforge", name := "loadIf", desc := "(II)I" } : Jvm.MethodName) ({ cls := "Letterforge", name := "loadIf", desc := "(II)I" } : Jvm.MethodName)) ∈ aw_tbl := aw_mem 922 (by decide +kernel) (by decide +kernel)
set_option maxRecDepth 100000 in
theorem m_923 : (Jvm.Cond.code ({ cls := "Letterforge", name := "loadIf", desc := "(II)I" } : Jvm.MethodName) prog_1_method_12_code (5 : Nat) (Option.some Jvm.ClassFile.FieldType.int)) ∈ aw_tbl := aw_mem 923 (by rfl) (by decide +kernel)
theorem m_929 : (Jvm.Cond.methodLink "LetterforgeLaw" (220 : Nat) ({ cls := "LetterforgeLaw", name := "areSo", desc := "(LLetterforge;[I[I[I[I[I[I[I[III[J[J)Z" } : Jvm.MethodName)) ∈ aw_tbl := aw_mem 929 (by decide +kernel) (by decide +kernel)
theorem m_930 : (Jvm.Cond.static ({ cls := "LetterforgeLaw", name := "areSo", desc := "(LLetterforge;[I[I[I[I[I[I[I[III[J[J)Z" } : Jvm.MethodName)) ∈ aw_tbl := aw_mem 930 (by decide +kernel) (by decide +kernel)
set_option maxRecDepth 100000 in
theorem m_931 : (Jvm.Cond.code ({ cls := "LetterforgeLaw", name := "areSo", desc := "(LLetterforge;[I[I[I[I[I[I[I[III[J[J)Z" } : Jvm.MethodName) method_28_code (23 : Nat) (Option.some Jvm.ClassFile.FieldType.boolean)) ∈ aw_tbl := aw_mem 931 (by rfl) (by decide +kernel)
theorem m_932 : (Jvm.Cond.methodLink "LetterforgeLaw" (178 : Nat) ({ cls := "Letterforge", name := "apart", desc := "(II)I" } : Jvm.MethodName)) ∈ aw_tbl := aw_mem 932 (by decide +kernel) (by decide +kernel)
theorem m_933 : (Jvm.Cond.instanceMethod ({ cls := "Letterforge", name := "apart", desc := "(II)I" } : Jvm.MethodName)) ∈ aw_tbl := aw_mem 933 (by decide +kernel) (by decide +kernel)
theorem m_934 : (Jvm.Cond.selects "Letterforge" ({ cls := "Letterforge", name := "apart", desc := "(II)I" } : Jvm.MethodName) ({ cls := "Letterforge", name := "apart", desc := "(II)I" } : Jvm.MethodName)) ∈ aw_tbl := aw_mem 934 (by decide +kernel) (by decide +kernel)
set_option maxRecDepth 100000 in
theorem m_935 : (Jvm.Cond.code ({ cls := "Letterforge", name := "apart", desc := "(II)I" } : Jvm.MethodName) prog_1_method_17_code (3 : Nat) (Option.some Jvm.ClassFile.FieldType.int)) ∈ aw_tbl := aw_mem 935 (by rfl) (by decide +kernel)
theorem m_937 : (Jvm.Cond.methodLink "LetterforgeLaw" (180 : Nat) ({ cls := "LetterforgeLaw", name := "score", desc := "([I[I[I[I[I[I[II[J[J)I" } : Jvm.MethodName)) ∈ aw_tbl := aw_mem 937 (by decide +kernel) (by decide +kernel)
theorem m_938 : (Jvm.Cond.static ({ cls := "LetterforgeLaw", name := "score", desc := "([I[I[I[I[I[I[II[J[J)I" } : Jvm.MethodName)) ∈ aw_tbl := aw_mem 938 (by decide +kernel) (by decide +kernel)
set_option maxRecDepth 100000 in
theorem m_939 : (Jvm.Cond.code ({ cls := "LetterforgeLaw", name := "score", desc := "([I[I[I[I[I[I[II[J[J)I" } : Jvm.MethodName) method_26_code (14 : Nat) (Option.some Jvm.ClassFile.FieldType.int)) ∈ aw_tbl := aw_mem 939 (by rfl) (by decide +kernel)
theorem m_940 : (Jvm.Cond.methodLink "LetterforgeLaw" (184 : Nat) ({ cls := "Letterforge", name := "score", desc := "(II)I" } : Jvm.MethodName)) ∈ aw_tbl := aw_mem 940 (by decide +kernel) (by decide +kernel)
theorem m_941 : (Jvm.Cond.instanceMethod ({ cls := "Letterforge", name := "score", desc := "(II)I" } : Jvm.MethodName)) ∈ aw_tbl := aw_mem 941 (by decide +kernel) (by decide +kernel)
theorem m_942 : (Jvm.Cond.selects "Letterforge" ({ cls := "Letterforge", name := "score", desc := "(II)I" } : Jvm.MethodName) ({ cls := "Letterforge", name := "score", desc := "(II)I" } : Jvm.MethodName)) ∈ aw_tbl := aw_mem 942 (by decide +kernel) (by decide +kernel)
set_option maxRecDepth 100000 in
theorem m_943 : (Jvm.Cond.code ({ cls := "Letterforge", name := "score", desc := "(II)I" } : Jvm.MethodName) prog_1_method_27_code (3 : Nat) (Option.some Jvm.ClassFile.FieldType.int)) ∈ aw_tbl := aw_mem 943 (by rfl) (by decide +kernel)
theorem m_944 : (Jvm.Cond.methodLink "LetterforgeLaw" (186 : Nat) ({ cls := "Letterforge", name := "votes", desc := "(I)I" } : Jvm.MethodName)) ∈ aw_tbl := aw_mem 944 (by decide +kernel) (by decide +kernel)
theorem m_945 : (Jvm.Cond.instanceMethod ({ cls := "Letterforge", name := "votes", desc := "(I)I" } : Jvm.MethodName)) ∈ aw_tbl := aw_mem 945 (by decide +kernel) (by decide +kernel)
theorem m_946 : (Jvm.Cond.selects "Letterforge" ({ cls := "Letterforge", name := "votes", desc := "(I)I" } : Jvm.MethodName) ({ cls := "Letterforge", name := "votes", desc := "(I)I" } : Jvm.MethodName)) ∈ aw_tbl := aw_mem 946 (by decide +kernel) (by decide +kernel)
set_option maxRecDepth 100000 in
theorem m_947 : (Jvm.Cond.code ({ cls := "Letterforge", name := "votes", desc := "(I)I" } : Jvm.MethodName) prog_1_method_28_code (2 : Nat) (Option.some Jvm.ClassFile.FieldType.int)) ∈ aw_tbl := aw_mem 947 (by rfl) (by decide +kernel)
theorem m_949 : (Jvm.Cond.methodLink "LetterforgeLaw" (189 : Nat) ({ cls := "LetterforgeLaw", name := "way", desc := "([I[JI[JI)I" } : Jvm.MethodName)) ∈ aw_tbl := aw_mem 949 (by decide +kernel) (by decide +kernel)
theorem m_950 : (Jvm.Cond.static ({ cls := "LetterforgeLaw", name := "way", desc := "([I[JI[JI)I" } : Jvm.MethodName)) ∈ aw_tbl := aw_mem 950 (by decide +kernel) (by decide +kernel)
set_option maxRecDepth 100000 in
theorem m_951 : (Jvm.Cond.code ({ cls := "LetterforgeLaw", name := "way", desc := "([I[JI[JI)I" } : Jvm.MethodName) method_25_code (10 : Nat) (Option.some Jvm.ClassFile.FieldType.int)) ∈ aw_tbl := aw_mem 951 (by rfl) (by decide +kernel)
theorem m_952 : (Jvm.Cond.methodLink "LetterforgeLaw" (193 : Nat) ({ cls := "Letterforge", name := "reform", desc := "(II)I" } : Jvm.MethodName)) ∈ aw_tbl := aw_mem 952 (by decide +kernel) (by decide +kernel)
theorem m_953 : (Jvm.Cond.instanceMethod ({ cls := "Letterforge", name := "reform", desc := "(II)I" } : Jvm.MethodName)) ∈ aw_tbl := aw_mem 953 (by decide +kernel) (by decide +kernel)
theorem m_954 : (Jvm.Cond.selects "Letterforge" ({ cls := "Letterforge", name := "reform", desc := "(II)I" } : Jvm.MethodName) ({ cls := "Letterforge", name := "reform", desc := "(II)I" } : Jvm.MethodName)) ∈ aw_tbl := aw_mem 954 (by decide +kernel) (by decide +kernel)
set_option maxRecDepth 100000 in
theorem m_955 : (Jvm.Cond.code ({ cls := "Letterforge", name := "reform", desc := "(II)I" } : Jvm.MethodName) prog_1_method_30_code (6 : Nat) (Option.some Jvm.ClassFile.FieldType.int)) ∈ aw_tbl := aw_mem 955 (by rfl) (by decide +kernel)
theorem m_961 : (Jvm.Cond.methodLink "LetterforgeLaw" (196 : Nat) ({ cls := "Letterforge", name := "lost", desc := "(II)I" } : Jvm.MethodName)) ∈ aw_tbl := aw_mem 961 (by decide +kernel) (by decide +kernel)
theorem m_962 : (Jvm.Cond.instanceMethod ({ cls := "Letterforge", name := "lost", desc := "(II)I" } : Jvm.MethodName)) ∈ aw_tbl := aw_mem 962 (by decide +kernel) (by decide +kernel)
theorem m_963 : (Jvm.Cond.selects "Letterforge" ({ cls := "Letterforge", name := "lost", desc := "(II)I" } : Jvm.MethodName) ({ cls := "Letterforge", name := "lost", desc := "(II)I" } : Jvm.MethodName)) ∈ aw_tbl := aw_mem 963 (by decide +kernel) (by decide +kernel)
set_option maxRecDepth 100000 in
theorem m_964 : (Jvm.Cond.code ({ cls := "Letterforge", name := "lost", desc := "(II)I" } : Jvm.MethodName) prog_1_method_31_code (5 : Nat) (Option.some Jvm.ClassFile.FieldType.int)) ∈ aw_tbl := aw_mem 964 (by rfl) (by decide +kernel)
theorem m_969 : (Jvm.Cond.methodLink "LetterforgeLaw" (208 : Nat) ({ cls := "LetterforgeLaw", name := "isWord", desc := "(LLetterforge;[I[I[I[IIII)Z" } : Jvm.MethodName)) ∈ aw_tbl := aw_mem 969 (by decide +kernel) (by decide +kernel)
theorem m_970 : (Jvm.Cond.static ({ cls := "LetterforgeLaw", name := "isWord", desc := "(LLetterforge;[I[I[I[IIII)Z" } : Jvm.MethodName)) ∈ aw_tbl := aw_mem 970 (by decide +kernel) (by decide +kernel)
set_option maxRecDepth 100000 in
theorem m_971 : (Jvm.Cond.code ({ cls := "LetterforgeLaw", name := "isWord", desc := "(LLetterforge;[I[I[I[IIII)Z" } : Jvm.MethodName) method_29_code (16 : Nat) (Option.some Jvm.ClassFile.FieldType.boolean)) ∈ aw_tbl := aw_mem 971 (by rfl) (by decide +kernel)
theorem m_972 : (Jvm.Cond.methodLink "LetterforgeLaw" (216 : Nat) ({ cls := "LetterforgeLaw", name := "isDesign", desc := "(LLetterforge;[I[I[IIIII)Z" } : Jvm.MethodName)) ∈ aw_tbl := aw_mem 972 (by decide +kernel) (by decide +kernel)
theorem m_973 : (Jvm.Cond.static ({ cls := "LetterforgeLaw", name := "isDesign", desc := "(LLetterforge;[I[I[IIIII)Z" } : Jvm.MethodName)) ∈ aw_tbl := aw_mem 973 (by decide +kernel) (by decide +kernel)
set_option maxRecDepth 100000 in
theorem m_974 : (Jvm.Cond.code ({ cls := "LetterforgeLaw", name := "isDesign", desc := "(LLetterforge;[I[I[IIIII)Z" } : Jvm.MethodName) method_30_code (16 : Nat) (Option.some Jvm.ClassFile.FieldType.boolean)) ∈ aw_tbl := aw_mem 974 (by rfl) (by decide +kernel)
theorem m_975 : (Jvm.Cond.methodLink "LetterforgeLaw" (199 : Nat) ({ cls := "Letterforge", name := "mark", desc := "(IIZ)Z" } : Jvm.MethodName)) ∈ aw_tbl := aw_mem 975 (by decide +kernel) (by decide +kernel)
theorem m_976 : (Jvm.Cond.instanceMethod ({ cls := "Letterforge", name := "mark", desc := "(IIZ)Z" } : Jvm.MethodName)) ∈ aw_tbl := aw_mem 976 (by decide +kernel) (by decide +kernel)
theorem m_977 : (Jvm.Cond.selects "Letterforge" ({ cls := "Letterforge", name := "mark", desc := "(IIZ)Z" } : Jvm.MethodName) ({ cls := "Letterforge", name := "mark", desc := "(IIZ)Z" } : Jvm.MethodName)) ∈ aw_tbl := aw_mem 977 (by decide +kernel) (by decide +kernel)
set_option maxRecDepth 100000 in
theorem m_978 : (Jvm.Cond.code ({ cls := "Letterforge", name := "mark", desc := "(IIZ)Z" } : Jvm.MethodName) prog_1_method_8_code (5 : Nat) (Option.some Jvm.ClassFile.FieldType.boolean)) ∈ aw_tbl := aw_mem 978 (by rfl) (by decide +kernel)
theorem m_979 : (Jvm.Cond.methodLink "LetterforgeLaw" (212 : Nat) ({ cls := "LetterforgeLaw", name := "isTold", desc := "(LLetterforge;[I[I[I[I[IIII)Z" } : Jvm.MethodName)) ∈ aw_tbl := aw_mem 979 (by decide +kernel) (by decide +kernel)
theorem m_980 : (Jvm.Cond.static ({ cls := "LetterforgeLaw", name := "isTold", desc := "(LLetterforge;[I[I[I[I[IIII)Z" } : Jvm.MethodName)) ∈ aw_tbl := aw_mem 980 (by decide +kernel) (by decide +kernel)
set_option maxRecDepth 100000 in
theorem m_981 : (Jvm.Cond.code ({ cls := "LetterforgeLaw", name := "isTold", desc := "(LLetterforge;[I[I[I[I[IIII)Z" } : Jvm.MethodName) method_31_code (16 : Nat) (Option.some Jvm.ClassFile.FieldType.boolean)) ∈ aw_tbl := aw_mem 981 (by rfl) (by decide +kernel)
theorem m_982 : (Jvm.Cond.constant "LetterforgeLaw" (207 : Nat) (60000 : Int32)) ∈ aw_tbl := aw_mem 982 (by decide +kernel) (by decide +kernel)
section FLD
variable {p : Program} {l : Launch} {e : Env} {R : Room} {s : State} {m : MethodId} {args : Array Value} {below : List Frame} {meth : Method} {c : Code} {H : Heap} {locs : List Loc} {cells slots : Nat} {Q : State → Prop}
variable {cc : ByteArray} {pc : Nat} {ls : Array Slot} {rest : List Value} {D : va_G} {cA : Nat → ClassId} {base : Nat} {ad : Nat → Nat} {σ : Sg} {d : Dt}
end FLD
theorem cr_L_8 : aw_LV RL 8 RX10 yX10_syllable 1 (Cond.code yX10_syllable cX10_syllable 2 (some .int)) := ⟨⟨m_313, m_314, m_315, m_1, m_316⟩, by decide +kernel⟩
theorem cr_L_14 : aw_LV RL 14 RX10 yX10_word 1 (Cond.code yX10_word cX10_word 3 (some .int)) := ⟨⟨m_405, m_406, m_407, m_1, m_408⟩, by decide +kernel⟩
theorem cr_L_17 : aw_LV RL 17 RX10 yX10_change 5 (Cond.code yX10_change cX10_change 7 (some .int)) := ⟨⟨m_430, m_431, m_432, m_1, m_433⟩, by decide +kernel⟩
theorem cr_L_21 : aw_LV RL 21 RX10 yX10_design 2 (Cond.code yX10_design cX10_design 3 (some .int)) := ⟨⟨m_464, m_465, m_466, m_1, m_467⟩, by decide +kernel⟩
theorem cr_L_25 : aw_LV RL 25 RX10 yX10_assign 4 (Cond.code yX10_assign cX10_assign 6 (some .int)) := ⟨⟨m_496, m_497, m_498, m_1, m_499⟩, by decide +kernel⟩
theorem cr_L_29 : aw_LV RL 29 RX10 yX10_shape 2 (Cond.code yX10_shape cX10_shape 4 (some .int)) := ⟨⟨m_517, m_518, m_519, m_1, m_520⟩, by decide +kernel⟩
theorem cr_L_32 : aw_LV RL 32 RX10 yX10_key 3 (Cond.code yX10_key cX10_key 4 (some .int)) := ⟨⟨m_531, m_532, m_533, m_1, m_534⟩, by decide +kernel⟩
theorem cr_L_36 : aw_LV RL 36 RX10 yX10_group 4 (Cond.code yX10_group cX10_group 6 (some .int)) := ⟨⟨m_540, m_541, m_542, m_1, m_543⟩, by decide +kernel⟩
theorem cr_L_40 : aw_LV RL 40 RX10 yX10_spoken 3 (Cond.code yX10_spoken cX10_spoken 5 (some .int)) := ⟨⟨m_551, m_552, m_553, m_1, m_554⟩, by decide +kernel⟩
theorem cr_L_43 : aw_LV RL 43 RX10 yX10_spelled 3 (Cond.code yX10_spelled cX10_spelled 4 (some .int)) := ⟨⟨m_569, m_570, m_571, m_1, m_572⟩, by decide +kernel⟩
theorem cr_L_46 : aw_LV RL 46 RX10 yX10_leastCost 1 (Cond.code yX10_leastCost cX10_leastCost 2 (some .int)) := ⟨⟨m_590, m_591, m_592, m_1, m_593⟩, by decide +kernel⟩
theorem cr_L_49 : aw_LV RL 49 RX10 yX10_errors 2 (Cond.code yX10_errors cX10_errors 7 (some .int)) := ⟨⟨m_637, m_638, m_639, m_1, m_640⟩, by decide +kernel⟩
theorem cr_L_52 : aw_LV RL 52 RX10 yX10_elected 0 (Cond.code yX10_elected cX10_elected 1 (some .int)) := ⟨⟨m_670, m_671, m_672, m_1, m_673⟩, by decide +kernel⟩
theorem cr_L_56 : aw_LV RL 56 RX10 yX10_primer 2 (Cond.code yX10_primer cX10_primer 3 (some .int)) := ⟨⟨m_738, m_739, m_740, m_1, m_741⟩, by decide +kernel⟩
theorem cr_L_68 : aw_LS RL 68 yL_of 2 (Cond.code yL_of cL_of 2 (some .int)) := ⟨⟨m_771, m_772, m_0, m_773⟩, by decide +kernel⟩
theorem cr_L_75 : aw_LS RL 75 yL_speaks 6 (Cond.code yL_speaks cL_speaks 12 (some .int)) := ⟨⟨m_768, m_769, m_0, m_770⟩, by decide +kernel⟩
theorem cr_L_79 : aw_LS RL 79 yL_spells 2 (Cond.code yL_spells cL_spells 8 (some .long)) := ⟨⟨m_774, m_775, m_0, m_776⟩, by decide +kernel⟩
theorem cr_L_85 : aw_LS RL 85 yL_sign 3 (Cond.code yL_sign cL_sign 3 (some .int)) := ⟨⟨m_781, m_782, m_0, m_783⟩, by decide +kernel⟩
theorem cr_L_89 : aw_LS RL 89 yL_areAlike 4 (Cond.code yL_areAlike cL_areAlike 4 (some .boolean)) := ⟨⟨m_793, m_794, m_0, m_795⟩, by decide +kernel⟩
theorem cr_L_93 : aw_LS RL 93 yL_many 2 (Cond.code yL_many cL_many 3 (some .int)) := ⟨⟨m_778, m_779, m_0, m_780⟩, by decide +kernel⟩
theorem cr_L_97 : aw_LS RL 97 yL_signs 1 (Cond.code yL_signs cL_signs 3 (some .int)) := ⟨⟨m_852, m_853, m_0, m_854⟩, by decide +kernel⟩
theorem cr_L_101 : aw_LS RL 101 yL_length 1 (Cond.code yL_length cL_length 3 (some .int)) := ⟨⟨m_829, m_830, m_0, m_831⟩, by decide +kernel⟩
theorem cr_L_104 : aw_LS RL 104 yL_isUnit 2 (Cond.code yL_isUnit cL_isUnit 2 (some .boolean)) := ⟨⟨m_823, m_824, m_0, m_825⟩, by decide +kernel⟩
theorem cr_L_108 : aw_LS RL 108 yL_has 2 (Cond.code yL_has cL_has 4 (some .boolean)) := ⟨⟨m_820, m_821, m_0, m_822⟩, by decide +kernel⟩
theorem cr_L_111 : aw_LS RL 111 yL_apart 3 (Cond.code yL_apart cL_apart 11 (some .int)) := ⟨⟨m_826, m_827, m_0, m_828⟩, by decide +kernel⟩
theorem cr_L_115 : aw_LS RL 115 yL_hasSign 4 (Cond.code yL_hasSign cL_hasSign 8 (some .boolean)) := ⟨⟨m_835, m_836, m_0, m_837⟩, by decide +kernel⟩
theorem cr_L_119 : aw_LS RL 119 yL_read 4 (Cond.code yL_read cL_read 7 (some .int)) := ⟨⟨m_838, m_839, m_0, m_840⟩, by decide +kernel⟩
theorem cr_L_123 : aw_LW RL 123 yL_does 7 (Cond.codeWith yL_does cL_does 8 (some .int) [(0, 227, 228, 59), (0, 227, 233, 62), (0, 227, 238, 65)]) := ⟨⟨m_307, m_308, m_0, m_309⟩, rfl, by decide +kernel⟩
theorem cr_L_127 : aw_LV RL 127 RX10 yX10_cost 1 (Cond.code yX10_cost cX10_cost 2 (some .int)) := ⟨⟨m_841, m_842, m_843, m_1, m_844⟩, by decide +kernel⟩
theorem cr_L_130 : aw_LS RL 130 yL_spellsAll 7 (Cond.code yL_spellsAll cL_spellsAll 12 (none)) := ⟨⟨m_765, m_766, m_0, m_767⟩, by decide +kernel⟩
theorem cr_L_134 : aw_LS RL 134 yL_load 3 (Cond.code yL_load cL_load 10 (some .int)) := ⟨⟨m_800, m_801, m_0, m_802⟩, by decide +kernel⟩
theorem cr_L_138 : aw_LS RL 138 yL_fit 4 (Cond.code yL_fit cL_fit 6 (some .int)) := ⟨⟨m_917, m_918, m_0, m_919⟩, by decide +kernel⟩
theorem cr_L_142 : aw_LV RL 142 RX10 yX10_doubts 1 (Cond.code yX10_doubts cX10_doubts 5 (some .int)) := ⟨⟨m_785, m_786, m_787, m_1, m_788⟩, by decide +kernel⟩
theorem cr_L_145 : aw_LS RL 145 yL_doubts 2 (Cond.code yL_doubts cL_doubts 5 (some .int)) := ⟨⟨m_790, m_791, m_0, m_792⟩, by decide +kernel⟩
theorem cr_L_148 : aw_LV RL 148 RX10 yX10_load 1 (Cond.code yX10_load cX10_load 2 (some .int)) := ⟨⟨m_796, m_797, m_798, m_1, m_799⟩, by decide +kernel⟩
theorem cr_L_150 : aw_LV RL 150 RX10 yX10_travel 1 (Cond.code yX10_travel cX10_travel 5 (some .int)) := ⟨⟨m_803, m_804, m_805, m_1, m_806⟩, by decide +kernel⟩
theorem cr_L_153 : aw_LS RL 153 yL_travel 4 (Cond.code yL_travel cL_travel 8 (some .int)) := ⟨⟨m_814, m_815, m_0, m_816⟩, by decide +kernel⟩
theorem cr_L_156 : aw_LS RL 156 yL_errors 6 (Cond.code yL_errors cL_errors 11 (some .int)) := ⟨⟨m_817, m_818, m_0, m_819⟩, by decide +kernel⟩
theorem cr_L_159 : aw_LS RL 159 yL_isPrimer 5 (Cond.code yL_isPrimer cL_isPrimer 18 (some .boolean)) := ⟨⟨m_832, m_833, m_0, m_834⟩, by decide +kernel⟩
theorem cr_L_163 : aw_LS RL 163 yL_readings 3 (Cond.code yL_readings cL_readings 16 (some .long)) := ⟨⟨m_849, m_850, m_0, m_851⟩, by decide +kernel⟩
theorem cr_L_167 : aw_LV RL 167 RX10 yX10_readings 2 (Cond.code yX10_readings cX10_readings 3 (some .long)) := ⟨⟨m_855, m_856, m_857, m_1, m_858⟩, by decide +kernel⟩
theorem cr_L_170 : aw_LV RL 170 RX10 yX10_readingsAnew 2 (Cond.code yX10_readingsAnew cX10_readingsAnew 3 (some .long)) := ⟨⟨m_891, m_892, m_893, m_1, m_894⟩, by decide +kernel⟩
theorem cr_L_173 : aw_LV RL 173 RX10 yX10_fit 2 (Cond.code yX10_fit cX10_fit 3 (some .int)) := ⟨⟨m_913, m_914, m_915, m_1, m_916⟩, by decide +kernel⟩
theorem cr_L_175 : aw_LV RL 175 RX10 yX10_loadIf 2 (Cond.code yX10_loadIf cX10_loadIf 5 (some .int)) := ⟨⟨m_920, m_921, m_922, m_1, m_923⟩, by decide +kernel⟩
theorem cr_L_178 : aw_LV RL 178 RX10 yX10_apart 2 (Cond.code yX10_apart cX10_apart 3 (some .int)) := ⟨⟨m_932, m_933, m_934, m_1, m_935⟩, by decide +kernel⟩
theorem cr_L_180 : aw_LS RL 180 yL_score 10 (Cond.code yL_score cL_score 14 (some .int)) := ⟨⟨m_937, m_938, m_0, m_939⟩, by decide +kernel⟩
theorem cr_L_184 : aw_LV RL 184 RX10 yX10_score 2 (Cond.code yX10_score cX10_score 3 (some .int)) := ⟨⟨m_940, m_941, m_942, m_1, m_943⟩, by decide +kernel⟩
theorem cr_L_186 : aw_LV RL 186 RX10 yX10_votes 1 (Cond.code yX10_votes cX10_votes 2 (some .int)) := ⟨⟨m_944, m_945, m_946, m_1, m_947⟩, by decide +kernel⟩
theorem cr_L_189 : aw_LS RL 189 yL_way 5 (Cond.code yL_way cL_way 10 (some .int)) := ⟨⟨m_949, m_950, m_0, m_951⟩, by decide +kernel⟩
theorem cr_L_193 : aw_LV RL 193 RX10 yX10_reform 2 (Cond.code yX10_reform cX10_reform 6 (some .int)) := ⟨⟨m_952, m_953, m_954, m_1, m_955⟩, by decide +kernel⟩
theorem cr_L_196 : aw_LV RL 196 RX10 yX10_lost 2 (Cond.code yX10_lost cX10_lost 5 (some .int)) := ⟨⟨m_961, m_962, m_963, m_1, m_964⟩, by decide +kernel⟩
theorem cr_L_199 : aw_LV RL 199 RX10 yX10_mark 3 (Cond.code yX10_mark cX10_mark 5 (some .boolean)) := ⟨⟨m_975, m_976, m_977, m_1, m_978⟩, by decide +kernel⟩
theorem cr_L_203 : aw_LI RL 203 yX10_init 0 (Cond.code yX10_init cX10_init 2 (none)) := ⟨⟨m_23, m_24, m_1, m_25⟩, rfl, by decide +kernel⟩
theorem cr_L_204 : aw_LS RL 204 yL_part 3 (Cond.code yL_part cL_part 4 (some .int)) := ⟨⟨m_303, m_304, m_0, m_305⟩, by decide +kernel⟩
theorem cr_L_208 : aw_LS RL 208 yL_isWord 8 (Cond.code yL_isWord cL_isWord 16 (some .boolean)) := ⟨⟨m_969, m_970, m_0, m_971⟩, by decide +kernel⟩
theorem cr_L_212 : aw_LS RL 212 yL_isTold 9 (Cond.code yL_isTold cL_isTold 16 (some .boolean)) := ⟨⟨m_979, m_980, m_0, m_981⟩, by decide +kernel⟩
theorem cr_L_216 : aw_LS RL 216 yL_isDesign 8 (Cond.code yL_isDesign cL_isDesign 16 (some .boolean)) := ⟨⟨m_972, m_973, m_0, m_974⟩, by decide +kernel⟩
theorem cr_L_220 : aw_LS RL 220 yL_areSo 13 (Cond.code yL_areSo cL_areSo 23 (some .boolean)) := ⟨⟨m_929, m_930, m_0, m_931⟩, by decide +kernel⟩
theorem cr_L_224 : aw_LS RL 224 yL_isSo 13 (Cond.code yL_isSo cL_isSo 18 (some .boolean)) := ⟨⟨m_762, m_763, m_0, m_764⟩, by decide +kernel⟩
