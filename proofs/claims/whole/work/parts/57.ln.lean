theorem tg_185 : (Cond.classLink "ForestTabletsLaw" (13 : Nat) "java/lang/IllegalArgumentException") ∈ lw_g := lw_gi (List.mem_of_getElem? (i := 185) (by decide +kernel)) rfl
theorem tg_186 : (Cond.methodLink "ForestTabletsLaw" (7 : Nat) ({ cls := "ForestTablets", name := "species", desc := "(IIII)V" } : Jvm.MethodName)) ∈ lw_g := lw_gi (List.mem_of_getElem? (i := 186) (by decide +kernel)) rfl
theorem tg_187 : (Cond.instanceMethod ({ cls := "ForestTablets", name := "species", desc := "(IIII)V" } : Jvm.MethodName)) ∈ lw_g := lw_gi (List.mem_of_getElem? (i := 187) (by decide +kernel)) rfl
theorem tg_188 : (Cond.selects "ForestTablets" ({ cls := "ForestTablets", name := "species", desc := "(IIII)V" } : Jvm.MethodName) ({ cls := "ForestTablets", name := "species", desc := "(IIII)V" } : Jvm.MethodName)) ∈ lw_g := lw_gi (List.mem_of_getElem? (i := 188) (by decide +kernel)) rfl
theorem tg_189 : (Cond.code ({ cls := "ForestTablets", name := "species", desc := "(IIII)V" } : Jvm.MethodName) prog_1_method_2_code (5 : Nat) (Option.none : Option FieldType)) ∈ lw_g := lw_gi (List.mem_of_getElem? (i := 189) (by decide +kernel)) rfl
theorem tg_262 : (Cond.methodLink "ForestTabletsLaw" (15 : Nat) ({ cls := "ForestTablets", name := "stand", desc := "(II)V" } : Jvm.MethodName)) ∈ lw_g := lw_gi (List.mem_of_getElem? (i := 262) (by decide +kernel)) rfl
theorem tg_263 : (Cond.instanceMethod ({ cls := "ForestTablets", name := "stand", desc := "(II)V" } : Jvm.MethodName)) ∈ lw_g := lw_gi (List.mem_of_getElem? (i := 263) (by decide +kernel)) rfl
theorem tg_264 : (Cond.selects "ForestTablets" ({ cls := "ForestTablets", name := "stand", desc := "(II)V" } : Jvm.MethodName) ({ cls := "ForestTablets", name := "stand", desc := "(II)V" } : Jvm.MethodName)) ∈ lw_g := lw_gi (List.mem_of_getElem? (i := 264) (by decide +kernel)) rfl
theorem tg_265 : (Cond.code ({ cls := "ForestTablets", name := "stand", desc := "(II)V" } : Jvm.MethodName) prog_1_method_3_code (3 : Nat) (Option.none : Option FieldType)) ∈ lw_g := lw_gi (List.mem_of_getElem? (i := 265) (by decide +kernel)) rfl
theorem tg_269 : (Cond.classLink "ForestTabletsLaw" (23 : Nat) "java/lang/IllegalStateException") ∈ lw_g := lw_gi (List.mem_of_getElem? (i := 269) (by decide +kernel)) rfl
theorem tg_270 : (Cond.methodLink "ForestTabletsLaw" (19 : Nat) ({ cls := "ForestTablets", name := "lend", desc := "(II)I" } : Jvm.MethodName)) ∈ lw_g := lw_gi (List.mem_of_getElem? (i := 270) (by decide +kernel)) rfl
theorem tg_271 : (Cond.instanceMethod ({ cls := "ForestTablets", name := "lend", desc := "(II)I" } : Jvm.MethodName)) ∈ lw_g := lw_gi (List.mem_of_getElem? (i := 271) (by decide +kernel)) rfl
theorem tg_272 : (Cond.selects "ForestTablets" ({ cls := "ForestTablets", name := "lend", desc := "(II)I" } : Jvm.MethodName) ({ cls := "ForestTablets", name := "lend", desc := "(II)I" } : Jvm.MethodName)) ∈ lw_g := lw_gi (List.mem_of_getElem? (i := 272) (by decide +kernel)) rfl
theorem tg_273 : (Cond.code ({ cls := "ForestTablets", name := "lend", desc := "(II)I" } : Jvm.MethodName) prog_1_method_4_code (3 : Nat) (Option.some FieldType.int)) ∈ lw_g := lw_gi (List.mem_of_getElem? (i := 273) (by decide +kernel)) rfl
theorem tg_351 : (Cond.methodLink "ForestTabletsLaw" (25 : Nat) ({ cls := "ForestTablets", name := "giveBack", desc := "(II)I" } : Jvm.MethodName)) ∈ lw_g := lw_gi (List.mem_of_getElem? (i := 351) (by decide +kernel)) rfl
theorem tg_352 : (Cond.instanceMethod ({ cls := "ForestTablets", name := "giveBack", desc := "(II)I" } : Jvm.MethodName)) ∈ lw_g := lw_gi (List.mem_of_getElem? (i := 352) (by decide +kernel)) rfl
theorem tg_353 : (Cond.selects "ForestTablets" ({ cls := "ForestTablets", name := "giveBack", desc := "(II)I" } : Jvm.MethodName) ({ cls := "ForestTablets", name := "giveBack", desc := "(II)I" } : Jvm.MethodName)) ∈ lw_g := lw_gi (List.mem_of_getElem? (i := 353) (by decide +kernel)) rfl
theorem tg_354 : (Cond.code ({ cls := "ForestTablets", name := "giveBack", desc := "(II)I" } : Jvm.MethodName) prog_1_method_5_code (5 : Nat) (Option.some FieldType.int)) ∈ lw_g := lw_gi (List.mem_of_getElem? (i := 354) (by decide +kernel)) rfl
theorem tg_359 : (Cond.methodLink "ForestTabletsLaw" (28 : Nat) ({ cls := "ForestTablets", name := "enter", desc := "(IIIII)I" } : Jvm.MethodName)) ∈ lw_g := lw_gi (List.mem_of_getElem? (i := 359) (by decide +kernel)) rfl
theorem tg_360 : (Cond.instanceMethod ({ cls := "ForestTablets", name := "enter", desc := "(IIIII)I" } : Jvm.MethodName)) ∈ lw_g := lw_gi (List.mem_of_getElem? (i := 360) (by decide +kernel)) rfl
theorem tg_361 : (Cond.selects "ForestTablets" ({ cls := "ForestTablets", name := "enter", desc := "(IIIII)I" } : Jvm.MethodName) ({ cls := "ForestTablets", name := "enter", desc := "(IIIII)I" } : Jvm.MethodName)) ∈ lw_g := lw_gi (List.mem_of_getElem? (i := 361) (by decide +kernel)) rfl
theorem tg_362 : (Cond.code ({ cls := "ForestTablets", name := "enter", desc := "(IIIII)I" } : Jvm.MethodName) prog_1_method_6_code (6 : Nat) (Option.some FieldType.int)) ∈ lw_g := lw_gi (List.mem_of_getElem? (i := 362) (by decide +kernel)) rfl
theorem tg_432 : (Cond.classLink "ForestTabletsLaw" (35 : Nat) "java/util/NoSuchElementException") ∈ lw_g := lw_gi (List.mem_of_getElem? (i := 432) (by decide +kernel)) rfl
theorem tg_433 : (Cond.methodLink "ForestTabletsLaw" (32 : Nat) ({ cls := "ForestTablets", name := "resolve", desc := "(II)I" } : Jvm.MethodName)) ∈ lw_g := lw_gi (List.mem_of_getElem? (i := 433) (by decide +kernel)) rfl
theorem tg_434 : (Cond.instanceMethod ({ cls := "ForestTablets", name := "resolve", desc := "(II)I" } : Jvm.MethodName)) ∈ lw_g := lw_gi (List.mem_of_getElem? (i := 434) (by decide +kernel)) rfl
theorem tg_435 : (Cond.selects "ForestTablets" ({ cls := "ForestTablets", name := "resolve", desc := "(II)I" } : Jvm.MethodName) ({ cls := "ForestTablets", name := "resolve", desc := "(II)I" } : Jvm.MethodName)) ∈ lw_g := lw_gi (List.mem_of_getElem? (i := 435) (by decide +kernel)) rfl
theorem tg_436 : (Cond.code ({ cls := "ForestTablets", name := "resolve", desc := "(II)I" } : Jvm.MethodName) prog_1_method_7_code (4 : Nat) (Option.some FieldType.int)) ∈ lw_g := lw_gi (List.mem_of_getElem? (i := 436) (by decide +kernel)) rfl
theorem tg_490 : (Cond.methodLink "ForestTabletsLaw" (37 : Nat) ({ cls := "ForestTablets", name := "meet", desc := "(II)V" } : Jvm.MethodName)) ∈ lw_g := lw_gi (List.mem_of_getElem? (i := 490) (by decide +kernel)) rfl
theorem tg_491 : (Cond.instanceMethod ({ cls := "ForestTablets", name := "meet", desc := "(II)V" } : Jvm.MethodName)) ∈ lw_g := lw_gi (List.mem_of_getElem? (i := 491) (by decide +kernel)) rfl
theorem tg_492 : (Cond.selects "ForestTablets" ({ cls := "ForestTablets", name := "meet", desc := "(II)V" } : Jvm.MethodName) ({ cls := "ForestTablets", name := "meet", desc := "(II)V" } : Jvm.MethodName)) ∈ lw_g := lw_gi (List.mem_of_getElem? (i := 492) (by decide +kernel)) rfl
theorem tg_493 : (Cond.code ({ cls := "ForestTablets", name := "meet", desc := "(II)V" } : Jvm.MethodName) prog_1_method_8_code (3 : Nat) (Option.none : Option FieldType)) ∈ lw_g := lw_gi (List.mem_of_getElem? (i := 493) (by decide +kernel)) rfl
theorem tg_501 : (Cond.methodLink "ForestTabletsLaw" (40 : Nat) ({ cls := "ForestTablets", name := "swap", desc := "()Z" } : Jvm.MethodName)) ∈ lw_g := lw_gi (List.mem_of_getElem? (i := 501) (by decide +kernel)) rfl
theorem tg_502 : (Cond.instanceMethod ({ cls := "ForestTablets", name := "swap", desc := "()Z" } : Jvm.MethodName)) ∈ lw_g := lw_gi (List.mem_of_getElem? (i := 502) (by decide +kernel)) rfl
theorem tg_503 : (Cond.selects "ForestTablets" ({ cls := "ForestTablets", name := "swap", desc := "()Z" } : Jvm.MethodName) ({ cls := "ForestTablets", name := "swap", desc := "()Z" } : Jvm.MethodName)) ∈ lw_g := lw_gi (List.mem_of_getElem? (i := 503) (by decide +kernel)) rfl
theorem tg_504 : (Cond.code ({ cls := "ForestTablets", name := "swap", desc := "()Z" } : Jvm.MethodName) prog_1_method_9_code (1 : Nat) (Option.some FieldType.boolean)) ∈ lw_g := lw_gi (List.mem_of_getElem? (i := 504) (by decide +kernel)) rfl
theorem tg_512 : (Cond.methodLink "ForestTabletsLaw" (44 : Nat) ({ cls := "ForestTablets", name := "part", desc := "()V" } : Jvm.MethodName)) ∈ lw_g := lw_gi (List.mem_of_getElem? (i := 512) (by decide +kernel)) rfl
theorem tg_513 : (Cond.instanceMethod ({ cls := "ForestTablets", name := "part", desc := "()V" } : Jvm.MethodName)) ∈ lw_g := lw_gi (List.mem_of_getElem? (i := 513) (by decide +kernel)) rfl
theorem tg_514 : (Cond.selects "ForestTablets" ({ cls := "ForestTablets", name := "part", desc := "()V" } : Jvm.MethodName) ({ cls := "ForestTablets", name := "part", desc := "()V" } : Jvm.MethodName)) ∈ lw_g := lw_gi (List.mem_of_getElem? (i := 514) (by decide +kernel)) rfl
theorem tg_515 : (Cond.code ({ cls := "ForestTablets", name := "part", desc := "()V" } : Jvm.MethodName) prog_1_method_10_code (1 : Nat) (Option.none : Option FieldType)) ∈ lw_g := lw_gi (List.mem_of_getElem? (i := 515) (by decide +kernel)) rfl
theorem tg_523 : (Cond.methodLink "ForestTabletsLaw" (47 : Nat) ({ cls := "ForestTablets", name := "crash", desc := "(I)V" } : Jvm.MethodName)) ∈ lw_g := lw_gi (List.mem_of_getElem? (i := 523) (by decide +kernel)) rfl
theorem tg_524 : (Cond.instanceMethod ({ cls := "ForestTablets", name := "crash", desc := "(I)V" } : Jvm.MethodName)) ∈ lw_g := lw_gi (List.mem_of_getElem? (i := 524) (by decide +kernel)) rfl
theorem tg_525 : (Cond.selects "ForestTablets" ({ cls := "ForestTablets", name := "crash", desc := "(I)V" } : Jvm.MethodName) ({ cls := "ForestTablets", name := "crash", desc := "(I)V" } : Jvm.MethodName)) ∈ lw_g := lw_gi (List.mem_of_getElem? (i := 525) (by decide +kernel)) rfl
theorem tg_526 : (Cond.code ({ cls := "ForestTablets", name := "crash", desc := "(I)V" } : Jvm.MethodName) prog_1_method_11_code (2 : Nat) (Option.none : Option FieldType)) ∈ lw_g := lw_gi (List.mem_of_getElem? (i := 526) (by decide +kernel)) rfl
theorem tg_534 : (Cond.methodLink "ForestTabletsLaw" (51 : Nat) ({ cls := "ForestTablets", name := "known", desc := "(II)I" } : Jvm.MethodName)) ∈ lw_g := lw_gi (List.mem_of_getElem? (i := 534) (by decide +kernel)) rfl
theorem tg_535 : (Cond.instanceMethod ({ cls := "ForestTablets", name := "known", desc := "(II)I" } : Jvm.MethodName)) ∈ lw_g := lw_gi (List.mem_of_getElem? (i := 535) (by decide +kernel)) rfl
theorem tg_536 : (Cond.selects "ForestTablets" ({ cls := "ForestTablets", name := "known", desc := "(II)I" } : Jvm.MethodName) ({ cls := "ForestTablets", name := "known", desc := "(II)I" } : Jvm.MethodName)) ∈ lw_g := lw_gi (List.mem_of_getElem? (i := 536) (by decide +kernel)) rfl
theorem tg_537 : (Cond.code ({ cls := "ForestTablets", name := "known", desc := "(II)I" } : Jvm.MethodName) prog_1_method_12_code (3 : Nat) (Option.some FieldType.int)) ∈ lw_g := lw_gi (List.mem_of_getElem? (i := 537) (by decide +kernel)) rfl
theorem tg_541 : (Cond.methodLink "ForestTabletsLaw" (54 : Nat) ({ cls := "ForestTablets", name := "holder", desc := "(III)I" } : Jvm.MethodName)) ∈ lw_g := lw_gi (List.mem_of_getElem? (i := 541) (by decide +kernel)) rfl
theorem tg_542 : (Cond.instanceMethod ({ cls := "ForestTablets", name := "holder", desc := "(III)I" } : Jvm.MethodName)) ∈ lw_g := lw_gi (List.mem_of_getElem? (i := 542) (by decide +kernel)) rfl
theorem tg_543 : (Cond.selects "ForestTablets" ({ cls := "ForestTablets", name := "holder", desc := "(III)I" } : Jvm.MethodName) ({ cls := "ForestTablets", name := "holder", desc := "(III)I" } : Jvm.MethodName)) ∈ lw_g := lw_gi (List.mem_of_getElem? (i := 543) (by decide +kernel)) rfl
theorem tg_544 : (Cond.code ({ cls := "ForestTablets", name := "holder", desc := "(III)I" } : Jvm.MethodName) prog_1_method_13_code (4 : Nat) (Option.some FieldType.int)) ∈ lw_g := lw_gi (List.mem_of_getElem? (i := 544) (by decide +kernel)) rfl
theorem tg_548 : (Cond.methodLink "ForestTabletsLaw" (58 : Nat) ({ cls := "ForestTablets", name := "value", desc := "(IIII)I" } : Jvm.MethodName)) ∈ lw_g := lw_gi (List.mem_of_getElem? (i := 548) (by decide +kernel)) rfl
theorem tg_549 : (Cond.instanceMethod ({ cls := "ForestTablets", name := "value", desc := "(IIII)I" } : Jvm.MethodName)) ∈ lw_g := lw_gi (List.mem_of_getElem? (i := 549) (by decide +kernel)) rfl
theorem tg_550 : (Cond.selects "ForestTablets" ({ cls := "ForestTablets", name := "value", desc := "(IIII)I" } : Jvm.MethodName) ({ cls := "ForestTablets", name := "value", desc := "(IIII)I" } : Jvm.MethodName)) ∈ lw_g := lw_gi (List.mem_of_getElem? (i := 550) (by decide +kernel)) rfl
theorem tg_551 : (Cond.code ({ cls := "ForestTablets", name := "value", desc := "(IIII)I" } : Jvm.MethodName) prog_1_method_14_code (6 : Nat) (Option.some FieldType.int)) ∈ lw_g := lw_gi (List.mem_of_getElem? (i := 551) (by decide +kernel)) rfl
theorem tg_559 : (Cond.methodLink "ForestTabletsLaw" (62 : Nat) ({ cls := "ForestTablets", name := "candidate", desc := "(IIIII)I" } : Jvm.MethodName)) ∈ lw_g := lw_gi (List.mem_of_getElem? (i := 559) (by decide +kernel)) rfl
theorem tg_560 : (Cond.instanceMethod ({ cls := "ForestTablets", name := "candidate", desc := "(IIIII)I" } : Jvm.MethodName)) ∈ lw_g := lw_gi (List.mem_of_getElem? (i := 560) (by decide +kernel)) rfl
theorem tg_561 : (Cond.selects "ForestTablets" ({ cls := "ForestTablets", name := "candidate", desc := "(IIIII)I" } : Jvm.MethodName) ({ cls := "ForestTablets", name := "candidate", desc := "(IIIII)I" } : Jvm.MethodName)) ∈ lw_g := lw_gi (List.mem_of_getElem? (i := 561) (by decide +kernel)) rfl
theorem tg_562 : (Cond.code ({ cls := "ForestTablets", name := "candidate", desc := "(IIIII)I" } : Jvm.MethodName) prog_1_method_15_code (6 : Nat) (Option.some FieldType.int)) ∈ lw_g := lw_gi (List.mem_of_getElem? (i := 562) (by decide +kernel)) rfl
theorem tg_570 : (Cond.methodLink "ForestTabletsLaw" (65 : Nat) ({ cls := "ForestTablets", name := "conflict", desc := "(II)I" } : Jvm.MethodName)) ∈ lw_g := lw_gi (List.mem_of_getElem? (i := 570) (by decide +kernel)) rfl
theorem tg_571 : (Cond.instanceMethod ({ cls := "ForestTablets", name := "conflict", desc := "(II)I" } : Jvm.MethodName)) ∈ lw_g := lw_gi (List.mem_of_getElem? (i := 571) (by decide +kernel)) rfl
theorem tg_572 : (Cond.selects "ForestTablets" ({ cls := "ForestTablets", name := "conflict", desc := "(II)I" } : Jvm.MethodName) ({ cls := "ForestTablets", name := "conflict", desc := "(II)I" } : Jvm.MethodName)) ∈ lw_g := lw_gi (List.mem_of_getElem? (i := 572) (by decide +kernel)) rfl
theorem tg_573 : (Cond.code ({ cls := "ForestTablets", name := "conflict", desc := "(II)I" } : Jvm.MethodName) prog_1_method_16_code (5 : Nat) (Option.some FieldType.int)) ∈ lw_g := lw_gi (List.mem_of_getElem? (i := 573) (by decide +kernel)) rfl
theorem tg_577 : (Cond.methodLink "ForestTabletsLaw" (68 : Nat) ({ cls := "ForestTablets", name := "plot", desc := "(III)J" } : Jvm.MethodName)) ∈ lw_g := lw_gi (List.mem_of_getElem? (i := 577) (by decide +kernel)) rfl
theorem tg_578 : (Cond.instanceMethod ({ cls := "ForestTablets", name := "plot", desc := "(III)J" } : Jvm.MethodName)) ∈ lw_g := lw_gi (List.mem_of_getElem? (i := 578) (by decide +kernel)) rfl
theorem tg_579 : (Cond.selects "ForestTablets" ({ cls := "ForestTablets", name := "plot", desc := "(III)J" } : Jvm.MethodName) ({ cls := "ForestTablets", name := "plot", desc := "(III)J" } : Jvm.MethodName)) ∈ lw_g := lw_gi (List.mem_of_getElem? (i := 579) (by decide +kernel)) rfl
theorem tg_580 : (Cond.code ({ cls := "ForestTablets", name := "plot", desc := "(III)J" } : Jvm.MethodName) prog_1_method_17_code (4 : Nat) (Option.some FieldType.long)) ∈ lw_g := lw_gi (List.mem_of_getElem? (i := 580) (by decide +kernel)) rfl
theorem tg_609 : (Cond.methodLink "ForestTabletsLaw" (72 : Nat) ({ cls := "ForestTablets", name := "total", desc := "(III)J" } : Jvm.MethodName)) ∈ lw_g := lw_gi (List.mem_of_getElem? (i := 609) (by decide +kernel)) rfl
theorem tg_610 : (Cond.instanceMethod ({ cls := "ForestTablets", name := "total", desc := "(III)J" } : Jvm.MethodName)) ∈ lw_g := lw_gi (List.mem_of_getElem? (i := 610) (by decide +kernel)) rfl
theorem tg_611 : (Cond.selects "ForestTablets" ({ cls := "ForestTablets", name := "total", desc := "(III)J" } : Jvm.MethodName) ({ cls := "ForestTablets", name := "total", desc := "(III)J" } : Jvm.MethodName)) ∈ lw_g := lw_gi (List.mem_of_getElem? (i := 611) (by decide +kernel)) rfl
theorem tg_612 : (Cond.code ({ cls := "ForestTablets", name := "total", desc := "(III)J" } : Jvm.MethodName) prog_1_method_18_code (4 : Nat) (Option.some FieldType.long)) ∈ lw_g := lw_gi (List.mem_of_getElem? (i := 612) (by decide +kernel)) rfl
abbrev cL_species : ByteArray := method_3_code
def yL_species : MethodName := ⟨RL, "species", "(LForestTablets;IIII)I"⟩
abbrev hL_species : List (Nat × Nat × Nat × Nat) := [((0 : Nat), (9 : Nat), (12 : Nat), (13 : Nat))]
def wsL_species : List Cond := .codeWith yL_species cL_species 6 (some .int) hL_species :: lw_g
abbrev cL_stand : ByteArray := method_4_code
def yL_stand : MethodName := ⟨RL, "stand", "(LForestTablets;II)I"⟩
abbrev hL_stand : List (Nat × Nat × Nat × Nat) := [((0 : Nat), (6 : Nat), (9 : Nat), (13 : Nat))]
def wsL_stand : List Cond := .codeWith yL_stand cL_stand 4 (some .int) hL_stand :: lw_g
abbrev cL_lend : ByteArray := method_5_code
def yL_lend : MethodName := ⟨RL, "lend", "(LForestTablets;II[J)I"⟩
abbrev hL_lend : List (Nat × Nat × Nat × Nat) := [((0 : Nat), (10 : Nat), (13 : Nat), (13 : Nat)), ((0 : Nat), (10 : Nat), (17 : Nat), (23 : Nat))]
def wsL_lend : List Cond := .codeWith yL_lend cL_lend 5 (some .int) hL_lend :: lw_g
abbrev cL_giveBack : ByteArray := method_6_code
def yL_giveBack : MethodName := ⟨RL, "giveBack", "(LForestTablets;II[J)I"⟩
abbrev hL_giveBack : List (Nat × Nat × Nat × Nat) := [((0 : Nat), (10 : Nat), (13 : Nat), (13 : Nat)), ((0 : Nat), (10 : Nat), (17 : Nat), (23 : Nat))]
def wsL_giveBack : List Cond := .codeWith yL_giveBack cL_giveBack 5 (some .int) hL_giveBack :: lw_g
abbrev cL_enter : ByteArray := method_7_code
def yL_enter : MethodName := ⟨RL, "enter", "(LForestTablets;IIIII[J)I"⟩
abbrev hL_enter : List (Nat × Nat × Nat × Nat) := [((0 : Nat), (16 : Nat), (19 : Nat), (13 : Nat)), ((0 : Nat), (16 : Nat), (23 : Nat), (23 : Nat))]
def wsL_enter : List Cond := .codeWith yL_enter cL_enter 8 (some .int) hL_enter :: lw_g
abbrev cL_resolve : ByteArray := method_8_code
def yL_resolve : MethodName := ⟨RL, "resolve", "(LForestTablets;II[J)I"⟩
abbrev hL_resolve : List (Nat × Nat × Nat × Nat) := [((0 : Nat), (10 : Nat), (13 : Nat), (35 : Nat)), ((0 : Nat), (10 : Nat), (17 : Nat), (13 : Nat)), ((0 : Nat), (10 : Nat), (21 : Nat), (23 : Nat))]
def wsL_resolve : List Cond := .codeWith yL_resolve cL_resolve 5 (some .int) hL_resolve :: lw_g
abbrev cL_meet : ByteArray := method_9_code
def yL_meet : MethodName := ⟨RL, "meet", "(LForestTablets;II)I"⟩
abbrev hL_meet : List (Nat × Nat × Nat × Nat) := [((0 : Nat), (6 : Nat), (9 : Nat), (13 : Nat)), ((0 : Nat), (6 : Nat), (12 : Nat), (23 : Nat))]
def wsL_meet : List Cond := .codeWith yL_meet cL_meet 4 (some .int) hL_meet :: lw_g
abbrev cL_swap : ByteArray := method_10_code
def yL_swap : MethodName := ⟨RL, "swap", "(LForestTablets;[J)I"⟩
abbrev hL_swap : List (Nat × Nat × Nat × Nat) := [((0 : Nat), (15 : Nat), (18 : Nat), (23 : Nat))]
def wsL_swap : List Cond := .codeWith yL_swap cL_swap 3 (some .int) hL_swap :: lw_g
abbrev cL_part : ByteArray := method_11_code
def yL_part : MethodName := ⟨RL, "part", "(LForestTablets;)I"⟩
abbrev hL_part : List (Nat × Nat × Nat × Nat) := [((0 : Nat), (4 : Nat), (7 : Nat), (23 : Nat))]
def wsL_part : List Cond := .codeWith yL_part cL_part 2 (some .int) hL_part :: lw_g
abbrev cL_crash : ByteArray := method_12_code
def yL_crash : MethodName := ⟨RL, "crash", "(LForestTablets;I)I"⟩
abbrev hL_crash : List (Nat × Nat × Nat × Nat) := [((0 : Nat), (5 : Nat), (8 : Nat), (13 : Nat))]
def wsL_crash : List Cond := .codeWith yL_crash cL_crash 3 (some .int) hL_crash :: lw_g
abbrev cL_known : ByteArray := method_13_code
def yL_known : MethodName := ⟨RL, "known", "(LForestTablets;II[J)I"⟩
abbrev hL_known : List (Nat × Nat × Nat × Nat) := [((0 : Nat), (10 : Nat), (13 : Nat), (13 : Nat))]
def wsL_known : List Cond := .codeWith yL_known cL_known 5 (some .int) hL_known :: lw_g
abbrev cL_holder : ByteArray := method_14_code
def yL_holder : MethodName := ⟨RL, "holder", "(LForestTablets;III[J)I"⟩
abbrev hL_holder : List (Nat × Nat × Nat × Nat) := [((0 : Nat), (12 : Nat), (15 : Nat), (13 : Nat))]
def wsL_holder : List Cond := .codeWith yL_holder cL_holder 6 (some .int) hL_holder :: lw_g
abbrev cL_value : ByteArray := method_15_code
def yL_value : MethodName := ⟨RL, "value", "(LForestTablets;IIII[J)I"⟩
abbrev hL_value : List (Nat × Nat × Nat × Nat) := [((0 : Nat), (14 : Nat), (17 : Nat), (13 : Nat)), ((0 : Nat), (14 : Nat), (21 : Nat), (35 : Nat))]
def wsL_value : List Cond := .codeWith yL_value cL_value 7 (some .int) hL_value :: lw_g
abbrev cL_candidate : ByteArray := method_16_code
def yL_candidate : MethodName := ⟨RL, "candidate", "(LForestTablets;IIIII[J)I"⟩
abbrev hL_candidate : List (Nat × Nat × Nat × Nat) := [((0 : Nat), (16 : Nat), (19 : Nat), (13 : Nat))]
def wsL_candidate : List Cond := .codeWith yL_candidate cL_candidate 8 (some .int) hL_candidate :: lw_g
abbrev cL_conflict : ByteArray := method_17_code
def yL_conflict : MethodName := ⟨RL, "conflict", "(LForestTablets;II[J)I"⟩
abbrev hL_conflict : List (Nat × Nat × Nat × Nat) := [((0 : Nat), (10 : Nat), (13 : Nat), (13 : Nat))]
def wsL_conflict : List Cond := .codeWith yL_conflict cL_conflict 5 (some .int) hL_conflict :: lw_g
abbrev cL_plot : ByteArray := method_18_code
def yL_plot : MethodName := ⟨RL, "plot", "(LForestTablets;III[J)I"⟩
abbrev hL_plot : List (Nat × Nat × Nat × Nat) := [((0 : Nat), (11 : Nat), (14 : Nat), (13 : Nat))]
def wsL_plot : List Cond := .codeWith yL_plot cL_plot 6 (some .int) hL_plot :: lw_g
abbrev cL_total : ByteArray := method_19_code
def yL_total : MethodName := ⟨RL, "total", "(LForestTablets;III[J)I"⟩
abbrev hL_total : List (Nat × Nat × Nat × Nat) := [((0 : Nat), (11 : Nat), (14 : Nat), (13 : Nat))]
def wsL_total : List Cond := .codeWith yL_total cL_total 6 (some .int) hL_total :: lw_g
theorem dL_species_0 : decode cL_species 0 = .ok (.aload_n 0, 1) := by decide +kernel
theorem dL_species_1 : decode cL_species 1 = .ok (.iload_n 1, 1) := by decide +kernel
theorem dL_species_2 : decode cL_species 2 = .ok (.iload_n 2, 1) := by decide +kernel
theorem dL_species_3 : decode cL_species 3 = .ok (.iload_n 3, 1) := by decide +kernel
theorem dL_species_4 : decode cL_species 4 = .ok (.iload 4, 2) := by decide +kernel
theorem dL_species_6 : decode cL_species 6 = .ok (.invokevirtual 7, 3) := by decide +kernel
theorem dL_species_9 : decode cL_species 9 = .ok (.goto 7, 3) := by decide +kernel
theorem dL_species_12 : decode cL_species 12 = .ok (.astore 5, 2) := by decide +kernel
theorem dL_species_14 : decode cL_species 14 = .ok (.iconst 1, 1) := by decide +kernel
theorem dL_species_15 : decode cL_species 15 = .ok (.ireturn, 1) := by decide +kernel
theorem dL_species_16 : decode cL_species 16 = .ok (.iconst 0, 1) := by decide +kernel
theorem dL_species_17 : decode cL_species 17 = .ok (.ireturn, 1) := by decide +kernel
theorem dL_stand_0 : decode cL_stand 0 = .ok (.aload_n 0, 1) := by decide +kernel
theorem dL_stand_1 : decode cL_stand 1 = .ok (.iload_n 1, 1) := by decide +kernel
theorem dL_stand_2 : decode cL_stand 2 = .ok (.iload_n 2, 1) := by decide +kernel
theorem dL_stand_3 : decode cL_stand 3 = .ok (.invokevirtual 15, 3) := by decide +kernel
theorem dL_stand_6 : decode cL_stand 6 = .ok (.goto 6, 3) := by decide +kernel
theorem dL_stand_9 : decode cL_stand 9 = .ok (.astore_n 3, 1) := by decide +kernel
theorem dL_stand_10 : decode cL_stand 10 = .ok (.iconst 1, 1) := by decide +kernel
theorem dL_stand_11 : decode cL_stand 11 = .ok (.ireturn, 1) := by decide +kernel
theorem dL_stand_12 : decode cL_stand 12 = .ok (.iconst 0, 1) := by decide +kernel
theorem dL_stand_13 : decode cL_stand 13 = .ok (.ireturn, 1) := by decide +kernel
theorem dL_lend_0 : decode cL_lend 0 = .ok (.aload_n 3, 1) := by decide +kernel
theorem dL_lend_1 : decode cL_lend 1 = .ok (.iconst 0, 1) := by decide +kernel
theorem dL_lend_2 : decode cL_lend 2 = .ok (.aload_n 0, 1) := by decide +kernel
theorem dL_lend_3 : decode cL_lend 3 = .ok (.iload_n 1, 1) := by decide +kernel
theorem dL_lend_4 : decode cL_lend 4 = .ok (.iload_n 2, 1) := by decide +kernel
theorem dL_lend_5 : decode cL_lend 5 = .ok (.invokevirtual 19, 3) := by decide +kernel
theorem dL_lend_8 : decode cL_lend 8 = .ok (.i2l, 1) := by decide +kernel
theorem dL_lend_9 : decode cL_lend 9 = .ok (.lastore, 1) := by decide +kernel
theorem dL_lend_10 : decode cL_lend 10 = .ok (.goto 11, 3) := by decide +kernel
theorem dL_lend_13 : decode cL_lend 13 = .ok (.astore 4, 2) := by decide +kernel
theorem dL_lend_15 : decode cL_lend 15 = .ok (.iconst 1, 1) := by decide +kernel
theorem dL_lend_16 : decode cL_lend 16 = .ok (.ireturn, 1) := by decide +kernel
theorem dL_lend_17 : decode cL_lend 17 = .ok (.astore 4, 2) := by decide +kernel
theorem dL_lend_19 : decode cL_lend 19 = .ok (.iconst 2, 1) := by decide +kernel
theorem dL_lend_20 : decode cL_lend 20 = .ok (.ireturn, 1) := by decide +kernel
theorem dL_lend_21 : decode cL_lend 21 = .ok (.iconst 0, 1) := by decide +kernel
theorem dL_lend_22 : decode cL_lend 22 = .ok (.ireturn, 1) := by decide +kernel
theorem dL_giveBack_0 : decode cL_giveBack 0 = .ok (.aload_n 3, 1) := by decide +kernel
theorem dL_giveBack_1 : decode cL_giveBack 1 = .ok (.iconst 0, 1) := by decide +kernel
theorem dL_giveBack_2 : decode cL_giveBack 2 = .ok (.aload_n 0, 1) := by decide +kernel
theorem dL_giveBack_3 : decode cL_giveBack 3 = .ok (.iload_n 1, 1) := by decide +kernel
theorem dL_giveBack_4 : decode cL_giveBack 4 = .ok (.iload_n 2, 1) := by decide +kernel
theorem dL_giveBack_5 : decode cL_giveBack 5 = .ok (.invokevirtual 25, 3) := by decide +kernel
theorem dL_giveBack_8 : decode cL_giveBack 8 = .ok (.i2l, 1) := by decide +kernel
theorem dL_giveBack_9 : decode cL_giveBack 9 = .ok (.lastore, 1) := by decide +kernel
theorem dL_giveBack_10 : decode cL_giveBack 10 = .ok (.goto 11, 3) := by decide +kernel
theorem dL_giveBack_13 : decode cL_giveBack 13 = .ok (.astore 4, 2) := by decide +kernel
theorem dL_giveBack_15 : decode cL_giveBack 15 = .ok (.iconst 1, 1) := by decide +kernel
theorem dL_giveBack_16 : decode cL_giveBack 16 = .ok (.ireturn, 1) := by decide +kernel
theorem dL_giveBack_17 : decode cL_giveBack 17 = .ok (.astore 4, 2) := by decide +kernel
theorem dL_giveBack_19 : decode cL_giveBack 19 = .ok (.iconst 2, 1) := by decide +kernel
theorem dL_giveBack_20 : decode cL_giveBack 20 = .ok (.ireturn, 1) := by decide +kernel
theorem dL_giveBack_21 : decode cL_giveBack 21 = .ok (.iconst 0, 1) := by decide +kernel
theorem dL_giveBack_22 : decode cL_giveBack 22 = .ok (.ireturn, 1) := by decide +kernel
theorem dL_enter_0 : decode cL_enter 0 = .ok (.aload 6, 2) := by decide +kernel
theorem dL_enter_2 : decode cL_enter 2 = .ok (.iconst 0, 1) := by decide +kernel
theorem dL_enter_3 : decode cL_enter 3 = .ok (.aload_n 0, 1) := by decide +kernel
theorem dL_enter_4 : decode cL_enter 4 = .ok (.iload_n 1, 1) := by decide +kernel
theorem dL_enter_5 : decode cL_enter 5 = .ok (.iload_n 2, 1) := by decide +kernel
theorem dL_enter_6 : decode cL_enter 6 = .ok (.iload_n 3, 1) := by decide +kernel
theorem dL_enter_7 : decode cL_enter 7 = .ok (.iload 4, 2) := by decide +kernel
theorem dL_enter_9 : decode cL_enter 9 = .ok (.iload 5, 2) := by decide +kernel
theorem dL_enter_11 : decode cL_enter 11 = .ok (.invokevirtual 28, 3) := by decide +kernel
theorem dL_enter_14 : decode cL_enter 14 = .ok (.i2l, 1) := by decide +kernel
theorem dL_enter_15 : decode cL_enter 15 = .ok (.lastore, 1) := by decide +kernel
theorem dL_enter_16 : decode cL_enter 16 = .ok (.goto 11, 3) := by decide +kernel
theorem dL_enter_19 : decode cL_enter 19 = .ok (.astore 7, 2) := by decide +kernel
theorem dL_enter_21 : decode cL_enter 21 = .ok (.iconst 1, 1) := by decide +kernel
theorem dL_enter_22 : decode cL_enter 22 = .ok (.ireturn, 1) := by decide +kernel
theorem dL_enter_23 : decode cL_enter 23 = .ok (.astore 7, 2) := by decide +kernel
theorem dL_enter_25 : decode cL_enter 25 = .ok (.iconst 2, 1) := by decide +kernel
theorem dL_enter_26 : decode cL_enter 26 = .ok (.ireturn, 1) := by decide +kernel
theorem dL_enter_27 : decode cL_enter 27 = .ok (.iconst 0, 1) := by decide +kernel
theorem dL_enter_28 : decode cL_enter 28 = .ok (.ireturn, 1) := by decide +kernel
theorem dL_resolve_0 : decode cL_resolve 0 = .ok (.aload_n 3, 1) := by decide +kernel
theorem dL_resolve_1 : decode cL_resolve 1 = .ok (.iconst 0, 1) := by decide +kernel
theorem dL_resolve_2 : decode cL_resolve 2 = .ok (.aload_n 0, 1) := by decide +kernel
theorem dL_resolve_3 : decode cL_resolve 3 = .ok (.iload_n 1, 1) := by decide +kernel
theorem dL_resolve_4 : decode cL_resolve 4 = .ok (.iload_n 2, 1) := by decide +kernel
theorem dL_resolve_5 : decode cL_resolve 5 = .ok (.invokevirtual 32, 3) := by decide +kernel
theorem dL_resolve_8 : decode cL_resolve 8 = .ok (.i2l, 1) := by decide +kernel
theorem dL_resolve_9 : decode cL_resolve 9 = .ok (.lastore, 1) := by decide +kernel
theorem dL_resolve_10 : decode cL_resolve 10 = .ok (.goto 15, 3) := by decide +kernel
theorem dL_resolve_13 : decode cL_resolve 13 = .ok (.astore 4, 2) := by decide +kernel
theorem dL_resolve_15 : decode cL_resolve 15 = .ok (.iconst 1, 1) := by decide +kernel
theorem dL_resolve_16 : decode cL_resolve 16 = .ok (.ireturn, 1) := by decide +kernel
theorem dL_resolve_17 : decode cL_resolve 17 = .ok (.astore 4, 2) := by decide +kernel
theorem dL_resolve_19 : decode cL_resolve 19 = .ok (.iconst 2, 1) := by decide +kernel
theorem dL_resolve_20 : decode cL_resolve 20 = .ok (.ireturn, 1) := by decide +kernel
theorem dL_resolve_21 : decode cL_resolve 21 = .ok (.astore 4, 2) := by decide +kernel
theorem dL_resolve_23 : decode cL_resolve 23 = .ok (.iconst 3, 1) := by decide +kernel
theorem dL_resolve_24 : decode cL_resolve 24 = .ok (.ireturn, 1) := by decide +kernel
theorem dL_resolve_25 : decode cL_resolve 25 = .ok (.iconst 0, 1) := by decide +kernel
theorem dL_resolve_26 : decode cL_resolve 26 = .ok (.ireturn, 1) := by decide +kernel
theorem dL_meet_0 : decode cL_meet 0 = .ok (.aload_n 0, 1) := by decide +kernel
theorem dL_meet_1 : decode cL_meet 1 = .ok (.iload_n 1, 1) := by decide +kernel
theorem dL_meet_2 : decode cL_meet 2 = .ok (.iload_n 2, 1) := by decide +kernel
theorem dL_meet_3 : decode cL_meet 3 = .ok (.invokevirtual 37, 3) := by decide +kernel
theorem dL_meet_6 : decode cL_meet 6 = .ok (.goto 9, 3) := by decide +kernel
theorem dL_meet_9 : decode cL_meet 9 = .ok (.astore_n 3, 1) := by decide +kernel
theorem dL_meet_10 : decode cL_meet 10 = .ok (.iconst 1, 1) := by decide +kernel
theorem dL_meet_11 : decode cL_meet 11 = .ok (.ireturn, 1) := by decide +kernel
theorem dL_meet_12 : decode cL_meet 12 = .ok (.astore_n 3, 1) := by decide +kernel
theorem dL_meet_13 : decode cL_meet 13 = .ok (.iconst 2, 1) := by decide +kernel
theorem dL_meet_14 : decode cL_meet 14 = .ok (.ireturn, 1) := by decide +kernel
theorem dL_meet_15 : decode cL_meet 15 = .ok (.iconst 0, 1) := by decide +kernel
theorem dL_meet_16 : decode cL_meet 16 = .ok (.ireturn, 1) := by decide +kernel
theorem dL_swap_0 : decode cL_swap 0 = .ok (.aload_n 1, 1) := by decide +kernel
theorem dL_swap_1 : decode cL_swap 1 = .ok (.iconst 0, 1) := by decide +kernel
theorem dL_swap_2 : decode cL_swap 2 = .ok (.aload_n 0, 1) := by decide +kernel
theorem dL_swap_3 : decode cL_swap 3 = .ok (.invokevirtual 40, 3) := by decide +kernel
theorem dL_swap_6 : decode cL_swap 6 = .ok (.ifCond .eq 7, 3) := by decide +kernel
theorem dL_swap_9 : decode cL_swap 9 = .ok (.lconst 1, 1) := by decide +kernel
theorem dL_swap_10 : decode cL_swap 10 = .ok (.goto 4, 3) := by decide +kernel
theorem dL_swap_13 : decode cL_swap 13 = .ok (.lconst 0, 1) := by decide +kernel
theorem dL_swap_14 : decode cL_swap 14 = .ok (.lastore, 1) := by decide +kernel
theorem dL_swap_15 : decode cL_swap 15 = .ok (.goto 6, 3) := by decide +kernel
theorem dL_swap_18 : decode cL_swap 18 = .ok (.astore_n 2, 1) := by decide +kernel
theorem dL_swap_19 : decode cL_swap 19 = .ok (.iconst 1, 1) := by decide +kernel
theorem dL_swap_20 : decode cL_swap 20 = .ok (.ireturn, 1) := by decide +kernel
theorem dL_swap_21 : decode cL_swap 21 = .ok (.iconst 0, 1) := by decide +kernel
theorem dL_swap_22 : decode cL_swap 22 = .ok (.ireturn, 1) := by decide +kernel
theorem dL_part_0 : decode cL_part 0 = .ok (.aload_n 0, 1) := by decide +kernel
theorem dL_part_1 : decode cL_part 1 = .ok (.invokevirtual 44, 3) := by decide +kernel
theorem dL_part_4 : decode cL_part 4 = .ok (.goto 6, 3) := by decide +kernel
theorem dL_part_7 : decode cL_part 7 = .ok (.astore_n 1, 1) := by decide +kernel
theorem dL_part_8 : decode cL_part 8 = .ok (.iconst 1, 1) := by decide +kernel
theorem dL_part_9 : decode cL_part 9 = .ok (.ireturn, 1) := by decide +kernel
theorem dL_part_10 : decode cL_part 10 = .ok (.iconst 0, 1) := by decide +kernel
theorem dL_part_11 : decode cL_part 11 = .ok (.ireturn, 1) := by decide +kernel
theorem dL_crash_0 : decode cL_crash 0 = .ok (.aload_n 0, 1) := by decide +kernel
theorem dL_crash_1 : decode cL_crash 1 = .ok (.iload_n 1, 1) := by decide +kernel
theorem dL_crash_2 : decode cL_crash 2 = .ok (.invokevirtual 47, 3) := by decide +kernel
theorem dL_crash_5 : decode cL_crash 5 = .ok (.goto 6, 3) := by decide +kernel
theorem dL_crash_8 : decode cL_crash 8 = .ok (.astore_n 2, 1) := by decide +kernel
theorem dL_crash_9 : decode cL_crash 9 = .ok (.iconst 1, 1) := by decide +kernel
theorem dL_crash_10 : decode cL_crash 10 = .ok (.ireturn, 1) := by decide +kernel
theorem dL_crash_11 : decode cL_crash 11 = .ok (.iconst 0, 1) := by decide +kernel
theorem dL_crash_12 : decode cL_crash 12 = .ok (.ireturn, 1) := by decide +kernel
theorem dL_known_0 : decode cL_known 0 = .ok (.aload_n 3, 1) := by decide +kernel
theorem dL_known_1 : decode cL_known 1 = .ok (.iconst 0, 1) := by decide +kernel
theorem dL_known_2 : decode cL_known 2 = .ok (.aload_n 0, 1) := by decide +kernel
theorem dL_known_3 : decode cL_known 3 = .ok (.iload_n 1, 1) := by decide +kernel
theorem dL_known_4 : decode cL_known 4 = .ok (.iload_n 2, 1) := by decide +kernel
theorem dL_known_5 : decode cL_known 5 = .ok (.invokevirtual 51, 3) := by decide +kernel
theorem dL_known_8 : decode cL_known 8 = .ok (.i2l, 1) := by decide +kernel
theorem dL_known_9 : decode cL_known 9 = .ok (.lastore, 1) := by decide +kernel
theorem dL_known_10 : decode cL_known 10 = .ok (.goto 7, 3) := by decide +kernel
theorem dL_known_13 : decode cL_known 13 = .ok (.astore 4, 2) := by decide +kernel
theorem dL_known_15 : decode cL_known 15 = .ok (.iconst 1, 1) := by decide +kernel
theorem dL_known_16 : decode cL_known 16 = .ok (.ireturn, 1) := by decide +kernel
theorem dL_known_17 : decode cL_known 17 = .ok (.iconst 0, 1) := by decide +kernel
theorem dL_known_18 : decode cL_known 18 = .ok (.ireturn, 1) := by decide +kernel
theorem dL_holder_0 : decode cL_holder 0 = .ok (.aload 4, 2) := by decide +kernel
theorem dL_holder_2 : decode cL_holder 2 = .ok (.iconst 0, 1) := by decide +kernel
theorem dL_holder_3 : decode cL_holder 3 = .ok (.aload_n 0, 1) := by decide +kernel
theorem dL_holder_4 : decode cL_holder 4 = .ok (.iload_n 1, 1) := by decide +kernel
theorem dL_holder_5 : decode cL_holder 5 = .ok (.iload_n 2, 1) := by decide +kernel
theorem dL_holder_6 : decode cL_holder 6 = .ok (.iload_n 3, 1) := by decide +kernel
theorem dL_holder_7 : decode cL_holder 7 = .ok (.invokevirtual 54, 3) := by decide +kernel
theorem dL_holder_10 : decode cL_holder 10 = .ok (.i2l, 1) := by decide +kernel
theorem dL_holder_11 : decode cL_holder 11 = .ok (.lastore, 1) := by decide +kernel
theorem dL_holder_12 : decode cL_holder 12 = .ok (.goto 7, 3) := by decide +kernel
theorem dL_holder_15 : decode cL_holder 15 = .ok (.astore 5, 2) := by decide +kernel
theorem dL_holder_17 : decode cL_holder 17 = .ok (.iconst 1, 1) := by decide +kernel
theorem dL_holder_18 : decode cL_holder 18 = .ok (.ireturn, 1) := by decide +kernel
theorem dL_holder_19 : decode cL_holder 19 = .ok (.iconst 0, 1) := by decide +kernel
theorem dL_holder_20 : decode cL_holder 20 = .ok (.ireturn, 1) := by decide +kernel
theorem dL_value_0 : decode cL_value 0 = .ok (.aload 5, 2) := by decide +kernel
theorem dL_value_2 : decode cL_value 2 = .ok (.iconst 0, 1) := by decide +kernel
theorem dL_value_3 : decode cL_value 3 = .ok (.aload_n 0, 1) := by decide +kernel
theorem dL_value_4 : decode cL_value 4 = .ok (.iload_n 1, 1) := by decide +kernel
theorem dL_value_5 : decode cL_value 5 = .ok (.iload_n 2, 1) := by decide +kernel
theorem dL_value_6 : decode cL_value 6 = .ok (.iload_n 3, 1) := by decide +kernel
theorem dL_value_7 : decode cL_value 7 = .ok (.iload 4, 2) := by decide +kernel
theorem dL_value_9 : decode cL_value 9 = .ok (.invokevirtual 58, 3) := by decide +kernel
theorem dL_value_12 : decode cL_value 12 = .ok (.i2l, 1) := by decide +kernel
theorem dL_value_13 : decode cL_value 13 = .ok (.lastore, 1) := by decide +kernel
theorem dL_value_14 : decode cL_value 14 = .ok (.goto 11, 3) := by decide +kernel
theorem dL_value_17 : decode cL_value 17 = .ok (.astore 6, 2) := by decide +kernel
theorem dL_value_19 : decode cL_value 19 = .ok (.iconst 1, 1) := by decide +kernel
theorem dL_value_20 : decode cL_value 20 = .ok (.ireturn, 1) := by decide +kernel
theorem dL_value_21 : decode cL_value 21 = .ok (.astore 6, 2) := by decide +kernel
theorem dL_value_23 : decode cL_value 23 = .ok (.iconst 2, 1) := by decide +kernel
theorem dL_value_24 : decode cL_value 24 = .ok (.ireturn, 1) := by decide +kernel
theorem dL_value_25 : decode cL_value 25 = .ok (.iconst 0, 1) := by decide +kernel
theorem dL_value_26 : decode cL_value 26 = .ok (.ireturn, 1) := by decide +kernel
theorem dL_candidate_0 : decode cL_candidate 0 = .ok (.aload 6, 2) := by decide +kernel
theorem dL_candidate_2 : decode cL_candidate 2 = .ok (.iconst 0, 1) := by decide +kernel
theorem dL_candidate_3 : decode cL_candidate 3 = .ok (.aload_n 0, 1) := by decide +kernel
theorem dL_candidate_4 : decode cL_candidate 4 = .ok (.iload_n 1, 1) := by decide +kernel
theorem dL_candidate_5 : decode cL_candidate 5 = .ok (.iload_n 2, 1) := by decide +kernel
theorem dL_candidate_6 : decode cL_candidate 6 = .ok (.iload_n 3, 1) := by decide +kernel
theorem dL_candidate_7 : decode cL_candidate 7 = .ok (.iload 4, 2) := by decide +kernel
theorem dL_candidate_9 : decode cL_candidate 9 = .ok (.iload 5, 2) := by decide +kernel
theorem dL_candidate_11 : decode cL_candidate 11 = .ok (.invokevirtual 62, 3) := by decide +kernel
theorem dL_candidate_14 : decode cL_candidate 14 = .ok (.i2l, 1) := by decide +kernel
theorem dL_candidate_15 : decode cL_candidate 15 = .ok (.lastore, 1) := by decide +kernel
theorem dL_candidate_16 : decode cL_candidate 16 = .ok (.goto 7, 3) := by decide +kernel
theorem dL_candidate_19 : decode cL_candidate 19 = .ok (.astore 7, 2) := by decide +kernel
theorem dL_candidate_21 : decode cL_candidate 21 = .ok (.iconst 1, 1) := by decide +kernel
theorem dL_candidate_22 : decode cL_candidate 22 = .ok (.ireturn, 1) := by decide +kernel
theorem dL_candidate_23 : decode cL_candidate 23 = .ok (.iconst 0, 1) := by decide +kernel
theorem dL_candidate_24 : decode cL_candidate 24 = .ok (.ireturn, 1) := by decide +kernel
theorem dL_conflict_0 : decode cL_conflict 0 = .ok (.aload_n 3, 1) := by decide +kernel
theorem dL_conflict_1 : decode cL_conflict 1 = .ok (.iconst 0, 1) := by decide +kernel
theorem dL_conflict_2 : decode cL_conflict 2 = .ok (.aload_n 0, 1) := by decide +kernel
theorem dL_conflict_3 : decode cL_conflict 3 = .ok (.iload_n 1, 1) := by decide +kernel
theorem dL_conflict_4 : decode cL_conflict 4 = .ok (.iload_n 2, 1) := by decide +kernel
theorem dL_conflict_5 : decode cL_conflict 5 = .ok (.invokevirtual 65, 3) := by decide +kernel
theorem dL_conflict_8 : decode cL_conflict 8 = .ok (.i2l, 1) := by decide +kernel
theorem dL_conflict_9 : decode cL_conflict 9 = .ok (.lastore, 1) := by decide +kernel
theorem dL_conflict_10 : decode cL_conflict 10 = .ok (.goto 7, 3) := by decide +kernel
theorem dL_conflict_13 : decode cL_conflict 13 = .ok (.astore 4, 2) := by decide +kernel
theorem dL_conflict_15 : decode cL_conflict 15 = .ok (.iconst 1, 1) := by decide +kernel
theorem dL_conflict_16 : decode cL_conflict 16 = .ok (.ireturn, 1) := by decide +kernel
theorem dL_conflict_17 : decode cL_conflict 17 = .ok (.iconst 0, 1) := by decide +kernel
theorem dL_conflict_18 : decode cL_conflict 18 = .ok (.ireturn, 1) := by decide +kernel
theorem dL_plot_0 : decode cL_plot 0 = .ok (.aload 4, 2) := by decide +kernel
theorem dL_plot_2 : decode cL_plot 2 = .ok (.iconst 0, 1) := by decide +kernel
theorem dL_plot_3 : decode cL_plot 3 = .ok (.aload_n 0, 1) := by decide +kernel
theorem dL_plot_4 : decode cL_plot 4 = .ok (.iload_n 1, 1) := by decide +kernel
theorem dL_plot_5 : decode cL_plot 5 = .ok (.iload_n 2, 1) := by decide +kernel
theorem dL_plot_6 : decode cL_plot 6 = .ok (.iload_n 3, 1) := by decide +kernel
theorem dL_plot_7 : decode cL_plot 7 = .ok (.invokevirtual 68, 3) := by decide +kernel
theorem dL_plot_10 : decode cL_plot 10 = .ok (.lastore, 1) := by decide +kernel
theorem dL_plot_11 : decode cL_plot 11 = .ok (.goto 7, 3) := by decide +kernel
theorem dL_plot_14 : decode cL_plot 14 = .ok (.astore 5, 2) := by decide +kernel
theorem dL_plot_16 : decode cL_plot 16 = .ok (.iconst 1, 1) := by decide +kernel
theorem dL_plot_17 : decode cL_plot 17 = .ok (.ireturn, 1) := by decide +kernel
theorem dL_plot_18 : decode cL_plot 18 = .ok (.iconst 0, 1) := by decide +kernel
theorem dL_plot_19 : decode cL_plot 19 = .ok (.ireturn, 1) := by decide +kernel
theorem dL_total_0 : decode cL_total 0 = .ok (.aload 4, 2) := by decide +kernel
theorem dL_total_2 : decode cL_total 2 = .ok (.iconst 0, 1) := by decide +kernel
theorem dL_total_3 : decode cL_total 3 = .ok (.aload_n 0, 1) := by decide +kernel
theorem dL_total_4 : decode cL_total 4 = .ok (.iload_n 1, 1) := by decide +kernel
theorem dL_total_5 : decode cL_total 5 = .ok (.iload_n 2, 1) := by decide +kernel
theorem dL_total_6 : decode cL_total 6 = .ok (.iload_n 3, 1) := by decide +kernel
theorem dL_total_7 : decode cL_total 7 = .ok (.invokevirtual 72, 3) := by decide +kernel
theorem dL_total_10 : decode cL_total 10 = .ok (.lastore, 1) := by decide +kernel
theorem dL_total_11 : decode cL_total 11 = .ok (.goto 7, 3) := by decide +kernel
theorem dL_total_14 : decode cL_total 14 = .ok (.astore 5, 2) := by decide +kernel
theorem dL_total_16 : decode cL_total 16 = .ok (.iconst 1, 1) := by decide +kernel
theorem dL_total_17 : decode cL_total 17 = .ok (.ireturn, 1) := by decide +kernel
theorem dL_total_18 : decode cL_total 18 = .ok (.iconst 0, 1) := by decide +kernel
theorem dL_total_19 : decode cL_total 19 = .ok (.ireturn, 1) := by decide +kernel
