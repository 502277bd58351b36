theorem tw15 : (Jvm.Cond.classLink "ObjectBaseLaw" (7 : Nat) "ObjectBase") ∈ obW := lw_at 15 (by decide +kernel) (by decide +kernel)
theorem tw16 : (Jvm.Cond.instantiable "ObjectBase" (13 : Nat)) ∈ obW := lw_at 16 (by decide +kernel) (by decide +kernel)
theorem tw17 : (Jvm.Cond.methodLink "ObjectBaseLaw" (9 : Nat) ({ cls := "ObjectBase", name := "<init>", desc := "()V" } : Jvm.MethodName)) ∈ obW := lw_at 17 (by decide +kernel) (by decide +kernel)
theorem tw18 : (Jvm.Cond.instanceMethod ({ cls := "ObjectBase", name := "<init>", desc := "()V" } : Jvm.MethodName)) ∈ obW := lw_at 18 (by decide +kernel) (by decide +kernel)
theorem tw19 : (Jvm.Cond.code ({ cls := "ObjectBase", name := "<init>", desc := "()V" } : Jvm.MethodName) prog_1_method_1_code (1 : Nat) (Option.none : Option Jvm.ClassFile.FieldType)) ∈ obW := lw_at 19 (by decide +kernel) (by decide +kernel)
theorem tw272 : (Jvm.Cond.methodLink "ObjectBaseLaw" (13 : Nat) ({ cls := "ObjectBase", name := "type", desc := "(I)I" } : Jvm.MethodName)) ∈ obW := lw_at 272 (by decide +kernel) (by decide +kernel)
theorem tw273 : (Jvm.Cond.instanceMethod ({ cls := "ObjectBase", name := "type", desc := "(I)I" } : Jvm.MethodName)) ∈ obW := lw_at 273 (by decide +kernel) (by decide +kernel)
theorem tw274 : (Jvm.Cond.selects "ObjectBase" ({ cls := "ObjectBase", name := "type", desc := "(I)I" } : Jvm.MethodName) ({ cls := "ObjectBase", name := "type", desc := "(I)I" } : Jvm.MethodName)) ∈ obW := lw_at 274 (by decide +kernel) (by decide +kernel)
theorem tw275 : (Jvm.Cond.code ({ cls := "ObjectBase", name := "type", desc := "(I)I" } : Jvm.MethodName) prog_1_method_2_code (2 : Nat) (Option.some Jvm.ClassFile.FieldType.int)) ∈ obW := lw_at 275 (by decide +kernel) (by decide +kernel)
theorem tw284 : (Jvm.Cond.methodLink "ObjectBaseLaw" (18 : Nat) ({ cls := "ObjectBase", name := "field", desc := "(III)I" } : Jvm.MethodName)) ∈ obW := lw_at 284 (by decide +kernel) (by decide +kernel)
theorem tw285 : (Jvm.Cond.instanceMethod ({ cls := "ObjectBase", name := "field", desc := "(III)I" } : Jvm.MethodName)) ∈ obW := lw_at 285 (by decide +kernel) (by decide +kernel)
theorem tw286 : (Jvm.Cond.selects "ObjectBase" ({ cls := "ObjectBase", name := "field", desc := "(III)I" } : Jvm.MethodName) ({ cls := "ObjectBase", name := "field", desc := "(III)I" } : Jvm.MethodName)) ∈ obW := lw_at 286 (by decide +kernel) (by decide +kernel)
theorem tw287 : (Jvm.Cond.code ({ cls := "ObjectBase", name := "field", desc := "(III)I" } : Jvm.MethodName) prog_1_method_3_code (4 : Nat) (Option.some Jvm.ClassFile.FieldType.int)) ∈ obW := lw_at 287 (by decide +kernel) (by decide +kernel)
theorem tw292 : (Jvm.Cond.methodLink "ObjectBaseLaw" (23 : Nat) ({ cls := "ObjectBase", name := "index", desc := "(IIII)I" } : Jvm.MethodName)) ∈ obW := lw_at 292 (by decide +kernel) (by decide +kernel)
theorem tw293 : (Jvm.Cond.instanceMethod ({ cls := "ObjectBase", name := "index", desc := "(IIII)I" } : Jvm.MethodName)) ∈ obW := lw_at 293 (by decide +kernel) (by decide +kernel)
theorem tw294 : (Jvm.Cond.selects "ObjectBase" ({ cls := "ObjectBase", name := "index", desc := "(IIII)I" } : Jvm.MethodName) ({ cls := "ObjectBase", name := "index", desc := "(IIII)I" } : Jvm.MethodName)) ∈ obW := lw_at 294 (by decide +kernel) (by decide +kernel)
theorem tw295 : (Jvm.Cond.code ({ cls := "ObjectBase", name := "index", desc := "(IIII)I" } : Jvm.MethodName) prog_1_method_4_code (5 : Nat) (Option.some Jvm.ClassFile.FieldType.int)) ∈ obW := lw_at 295 (by decide +kernel) (by decide +kernel)
theorem tw312 : (Jvm.Cond.methodLink "ObjectBaseLaw" (28 : Nat) ({ cls := "ObjectBase", name := "begin", desc := "()Z" } : Jvm.MethodName)) ∈ obW := lw_at 312 (by decide +kernel) (by decide +kernel)
theorem tw313 : (Jvm.Cond.instanceMethod ({ cls := "ObjectBase", name := "begin", desc := "()Z" } : Jvm.MethodName)) ∈ obW := lw_at 313 (by decide +kernel) (by decide +kernel)
theorem tw314 : (Jvm.Cond.selects "ObjectBase" ({ cls := "ObjectBase", name := "begin", desc := "()Z" } : Jvm.MethodName) ({ cls := "ObjectBase", name := "begin", desc := "()Z" } : Jvm.MethodName)) ∈ obW := lw_at 314 (by decide +kernel) (by decide +kernel)
theorem tw315 : (Jvm.Cond.code ({ cls := "ObjectBase", name := "begin", desc := "()Z" } : Jvm.MethodName) prog_1_method_5_code (1 : Nat) (Option.some Jvm.ClassFile.FieldType.boolean)) ∈ obW := lw_at 315 (by decide +kernel) (by decide +kernel)
theorem tw346 : (Jvm.Cond.methodLink "ObjectBaseLaw" (33 : Nat) ({ cls := "ObjectBase", name := "make", desc := "(I)I" } : Jvm.MethodName)) ∈ obW := lw_at 346 (by decide +kernel) (by decide +kernel)
theorem tw347 : (Jvm.Cond.instanceMethod ({ cls := "ObjectBase", name := "make", desc := "(I)I" } : Jvm.MethodName)) ∈ obW := lw_at 347 (by decide +kernel) (by decide +kernel)
theorem tw348 : (Jvm.Cond.selects "ObjectBase" ({ cls := "ObjectBase", name := "make", desc := "(I)I" } : Jvm.MethodName) ({ cls := "ObjectBase", name := "make", desc := "(I)I" } : Jvm.MethodName)) ∈ obW := lw_at 348 (by decide +kernel) (by decide +kernel)
theorem tw349 : (Jvm.Cond.code ({ cls := "ObjectBase", name := "make", desc := "(I)I" } : Jvm.MethodName) prog_1_method_6_code (2 : Nat) (Option.some Jvm.ClassFile.FieldType.int)) ∈ obW := lw_at 349 (by decide +kernel) (by decide +kernel)
theorem tw355 : (Jvm.Cond.methodLink "ObjectBaseLaw" (37 : Nat) ({ cls := "ObjectBase", name := "put", desc := "(III)Z" } : Jvm.MethodName)) ∈ obW := lw_at 355 (by decide +kernel) (by decide +kernel)
theorem tw356 : (Jvm.Cond.instanceMethod ({ cls := "ObjectBase", name := "put", desc := "(III)Z" } : Jvm.MethodName)) ∈ obW := lw_at 356 (by decide +kernel) (by decide +kernel)
theorem tw357 : (Jvm.Cond.selects "ObjectBase" ({ cls := "ObjectBase", name := "put", desc := "(III)Z" } : Jvm.MethodName) ({ cls := "ObjectBase", name := "put", desc := "(III)Z" } : Jvm.MethodName)) ∈ obW := lw_at 357 (by decide +kernel) (by decide +kernel)
theorem tw358 : (Jvm.Cond.code ({ cls := "ObjectBase", name := "put", desc := "(III)Z" } : Jvm.MethodName) prog_1_method_7_code (4 : Nat) (Option.some Jvm.ClassFile.FieldType.boolean)) ∈ obW := lw_at 358 (by decide +kernel) (by decide +kernel)
theorem tw373 : (Jvm.Cond.methodLink "ObjectBaseLaw" (42 : Nat) ({ cls := "ObjectBase", name := "point", desc := "(III)Z" } : Jvm.MethodName)) ∈ obW := lw_at 373 (by decide +kernel) (by decide +kernel)
theorem tw374 : (Jvm.Cond.instanceMethod ({ cls := "ObjectBase", name := "point", desc := "(III)Z" } : Jvm.MethodName)) ∈ obW := lw_at 374 (by decide +kernel) (by decide +kernel)
theorem tw375 : (Jvm.Cond.selects "ObjectBase" ({ cls := "ObjectBase", name := "point", desc := "(III)Z" } : Jvm.MethodName) ({ cls := "ObjectBase", name := "point", desc := "(III)Z" } : Jvm.MethodName)) ∈ obW := lw_at 375 (by decide +kernel) (by decide +kernel)
theorem tw376 : (Jvm.Cond.code ({ cls := "ObjectBase", name := "point", desc := "(III)Z" } : Jvm.MethodName) prog_1_method_8_code (4 : Nat) (Option.some Jvm.ClassFile.FieldType.boolean)) ∈ obW := lw_at 376 (by decide +kernel) (by decide +kernel)
theorem tw385 : (Jvm.Cond.methodLink "ObjectBaseLaw" (46 : Nat) ({ cls := "ObjectBase", name := "join", desc := "(IIIZ)Z" } : Jvm.MethodName)) ∈ obW := lw_at 385 (by decide +kernel) (by decide +kernel)
theorem tw386 : (Jvm.Cond.instanceMethod ({ cls := "ObjectBase", name := "join", desc := "(IIIZ)Z" } : Jvm.MethodName)) ∈ obW := lw_at 386 (by decide +kernel) (by decide +kernel)
theorem tw387 : (Jvm.Cond.selects "ObjectBase" ({ cls := "ObjectBase", name := "join", desc := "(IIIZ)Z" } : Jvm.MethodName) ({ cls := "ObjectBase", name := "join", desc := "(IIIZ)Z" } : Jvm.MethodName)) ∈ obW := lw_at 387 (by decide +kernel) (by decide +kernel)
theorem tw388 : (Jvm.Cond.code ({ cls := "ObjectBase", name := "join", desc := "(IIIZ)Z" } : Jvm.MethodName) prog_1_method_9_code (9 : Nat) (Option.some Jvm.ClassFile.FieldType.boolean)) ∈ obW := lw_at 388 (by decide +kernel) (by decide +kernel)
theorem tw392 : (Jvm.Cond.methodLink "ObjectBaseLaw" (51 : Nat) ({ cls := "ObjectBase", name := "name", desc := "(II)Z" } : Jvm.MethodName)) ∈ obW := lw_at 392 (by decide +kernel) (by decide +kernel)
theorem tw393 : (Jvm.Cond.instanceMethod ({ cls := "ObjectBase", name := "name", desc := "(II)Z" } : Jvm.MethodName)) ∈ obW := lw_at 393 (by decide +kernel) (by decide +kernel)
theorem tw394 : (Jvm.Cond.selects "ObjectBase" ({ cls := "ObjectBase", name := "name", desc := "(II)Z" } : Jvm.MethodName) ({ cls := "ObjectBase", name := "name", desc := "(II)Z" } : Jvm.MethodName)) ∈ obW := lw_at 394 (by decide +kernel) (by decide +kernel)
theorem tw395 : (Jvm.Cond.code ({ cls := "ObjectBase", name := "name", desc := "(II)Z" } : Jvm.MethodName) prog_1_method_10_code (3 : Nat) (Option.some Jvm.ClassFile.FieldType.boolean)) ∈ obW := lw_at 395 (by decide +kernel) (by decide +kernel)
theorem tw403 : (Jvm.Cond.methodLink "ObjectBaseLaw" (56 : Nat) ({ cls := "ObjectBase", name := "commit", desc := "()I" } : Jvm.MethodName)) ∈ obW := lw_at 403 (by decide +kernel) (by decide +kernel)
theorem tw404 : (Jvm.Cond.instanceMethod ({ cls := "ObjectBase", name := "commit", desc := "()I" } : Jvm.MethodName)) ∈ obW := lw_at 404 (by decide +kernel) (by decide +kernel)
theorem tw405 : (Jvm.Cond.selects "ObjectBase" ({ cls := "ObjectBase", name := "commit", desc := "()I" } : Jvm.MethodName) ({ cls := "ObjectBase", name := "commit", desc := "()I" } : Jvm.MethodName)) ∈ obW := lw_at 405 (by decide +kernel) (by decide +kernel)
theorem tw406 : (Jvm.Cond.code ({ cls := "ObjectBase", name := "commit", desc := "()I" } : Jvm.MethodName) prog_1_method_11_code (2 : Nat) (Option.some Jvm.ClassFile.FieldType.int)) ∈ obW := lw_at 406 (by decide +kernel) (by decide +kernel)
theorem tw450 : (Jvm.Cond.methodLink "ObjectBaseLaw" (61 : Nat) ({ cls := "ObjectBase", name := "abort", desc := "()Z" } : Jvm.MethodName)) ∈ obW := lw_at 450 (by decide +kernel) (by decide +kernel)
theorem tw451 : (Jvm.Cond.instanceMethod ({ cls := "ObjectBase", name := "abort", desc := "()Z" } : Jvm.MethodName)) ∈ obW := lw_at 451 (by decide +kernel) (by decide +kernel)
theorem tw452 : (Jvm.Cond.selects "ObjectBase" ({ cls := "ObjectBase", name := "abort", desc := "()Z" } : Jvm.MethodName) ({ cls := "ObjectBase", name := "abort", desc := "()Z" } : Jvm.MethodName)) ∈ obW := lw_at 452 (by decide +kernel) (by decide +kernel)
theorem tw453 : (Jvm.Cond.code ({ cls := "ObjectBase", name := "abort", desc := "()Z" } : Jvm.MethodName) prog_1_method_12_code (1 : Nat) (Option.some Jvm.ClassFile.FieldType.boolean)) ∈ obW := lw_at 453 (by decide +kernel) (by decide +kernel)
theorem tw454 : (Jvm.Cond.methodLink "ObjectBaseLaw" (65 : Nat) ({ cls := "ObjectBase", name := "collect", desc := "()I" } : Jvm.MethodName)) ∈ obW := lw_at 454 (by decide +kernel) (by decide +kernel)
theorem tw455 : (Jvm.Cond.instanceMethod ({ cls := "ObjectBase", name := "collect", desc := "()I" } : Jvm.MethodName)) ∈ obW := lw_at 455 (by decide +kernel) (by decide +kernel)
theorem tw456 : (Jvm.Cond.selects "ObjectBase" ({ cls := "ObjectBase", name := "collect", desc := "()I" } : Jvm.MethodName) ({ cls := "ObjectBase", name := "collect", desc := "()I" } : Jvm.MethodName)) ∈ obW := lw_at 456 (by decide +kernel) (by decide +kernel)
theorem tw457 : (Jvm.Cond.code ({ cls := "ObjectBase", name := "collect", desc := "()I" } : Jvm.MethodName) prog_1_method_13_code (5 : Nat) (Option.some Jvm.ClassFile.FieldType.int)) ∈ obW := lw_at 457 (by decide +kernel) (by decide +kernel)
theorem tw464 : (Jvm.Cond.methodLink "ObjectBaseLaw" (69 : Nat) ({ cls := "ObjectBase", name := "arm", desc := "(I)Z" } : Jvm.MethodName)) ∈ obW := lw_at 464 (by decide +kernel) (by decide +kernel)
theorem tw465 : (Jvm.Cond.instanceMethod ({ cls := "ObjectBase", name := "arm", desc := "(I)Z" } : Jvm.MethodName)) ∈ obW := lw_at 465 (by decide +kernel) (by decide +kernel)
theorem tw466 : (Jvm.Cond.selects "ObjectBase" ({ cls := "ObjectBase", name := "arm", desc := "(I)Z" } : Jvm.MethodName) ({ cls := "ObjectBase", name := "arm", desc := "(I)Z" } : Jvm.MethodName)) ∈ obW := lw_at 466 (by decide +kernel) (by decide +kernel)
theorem tw467 : (Jvm.Cond.code ({ cls := "ObjectBase", name := "arm", desc := "(I)Z" } : Jvm.MethodName) prog_1_method_14_code (2 : Nat) (Option.some Jvm.ClassFile.FieldType.boolean)) ∈ obW := lw_at 467 (by decide +kernel) (by decide +kernel)
theorem tw468 : (Jvm.Cond.methodLink "ObjectBaseLaw" (74 : Nat) ({ cls := "ObjectBase", name := "crash", desc := "()Z" } : Jvm.MethodName)) ∈ obW := lw_at 468 (by decide +kernel) (by decide +kernel)
theorem tw469 : (Jvm.Cond.instanceMethod ({ cls := "ObjectBase", name := "crash", desc := "()Z" } : Jvm.MethodName)) ∈ obW := lw_at 469 (by decide +kernel) (by decide +kernel)
theorem tw470 : (Jvm.Cond.selects "ObjectBase" ({ cls := "ObjectBase", name := "crash", desc := "()Z" } : Jvm.MethodName) ({ cls := "ObjectBase", name := "crash", desc := "()Z" } : Jvm.MethodName)) ∈ obW := lw_at 470 (by decide +kernel) (by decide +kernel)
theorem tw471 : (Jvm.Cond.code ({ cls := "ObjectBase", name := "crash", desc := "()Z" } : Jvm.MethodName) prog_1_method_15_code (1 : Nat) (Option.some Jvm.ClassFile.FieldType.boolean)) ∈ obW := lw_at 471 (by decide +kernel) (by decide +kernel)
theorem tw472 : (Jvm.Cond.methodLink "ObjectBaseLaw" (78 : Nat) ({ cls := "ObjectBase", name := "recover", desc := "()I" } : Jvm.MethodName)) ∈ obW := lw_at 472 (by decide +kernel) (by decide +kernel)
theorem tw473 : (Jvm.Cond.instanceMethod ({ cls := "ObjectBase", name := "recover", desc := "()I" } : Jvm.MethodName)) ∈ obW := lw_at 473 (by decide +kernel) (by decide +kernel)
theorem tw474 : (Jvm.Cond.selects "ObjectBase" ({ cls := "ObjectBase", name := "recover", desc := "()I" } : Jvm.MethodName) ({ cls := "ObjectBase", name := "recover", desc := "()I" } : Jvm.MethodName)) ∈ obW := lw_at 474 (by decide +kernel) (by decide +kernel)
theorem tw475 : (Jvm.Cond.code ({ cls := "ObjectBase", name := "recover", desc := "()I" } : Jvm.MethodName) prog_1_method_16_code (1 : Nat) (Option.some Jvm.ClassFile.FieldType.int)) ∈ obW := lw_at 475 (by decide +kernel) (by decide +kernel)
theorem tw481 : (Jvm.Cond.methodLink "ObjectBaseLaw" (82 : Nat) ({ cls := "ObjectBase", name := "classOf", desc := "(I)I" } : Jvm.MethodName)) ∈ obW := lw_at 481 (by decide +kernel) (by decide +kernel)
theorem tw482 : (Jvm.Cond.instanceMethod ({ cls := "ObjectBase", name := "classOf", desc := "(I)I" } : Jvm.MethodName)) ∈ obW := lw_at 482 (by decide +kernel) (by decide +kernel)
theorem tw483 : (Jvm.Cond.selects "ObjectBase" ({ cls := "ObjectBase", name := "classOf", desc := "(I)I" } : Jvm.MethodName) ({ cls := "ObjectBase", name := "classOf", desc := "(I)I" } : Jvm.MethodName)) ∈ obW := lw_at 483 (by decide +kernel) (by decide +kernel)
theorem tw484 : (Jvm.Cond.code ({ cls := "ObjectBase", name := "classOf", desc := "(I)I" } : Jvm.MethodName) prog_1_method_17_code (2 : Nat) (Option.some Jvm.ClassFile.FieldType.int)) ∈ obW := lw_at 484 (by decide +kernel) (by decide +kernel)
theorem tw489 : (Jvm.Cond.methodLink "ObjectBaseLaw" (86 : Nat) ({ cls := "ObjectBase", name := "reached", desc := "(I)Z" } : Jvm.MethodName)) ∈ obW := lw_at 489 (by decide +kernel) (by decide +kernel)
theorem tw490 : (Jvm.Cond.instanceMethod ({ cls := "ObjectBase", name := "reached", desc := "(I)Z" } : Jvm.MethodName)) ∈ obW := lw_at 490 (by decide +kernel) (by decide +kernel)
theorem tw491 : (Jvm.Cond.selects "ObjectBase" ({ cls := "ObjectBase", name := "reached", desc := "(I)Z" } : Jvm.MethodName) ({ cls := "ObjectBase", name := "reached", desc := "(I)Z" } : Jvm.MethodName)) ∈ obW := lw_at 491 (by decide +kernel) (by decide +kernel)
theorem tw492 : (Jvm.Cond.code ({ cls := "ObjectBase", name := "reached", desc := "(I)Z" } : Jvm.MethodName) prog_1_method_18_code (2 : Nat) (Option.some Jvm.ClassFile.FieldType.boolean)) ∈ obW := lw_at 492 (by decide +kernel) (by decide +kernel)
theorem tw493 : (Jvm.Cond.methodLink "ObjectBaseLaw" (90 : Nat) ({ cls := "ObjectBase", name := "get", desc := "(II)I" } : Jvm.MethodName)) ∈ obW := lw_at 493 (by decide +kernel) (by decide +kernel)
theorem tw494 : (Jvm.Cond.instanceMethod ({ cls := "ObjectBase", name := "get", desc := "(II)I" } : Jvm.MethodName)) ∈ obW := lw_at 494 (by decide +kernel) (by decide +kernel)
theorem tw495 : (Jvm.Cond.selects "ObjectBase" ({ cls := "ObjectBase", name := "get", desc := "(II)I" } : Jvm.MethodName) ({ cls := "ObjectBase", name := "get", desc := "(II)I" } : Jvm.MethodName)) ∈ obW := lw_at 495 (by decide +kernel) (by decide +kernel)
theorem tw496 : (Jvm.Cond.code ({ cls := "ObjectBase", name := "get", desc := "(II)I" } : Jvm.MethodName) prog_1_method_19_code (6 : Nat) (Option.some Jvm.ClassFile.FieldType.int)) ∈ obW := lw_at 496 (by decide +kernel) (by decide +kernel)
theorem tw498 : (Jvm.Cond.methodLink "ObjectBaseLaw" (95 : Nat) ({ cls := "ObjectBase", name := "holds", desc := "(III)Z" } : Jvm.MethodName)) ∈ obW := lw_at 498 (by decide +kernel) (by decide +kernel)
theorem tw499 : (Jvm.Cond.instanceMethod ({ cls := "ObjectBase", name := "holds", desc := "(III)Z" } : Jvm.MethodName)) ∈ obW := lw_at 499 (by decide +kernel) (by decide +kernel)
theorem tw500 : (Jvm.Cond.selects "ObjectBase" ({ cls := "ObjectBase", name := "holds", desc := "(III)Z" } : Jvm.MethodName) ({ cls := "ObjectBase", name := "holds", desc := "(III)Z" } : Jvm.MethodName)) ∈ obW := lw_at 500 (by decide +kernel) (by decide +kernel)
theorem tw501 : (Jvm.Cond.code ({ cls := "ObjectBase", name := "holds", desc := "(III)Z" } : Jvm.MethodName) prog_1_method_20_code (5 : Nat) (Option.some Jvm.ClassFile.FieldType.boolean)) ∈ obW := lw_at 501 (by decide +kernel) (by decide +kernel)
theorem tw502 : (Jvm.Cond.methodLink "ObjectBaseLaw" (99 : Nat) ({ cls := "ObjectBase", name := "named", desc := "(I)I" } : Jvm.MethodName)) ∈ obW := lw_at 502 (by decide +kernel) (by decide +kernel)
theorem tw503 : (Jvm.Cond.instanceMethod ({ cls := "ObjectBase", name := "named", desc := "(I)I" } : Jvm.MethodName)) ∈ obW := lw_at 503 (by decide +kernel) (by decide +kernel)
theorem tw504 : (Jvm.Cond.selects "ObjectBase" ({ cls := "ObjectBase", name := "named", desc := "(I)I" } : Jvm.MethodName) ({ cls := "ObjectBase", name := "named", desc := "(I)I" } : Jvm.MethodName)) ∈ obW := lw_at 504 (by decide +kernel) (by decide +kernel)
theorem tw505 : (Jvm.Cond.code ({ cls := "ObjectBase", name := "named", desc := "(I)I" } : Jvm.MethodName) prog_1_method_21_code (2 : Nat) (Option.some Jvm.ClassFile.FieldType.int)) ∈ obW := lw_at 505 (by decide +kernel) (by decide +kernel)
theorem tw506 : (Jvm.Cond.methodLink "ObjectBaseLaw" (105 : Nat) ({ cls := "ObjectBase", name := "draft", desc := "(J)Z" } : Jvm.MethodName)) ∈ obW := lw_at 506 (by decide +kernel) (by decide +kernel)
theorem tw507 : (Jvm.Cond.instanceMethod ({ cls := "ObjectBase", name := "draft", desc := "(J)Z" } : Jvm.MethodName)) ∈ obW := lw_at 507 (by decide +kernel) (by decide +kernel)
theorem tw508 : (Jvm.Cond.selects "ObjectBase" ({ cls := "ObjectBase", name := "draft", desc := "(J)Z" } : Jvm.MethodName) ({ cls := "ObjectBase", name := "draft", desc := "(J)Z" } : Jvm.MethodName)) ∈ obW := lw_at 508 (by decide +kernel) (by decide +kernel)
theorem tw509 : (Jvm.Cond.code ({ cls := "ObjectBase", name := "draft", desc := "(J)Z" } : Jvm.MethodName) prog_1_method_22_code (3 : Nat) (Option.some Jvm.ClassFile.FieldType.boolean)) ∈ obW := lw_at 509 (by decide +kernel) (by decide +kernel)
theorem tw517 : (Jvm.Cond.methodLink "ObjectBaseLaw" (110 : Nat) ({ cls := "ObjectBase", name := "prepare", desc := "()I" } : Jvm.MethodName)) ∈ obW := lw_at 517 (by decide +kernel) (by decide +kernel)
theorem tw518 : (Jvm.Cond.instanceMethod ({ cls := "ObjectBase", name := "prepare", desc := "()I" } : Jvm.MethodName)) ∈ obW := lw_at 518 (by decide +kernel) (by decide +kernel)
theorem tw519 : (Jvm.Cond.selects "ObjectBase" ({ cls := "ObjectBase", name := "prepare", desc := "()I" } : Jvm.MethodName) ({ cls := "ObjectBase", name := "prepare", desc := "()I" } : Jvm.MethodName)) ∈ obW := lw_at 519 (by decide +kernel) (by decide +kernel)
theorem tw520 : (Jvm.Cond.code ({ cls := "ObjectBase", name := "prepare", desc := "()I" } : Jvm.MethodName) prog_1_method_23_code (2 : Nat) (Option.some Jvm.ClassFile.FieldType.int)) ∈ obW := lw_at 520 (by decide +kernel) (by decide +kernel)
theorem tw525 : (Jvm.Cond.instantiable "ObjectBase$Question" (11 : Nat)) ∈ obW := lw_at 525 (by decide +kernel) (by decide +kernel)
theorem tw526 : (Jvm.Cond.methodLinkNest "ObjectBase" (293 : Nat) ({ cls := "ObjectBase$Question", name := "<init>", desc := "()V" } : Jvm.MethodName) "ObjectBase") ∈ lw_tbl := lw_an 526 (by decide +kernel)
theorem tw527 : (Jvm.Cond.instanceMethod ({ cls := "ObjectBase$Question", name := "<init>", desc := "()V" } : Jvm.MethodName)) ∈ obW := lw_at 527 (by decide +kernel) (by decide +kernel)
theorem tw528 : (Jvm.Cond.code ({ cls := "ObjectBase$Question", name := "<init>", desc := "()V" } : Jvm.MethodName) prog_8_method_1_code (1 : Nat) (Option.none : Option Jvm.ClassFile.FieldType)) ∈ obW := lw_at 528 (by decide +kernel) (by decide +kernel)
theorem tw678 : (Jvm.Cond.methodLink "ObjectBaseLaw" (114 : Nat) ({ cls := "ObjectBase", name := "ask", desc := "(I)I" } : Jvm.MethodName)) ∈ obW := lw_at 678 (by decide +kernel) (by decide +kernel)
theorem tw679 : (Jvm.Cond.instanceMethod ({ cls := "ObjectBase", name := "ask", desc := "(I)I" } : Jvm.MethodName)) ∈ obW := lw_at 679 (by decide +kernel) (by decide +kernel)
theorem tw680 : (Jvm.Cond.selects "ObjectBase" ({ cls := "ObjectBase", name := "ask", desc := "(I)I" } : Jvm.MethodName) ({ cls := "ObjectBase", name := "ask", desc := "(I)I" } : Jvm.MethodName)) ∈ obW := lw_at 680 (by decide +kernel) (by decide +kernel)
theorem tw681 : (Jvm.Cond.code ({ cls := "ObjectBase", name := "ask", desc := "(I)I" } : Jvm.MethodName) prog_1_method_24_code (2 : Nat) (Option.some Jvm.ClassFile.FieldType.int)) ∈ obW := lw_at 681 (by decide +kernel) (by decide +kernel)
theorem tw764 : (Jvm.Cond.methodLink "ObjectBaseLaw" (118 : Nat) ({ cls := "ObjectBase", name := "sum", desc := "()J" } : Jvm.MethodName)) ∈ obW := lw_at 764 (by decide +kernel) (by decide +kernel)
theorem tw765 : (Jvm.Cond.instanceMethod ({ cls := "ObjectBase", name := "sum", desc := "()J" } : Jvm.MethodName)) ∈ obW := lw_at 765 (by decide +kernel) (by decide +kernel)
theorem tw766 : (Jvm.Cond.selects "ObjectBase" ({ cls := "ObjectBase", name := "sum", desc := "()J" } : Jvm.MethodName) ({ cls := "ObjectBase", name := "sum", desc := "()J" } : Jvm.MethodName)) ∈ obW := lw_at 766 (by decide +kernel) (by decide +kernel)
theorem tw767 : (Jvm.Cond.code ({ cls := "ObjectBase", name := "sum", desc := "()J" } : Jvm.MethodName) prog_1_method_25_code (1 : Nat) (Option.some Jvm.ClassFile.FieldType.long)) ∈ obW := lw_at 767 (by decide +kernel) (by decide +kernel)
theorem tw768 : (Jvm.Cond.methodLink "ObjectBaseLaw" (123 : Nat) ({ cls := "ObjectBase", name := "hit", desc := "(I)I" } : Jvm.MethodName)) ∈ obW := lw_at 768 (by decide +kernel) (by decide +kernel)
theorem tw769 : (Jvm.Cond.instanceMethod ({ cls := "ObjectBase", name := "hit", desc := "(I)I" } : Jvm.MethodName)) ∈ obW := lw_at 769 (by decide +kernel) (by decide +kernel)
theorem tw770 : (Jvm.Cond.selects "ObjectBase" ({ cls := "ObjectBase", name := "hit", desc := "(I)I" } : Jvm.MethodName) ({ cls := "ObjectBase", name := "hit", desc := "(I)I" } : Jvm.MethodName)) ∈ obW := lw_at 770 (by decide +kernel) (by decide +kernel)
theorem tw771 : (Jvm.Cond.code ({ cls := "ObjectBase", name := "hit", desc := "(I)I" } : Jvm.MethodName) prog_1_method_26_code (2 : Nat) (Option.some Jvm.ClassFile.FieldType.int)) ∈ obW := lw_at 771 (by decide +kernel) (by decide +kernel)
theorem tw777 : (Jvm.Cond.methodLink "ObjectBaseLaw" (127 : Nat) ({ cls := "ObjectBase", name := "look", desc := "(I)I" } : Jvm.MethodName)) ∈ obW := lw_at 777 (by decide +kernel) (by decide +kernel)
theorem tw778 : (Jvm.Cond.instanceMethod ({ cls := "ObjectBase", name := "look", desc := "(I)I" } : Jvm.MethodName)) ∈ obW := lw_at 778 (by decide +kernel) (by decide +kernel)
theorem tw779 : (Jvm.Cond.selects "ObjectBase" ({ cls := "ObjectBase", name := "look", desc := "(I)I" } : Jvm.MethodName) ({ cls := "ObjectBase", name := "look", desc := "(I)I" } : Jvm.MethodName)) ∈ obW := lw_at 779 (by decide +kernel) (by decide +kernel)
theorem tw780 : (Jvm.Cond.code ({ cls := "ObjectBase", name := "look", desc := "(I)I" } : Jvm.MethodName) prog_1_method_27_code (2 : Nat) (Option.some Jvm.ClassFile.FieldType.int)) ∈ obW := lw_at 780 (by decide +kernel) (by decide +kernel)
theorem tw781 : (Jvm.Cond.classLink "ObjectBaseLaw" (10 : Nat) "ObjectBaseModel") ∈ obW := lw_at 781 (by decide +kernel) (by decide +kernel)
theorem tw782 : (Jvm.Cond.instantiable "ObjectBaseModel" (66 : Nat)) ∈ obW := lw_at 782 (by decide +kernel) (by decide +kernel)
theorem tw783 : (Jvm.Cond.methodLink "ObjectBaseLaw" (12 : Nat) ({ cls := "ObjectBaseModel", name := "<init>", desc := "()V" } : Jvm.MethodName)) ∈ obW := lw_at 783 (by decide +kernel) (by decide +kernel)
theorem tw784 : (Jvm.Cond.instanceMethod ({ cls := "ObjectBaseModel", name := "<init>", desc := "()V" } : Jvm.MethodName)) ∈ obW := lw_at 784 (by decide +kernel) (by decide +kernel)
theorem tw785 : (Jvm.Cond.code ({ cls := "ObjectBaseModel", name := "<init>", desc := "()V" } : Jvm.MethodName) prog_13_method_1_code (1 : Nat) (Option.none : Option Jvm.ClassFile.FieldType)) ∈ obW := lw_at 785 (by decide +kernel) (by decide +kernel)
theorem tw987 : (Jvm.Cond.methodLink "ObjectBaseLaw" (17 : Nat) ({ cls := "ObjectBaseModel", name := "type", desc := "(I)I" } : Jvm.MethodName)) ∈ obW := lw_at 987 (by decide +kernel) (by decide +kernel)
theorem tw988 : (Jvm.Cond.instanceMethod ({ cls := "ObjectBaseModel", name := "type", desc := "(I)I" } : Jvm.MethodName)) ∈ obW := lw_at 988 (by decide +kernel) (by decide +kernel)
theorem tw989 : (Jvm.Cond.selects "ObjectBaseModel" ({ cls := "ObjectBaseModel", name := "type", desc := "(I)I" } : Jvm.MethodName) ({ cls := "ObjectBaseModel", name := "type", desc := "(I)I" } : Jvm.MethodName)) ∈ obW := lw_at 989 (by decide +kernel) (by decide +kernel)
theorem tw990 : (Jvm.Cond.code ({ cls := "ObjectBaseModel", name := "type", desc := "(I)I" } : Jvm.MethodName) prog_13_method_4_code (2 : Nat) (Option.some Jvm.ClassFile.FieldType.int)) ∈ obW := lw_at 990 (by decide +kernel) (by decide +kernel)
theorem tw991 : (Jvm.Cond.methodLink "ObjectBaseLaw" (22 : Nat) ({ cls := "ObjectBaseModel", name := "field", desc := "(III)I" } : Jvm.MethodName)) ∈ obW := lw_at 991 (by decide +kernel) (by decide +kernel)
theorem tw992 : (Jvm.Cond.instanceMethod ({ cls := "ObjectBaseModel", name := "field", desc := "(III)I" } : Jvm.MethodName)) ∈ obW := lw_at 992 (by decide +kernel) (by decide +kernel)
theorem tw993 : (Jvm.Cond.selects "ObjectBaseModel" ({ cls := "ObjectBaseModel", name := "field", desc := "(III)I" } : Jvm.MethodName) ({ cls := "ObjectBaseModel", name := "field", desc := "(III)I" } : Jvm.MethodName)) ∈ obW := lw_at 993 (by decide +kernel) (by decide +kernel)
theorem tw994 : (Jvm.Cond.code ({ cls := "ObjectBaseModel", name := "field", desc := "(III)I" } : Jvm.MethodName) prog_13_method_5_code (4 : Nat) (Option.some Jvm.ClassFile.FieldType.int)) ∈ obW := lw_at 994 (by decide +kernel) (by decide +kernel)
theorem tw999 : (Jvm.Cond.methodLink "ObjectBaseLaw" (27 : Nat) ({ cls := "ObjectBaseModel", name := "index", desc := "(IIII)I" } : Jvm.MethodName)) ∈ obW := lw_at 999 (by decide +kernel) (by decide +kernel)
theorem tw1000 : (Jvm.Cond.instanceMethod ({ cls := "ObjectBaseModel", name := "index", desc := "(IIII)I" } : Jvm.MethodName)) ∈ obW := lw_at 1000 (by decide +kernel) (by decide +kernel)
theorem tw1001 : (Jvm.Cond.selects "ObjectBaseModel" ({ cls := "ObjectBaseModel", name := "index", desc := "(IIII)I" } : Jvm.MethodName) ({ cls := "ObjectBaseModel", name := "index", desc := "(IIII)I" } : Jvm.MethodName)) ∈ obW := lw_at 1001 (by decide +kernel) (by decide +kernel)
theorem tw1002 : (Jvm.Cond.code ({ cls := "ObjectBaseModel", name := "index", desc := "(IIII)I" } : Jvm.MethodName) prog_13_method_7_code (6 : Nat) (Option.some Jvm.ClassFile.FieldType.int)) ∈ obW := lw_at 1002 (by decide +kernel) (by decide +kernel)
theorem tw1011 : (Jvm.Cond.methodLink "ObjectBaseLaw" (32 : Nat) ({ cls := "ObjectBaseModel", name := "begin", desc := "()Z" } : Jvm.MethodName)) ∈ obW := lw_at 1011 (by decide +kernel) (by decide +kernel)
theorem tw1012 : (Jvm.Cond.instanceMethod ({ cls := "ObjectBaseModel", name := "begin", desc := "()Z" } : Jvm.MethodName)) ∈ obW := lw_at 1012 (by decide +kernel) (by decide +kernel)
theorem tw1013 : (Jvm.Cond.selects "ObjectBaseModel" ({ cls := "ObjectBaseModel", name := "begin", desc := "()Z" } : Jvm.MethodName) ({ cls := "ObjectBaseModel", name := "begin", desc := "()Z" } : Jvm.MethodName)) ∈ obW := lw_at 1013 (by decide +kernel) (by decide +kernel)
theorem tw1014 : (Jvm.Cond.code ({ cls := "ObjectBaseModel", name := "begin", desc := "()Z" } : Jvm.MethodName) prog_13_method_15_code (1 : Nat) (Option.some Jvm.ClassFile.FieldType.boolean)) ∈ obW := lw_at 1014 (by decide +kernel) (by decide +kernel)
theorem tw1029 : (Jvm.Cond.methodLink "ObjectBaseLaw" (36 : Nat) ({ cls := "ObjectBaseModel", name := "make", desc := "(I)I" } : Jvm.MethodName)) ∈ obW := lw_at 1029 (by decide +kernel) (by decide +kernel)
theorem tw1030 : (Jvm.Cond.instanceMethod ({ cls := "ObjectBaseModel", name := "make", desc := "(I)I" } : Jvm.MethodName)) ∈ obW := lw_at 1030 (by decide +kernel) (by decide +kernel)
theorem tw1031 : (Jvm.Cond.selects "ObjectBaseModel" ({ cls := "ObjectBaseModel", name := "make", desc := "(I)I" } : Jvm.MethodName) ({ cls := "ObjectBaseModel", name := "make", desc := "(I)I" } : Jvm.MethodName)) ∈ obW := lw_at 1031 (by decide +kernel) (by decide +kernel)
theorem tw1032 : (Jvm.Cond.code ({ cls := "ObjectBaseModel", name := "make", desc := "(I)I" } : Jvm.MethodName) prog_13_method_16_code (2 : Nat) (Option.some Jvm.ClassFile.FieldType.int)) ∈ obW := lw_at 1032 (by decide +kernel) (by decide +kernel)
theorem tw1033 : (Jvm.Cond.methodLink "ObjectBaseLaw" (41 : Nat) ({ cls := "ObjectBaseModel", name := "put", desc := "(III)Z" } : Jvm.MethodName)) ∈ obW := lw_at 1033 (by decide +kernel) (by decide +kernel)
theorem tw1034 : (Jvm.Cond.instanceMethod ({ cls := "ObjectBaseModel", name := "put", desc := "(III)Z" } : Jvm.MethodName)) ∈ obW := lw_at 1034 (by decide +kernel) (by decide +kernel)
theorem tw1035 : (Jvm.Cond.selects "ObjectBaseModel" ({ cls := "ObjectBaseModel", name := "put", desc := "(III)Z" } : Jvm.MethodName) ({ cls := "ObjectBaseModel", name := "put", desc := "(III)Z" } : Jvm.MethodName)) ∈ obW := lw_at 1035 (by decide +kernel) (by decide +kernel)
theorem tw1036 : (Jvm.Cond.code ({ cls := "ObjectBaseModel", name := "put", desc := "(III)Z" } : Jvm.MethodName) prog_13_method_19_code (4 : Nat) (Option.some Jvm.ClassFile.FieldType.boolean)) ∈ obW := lw_at 1036 (by decide +kernel) (by decide +kernel)
theorem tw1041 : (Jvm.Cond.methodLink "ObjectBaseLaw" (45 : Nat) ({ cls := "ObjectBaseModel", name := "point", desc := "(III)Z" } : Jvm.MethodName)) ∈ obW := lw_at 1041 (by decide +kernel) (by decide +kernel)
theorem tw1042 : (Jvm.Cond.instanceMethod ({ cls := "ObjectBaseModel", name := "point", desc := "(III)Z" } : Jvm.MethodName)) ∈ obW := lw_at 1042 (by decide +kernel) (by decide +kernel)
theorem tw1043 : (Jvm.Cond.selects "ObjectBaseModel" ({ cls := "ObjectBaseModel", name := "point", desc := "(III)Z" } : Jvm.MethodName) ({ cls := "ObjectBaseModel", name := "point", desc := "(III)Z" } : Jvm.MethodName)) ∈ obW := lw_at 1043 (by decide +kernel) (by decide +kernel)
theorem tw1044 : (Jvm.Cond.code ({ cls := "ObjectBaseModel", name := "point", desc := "(III)Z" } : Jvm.MethodName) prog_13_method_20_code (4 : Nat) (Option.some Jvm.ClassFile.FieldType.boolean)) ∈ obW := lw_at 1044 (by decide +kernel) (by decide +kernel)
theorem tw1049 : (Jvm.Cond.methodLink "ObjectBaseLaw" (50 : Nat) ({ cls := "ObjectBaseModel", name := "join", desc := "(IIIZ)Z" } : Jvm.MethodName)) ∈ obW := lw_at 1049 (by decide +kernel) (by decide +kernel)
theorem tw1050 : (Jvm.Cond.instanceMethod ({ cls := "ObjectBaseModel", name := "join", desc := "(IIIZ)Z" } : Jvm.MethodName)) ∈ obW := lw_at 1050 (by decide +kernel) (by decide +kernel)
theorem tw1051 : (Jvm.Cond.selects "ObjectBaseModel" ({ cls := "ObjectBaseModel", name := "join", desc := "(IIIZ)Z" } : Jvm.MethodName) ({ cls := "ObjectBaseModel", name := "join", desc := "(IIIZ)Z" } : Jvm.MethodName)) ∈ obW := lw_at 1051 (by decide +kernel) (by decide +kernel)
theorem tw1052 : (Jvm.Cond.code ({ cls := "ObjectBaseModel", name := "join", desc := "(IIIZ)Z" } : Jvm.MethodName) prog_13_method_21_code (7 : Nat) (Option.some Jvm.ClassFile.FieldType.boolean)) ∈ obW := lw_at 1052 (by decide +kernel) (by decide +kernel)
theorem tw1054 : (Jvm.Cond.methodLink "ObjectBaseLaw" (55 : Nat) ({ cls := "ObjectBaseModel", name := "name", desc := "(II)Z" } : Jvm.MethodName)) ∈ obW := lw_at 1054 (by decide +kernel) (by decide +kernel)
theorem tw1055 : (Jvm.Cond.instanceMethod ({ cls := "ObjectBaseModel", name := "name", desc := "(II)Z" } : Jvm.MethodName)) ∈ obW := lw_at 1055 (by decide +kernel) (by decide +kernel)
theorem tw1056 : (Jvm.Cond.selects "ObjectBaseModel" ({ cls := "ObjectBaseModel", name := "name", desc := "(II)Z" } : Jvm.MethodName) ({ cls := "ObjectBaseModel", name := "name", desc := "(II)Z" } : Jvm.MethodName)) ∈ obW := lw_at 1056 (by decide +kernel) (by decide +kernel)
theorem tw1057 : (Jvm.Cond.code ({ cls := "ObjectBaseModel", name := "name", desc := "(II)Z" } : Jvm.MethodName) prog_13_method_22_code (3 : Nat) (Option.some Jvm.ClassFile.FieldType.boolean)) ∈ obW := lw_at 1057 (by decide +kernel) (by decide +kernel)
theorem tw1058 : (Jvm.Cond.methodLink "ObjectBaseLaw" (60 : Nat) ({ cls := "ObjectBaseModel", name := "commit", desc := "()I" } : Jvm.MethodName)) ∈ obW := lw_at 1058 (by decide +kernel) (by decide +kernel)
theorem tw1059 : (Jvm.Cond.instanceMethod ({ cls := "ObjectBaseModel", name := "commit", desc := "()I" } : Jvm.MethodName)) ∈ obW := lw_at 1059 (by decide +kernel) (by decide +kernel)
theorem tw1060 : (Jvm.Cond.selects "ObjectBaseModel" ({ cls := "ObjectBaseModel", name := "commit", desc := "()I" } : Jvm.MethodName) ({ cls := "ObjectBaseModel", name := "commit", desc := "()I" } : Jvm.MethodName)) ∈ obW := lw_at 1060 (by decide +kernel) (by decide +kernel)
theorem tw1061 : (Jvm.Cond.code ({ cls := "ObjectBaseModel", name := "commit", desc := "()I" } : Jvm.MethodName) prog_13_method_25_code (2 : Nat) (Option.some Jvm.ClassFile.FieldType.int)) ∈ obW := lw_at 1061 (by decide +kernel) (by decide +kernel)
theorem tw1081 : (Jvm.Cond.methodLink "ObjectBaseLaw" (64 : Nat) ({ cls := "ObjectBaseModel", name := "abort", desc := "()Z" } : Jvm.MethodName)) ∈ obW := lw_at 1081 (by decide +kernel) (by decide +kernel)
theorem tw1082 : (Jvm.Cond.instanceMethod ({ cls := "ObjectBaseModel", name := "abort", desc := "()Z" } : Jvm.MethodName)) ∈ obW := lw_at 1082 (by decide +kernel) (by decide +kernel)
theorem tw1083 : (Jvm.Cond.selects "ObjectBaseModel" ({ cls := "ObjectBaseModel", name := "abort", desc := "()Z" } : Jvm.MethodName) ({ cls := "ObjectBaseModel", name := "abort", desc := "()Z" } : Jvm.MethodName)) ∈ obW := lw_at 1083 (by decide +kernel) (by decide +kernel)
theorem tw1084 : (Jvm.Cond.code ({ cls := "ObjectBaseModel", name := "abort", desc := "()Z" } : Jvm.MethodName) prog_13_method_26_code (1 : Nat) (Option.some Jvm.ClassFile.FieldType.boolean)) ∈ obW := lw_at 1084 (by decide +kernel) (by decide +kernel)
theorem tw1085 : (Jvm.Cond.methodLink "ObjectBaseLaw" (68 : Nat) ({ cls := "ObjectBaseModel", name := "collect", desc := "()I" } : Jvm.MethodName)) ∈ obW := lw_at 1085 (by decide +kernel) (by decide +kernel)
theorem tw1086 : (Jvm.Cond.instanceMethod ({ cls := "ObjectBaseModel", name := "collect", desc := "()I" } : Jvm.MethodName)) ∈ obW := lw_at 1086 (by decide +kernel) (by decide +kernel)
theorem tw1087 : (Jvm.Cond.selects "ObjectBaseModel" ({ cls := "ObjectBaseModel", name := "collect", desc := "()I" } : Jvm.MethodName) ({ cls := "ObjectBaseModel", name := "collect", desc := "()I" } : Jvm.MethodName)) ∈ obW := lw_at 1087 (by decide +kernel) (by decide +kernel)
theorem tw1088 : (Jvm.Cond.code ({ cls := "ObjectBaseModel", name := "collect", desc := "()I" } : Jvm.MethodName) prog_13_method_27_code (5 : Nat) (Option.some Jvm.ClassFile.FieldType.int)) ∈ obW := lw_at 1088 (by decide +kernel) (by decide +kernel)
theorem tw1089 : (Jvm.Cond.methodLink "ObjectBaseLaw" (73 : Nat) ({ cls := "ObjectBaseModel", name := "arm", desc := "(I)Z" } : Jvm.MethodName)) ∈ obW := lw_at 1089 (by decide +kernel) (by decide +kernel)
theorem tw1090 : (Jvm.Cond.instanceMethod ({ cls := "ObjectBaseModel", name := "arm", desc := "(I)Z" } : Jvm.MethodName)) ∈ obW := lw_at 1090 (by decide +kernel) (by decide +kernel)
theorem tw1091 : (Jvm.Cond.selects "ObjectBaseModel" ({ cls := "ObjectBaseModel", name := "arm", desc := "(I)Z" } : Jvm.MethodName) ({ cls := "ObjectBaseModel", name := "arm", desc := "(I)Z" } : Jvm.MethodName)) ∈ obW := lw_at 1091 (by decide +kernel) (by decide +kernel)
theorem tw1092 : (Jvm.Cond.code ({ cls := "ObjectBaseModel", name := "arm", desc := "(I)Z" } : Jvm.MethodName) prog_13_method_28_code (2 : Nat) (Option.some Jvm.ClassFile.FieldType.boolean)) ∈ obW := lw_at 1092 (by decide +kernel) (by decide +kernel)
theorem tw1093 : (Jvm.Cond.methodLink "ObjectBaseLaw" (77 : Nat) ({ cls := "ObjectBaseModel", name := "crash", desc := "()Z" } : Jvm.MethodName)) ∈ obW := lw_at 1093 (by decide +kernel) (by decide +kernel)
theorem tw1094 : (Jvm.Cond.instanceMethod ({ cls := "ObjectBaseModel", name := "crash", desc := "()Z" } : Jvm.MethodName)) ∈ obW := lw_at 1094 (by decide +kernel) (by decide +kernel)
theorem tw1095 : (Jvm.Cond.selects "ObjectBaseModel" ({ cls := "ObjectBaseModel", name := "crash", desc := "()Z" } : Jvm.MethodName) ({ cls := "ObjectBaseModel", name := "crash", desc := "()Z" } : Jvm.MethodName)) ∈ obW := lw_at 1095 (by decide +kernel) (by decide +kernel)
theorem tw1096 : (Jvm.Cond.code ({ cls := "ObjectBaseModel", name := "crash", desc := "()Z" } : Jvm.MethodName) prog_13_method_29_code (1 : Nat) (Option.some Jvm.ClassFile.FieldType.boolean)) ∈ obW := lw_at 1096 (by decide +kernel) (by decide +kernel)
theorem tw1097 : (Jvm.Cond.methodLink "ObjectBaseLaw" (81 : Nat) ({ cls := "ObjectBaseModel", name := "recover", desc := "()I" } : Jvm.MethodName)) ∈ obW := lw_at 1097 (by decide +kernel) (by decide +kernel)
theorem tw1098 : (Jvm.Cond.instanceMethod ({ cls := "ObjectBaseModel", name := "recover", desc := "()I" } : Jvm.MethodName)) ∈ obW := lw_at 1098 (by decide +kernel) (by decide +kernel)
theorem tw1099 : (Jvm.Cond.selects "ObjectBaseModel" ({ cls := "ObjectBaseModel", name := "recover", desc := "()I" } : Jvm.MethodName) ({ cls := "ObjectBaseModel", name := "recover", desc := "()I" } : Jvm.MethodName)) ∈ obW := lw_at 1099 (by decide +kernel) (by decide +kernel)
theorem tw1100 : (Jvm.Cond.code ({ cls := "ObjectBaseModel", name := "recover", desc := "()I" } : Jvm.MethodName) prog_13_method_30_code (2 : Nat) (Option.some Jvm.ClassFile.FieldType.int)) ∈ obW := lw_at 1100 (by decide +kernel) (by decide +kernel)
theorem tw1101 : (Jvm.Cond.methodLink "ObjectBaseLaw" (85 : Nat) ({ cls := "ObjectBaseModel", name := "classOf", desc := "(I)I" } : Jvm.MethodName)) ∈ obW := lw_at 1101 (by decide +kernel) (by decide +kernel)
theorem tw1102 : (Jvm.Cond.instanceMethod ({ cls := "ObjectBaseModel", name := "classOf", desc := "(I)I" } : Jvm.MethodName)) ∈ obW := lw_at 1102 (by decide +kernel) (by decide +kernel)
theorem tw1103 : (Jvm.Cond.selects "ObjectBaseModel" ({ cls := "ObjectBaseModel", name := "classOf", desc := "(I)I" } : Jvm.MethodName) ({ cls := "ObjectBaseModel", name := "classOf", desc := "(I)I" } : Jvm.MethodName)) ∈ obW := lw_at 1103 (by decide +kernel) (by decide +kernel)
theorem tw1104 : (Jvm.Cond.code ({ cls := "ObjectBaseModel", name := "classOf", desc := "(I)I" } : Jvm.MethodName) prog_13_method_32_code (2 : Nat) (Option.some Jvm.ClassFile.FieldType.int)) ∈ obW := lw_at 1104 (by decide +kernel) (by decide +kernel)
theorem tw1109 : (Jvm.Cond.methodLink "ObjectBaseLaw" (89 : Nat) ({ cls := "ObjectBaseModel", name := "reached", desc := "(I)Z" } : Jvm.MethodName)) ∈ obW := lw_at 1109 (by decide +kernel) (by decide +kernel)
theorem tw1110 : (Jvm.Cond.instanceMethod ({ cls := "ObjectBaseModel", name := "reached", desc := "(I)Z" } : Jvm.MethodName)) ∈ obW := lw_at 1110 (by decide +kernel) (by decide +kernel)
theorem tw1111 : (Jvm.Cond.selects "ObjectBaseModel" ({ cls := "ObjectBaseModel", name := "reached", desc := "(I)Z" } : Jvm.MethodName) ({ cls := "ObjectBaseModel", name := "reached", desc := "(I)Z" } : Jvm.MethodName)) ∈ obW := lw_at 1111 (by decide +kernel) (by decide +kernel)
theorem tw1112 : (Jvm.Cond.code ({ cls := "ObjectBaseModel", name := "reached", desc := "(I)Z" } : Jvm.MethodName) prog_13_method_33_code (2 : Nat) (Option.some Jvm.ClassFile.FieldType.boolean)) ∈ obW := lw_at 1112 (by decide +kernel) (by decide +kernel)
theorem tw1113 : (Jvm.Cond.methodLink "ObjectBaseLaw" (94 : Nat) ({ cls := "ObjectBaseModel", name := "get", desc := "(II)I" } : Jvm.MethodName)) ∈ obW := lw_at 1113 (by decide +kernel) (by decide +kernel)
theorem tw1114 : (Jvm.Cond.instanceMethod ({ cls := "ObjectBaseModel", name := "get", desc := "(II)I" } : Jvm.MethodName)) ∈ obW := lw_at 1114 (by decide +kernel) (by decide +kernel)
theorem tw1115 : (Jvm.Cond.selects "ObjectBaseModel" ({ cls := "ObjectBaseModel", name := "get", desc := "(II)I" } : Jvm.MethodName) ({ cls := "ObjectBaseModel", name := "get", desc := "(II)I" } : Jvm.MethodName)) ∈ obW := lw_at 1115 (by decide +kernel) (by decide +kernel)
theorem tw1116 : (Jvm.Cond.code ({ cls := "ObjectBaseModel", name := "get", desc := "(II)I" } : Jvm.MethodName) prog_13_method_34_code (4 : Nat) (Option.some Jvm.ClassFile.FieldType.int)) ∈ obW := lw_at 1116 (by decide +kernel) (by decide +kernel)
theorem tw1117 : (Jvm.Cond.methodLink "ObjectBaseLaw" (98 : Nat) ({ cls := "ObjectBaseModel", name := "holds", desc := "(III)Z" } : Jvm.MethodName)) ∈ obW := lw_at 1117 (by decide +kernel) (by decide +kernel)
theorem tw1118 : (Jvm.Cond.instanceMethod ({ cls := "ObjectBaseModel", name := "holds", desc := "(III)Z" } : Jvm.MethodName)) ∈ obW := lw_at 1118 (by decide +kernel) (by decide +kernel)
theorem tw1119 : (Jvm.Cond.selects "ObjectBaseModel" ({ cls := "ObjectBaseModel", name := "holds", desc := "(III)Z" } : Jvm.MethodName) ({ cls := "ObjectBaseModel", name := "holds", desc := "(III)Z" } : Jvm.MethodName)) ∈ obW := lw_at 1119 (by decide +kernel) (by decide +kernel)
theorem tw1120 : (Jvm.Cond.code ({ cls := "ObjectBaseModel", name := "holds", desc := "(III)Z" } : Jvm.MethodName) prog_13_method_35_code (4 : Nat) (Option.some Jvm.ClassFile.FieldType.boolean)) ∈ obW := lw_at 1120 (by decide +kernel) (by decide +kernel)
theorem tw1121 : (Jvm.Cond.methodLink "ObjectBaseLaw" (102 : Nat) ({ cls := "ObjectBaseModel", name := "named", desc := "(I)I" } : Jvm.MethodName)) ∈ obW := lw_at 1121 (by decide +kernel) (by decide +kernel)
theorem tw1122 : (Jvm.Cond.instanceMethod ({ cls := "ObjectBaseModel", name := "named", desc := "(I)I" } : Jvm.MethodName)) ∈ obW := lw_at 1122 (by decide +kernel) (by decide +kernel)
theorem tw1123 : (Jvm.Cond.selects "ObjectBaseModel" ({ cls := "ObjectBaseModel", name := "named", desc := "(I)I" } : Jvm.MethodName) ({ cls := "ObjectBaseModel", name := "named", desc := "(I)I" } : Jvm.MethodName)) ∈ obW := lw_at 1123 (by decide +kernel) (by decide +kernel)
theorem tw1124 : (Jvm.Cond.code ({ cls := "ObjectBaseModel", name := "named", desc := "(I)I" } : Jvm.MethodName) prog_13_method_36_code (2 : Nat) (Option.some Jvm.ClassFile.FieldType.int)) ∈ obW := lw_at 1124 (by decide +kernel) (by decide +kernel)
theorem tw1125 : (Jvm.Cond.methodLink "ObjectBaseLaw" (109 : Nat) ({ cls := "ObjectBaseModel", name := "draft", desc := "(J)Z" } : Jvm.MethodName)) ∈ obW := lw_at 1125 (by decide +kernel) (by decide +kernel)
theorem tw1126 : (Jvm.Cond.instanceMethod ({ cls := "ObjectBaseModel", name := "draft", desc := "(J)Z" } : Jvm.MethodName)) ∈ obW := lw_at 1126 (by decide +kernel) (by decide +kernel)
theorem tw1127 : (Jvm.Cond.selects "ObjectBaseModel" ({ cls := "ObjectBaseModel", name := "draft", desc := "(J)Z" } : Jvm.MethodName) ({ cls := "ObjectBaseModel", name := "draft", desc := "(J)Z" } : Jvm.MethodName)) ∈ obW := lw_at 1127 (by decide +kernel) (by decide +kernel)
theorem tw1128 : (Jvm.Cond.code ({ cls := "ObjectBaseModel", name := "draft", desc := "(J)Z" } : Jvm.MethodName) prog_13_method_37_code (7 : Nat) (Option.some Jvm.ClassFile.FieldType.boolean)) ∈ obW := lw_at 1128 (by decide +kernel) (by decide +kernel)
theorem tw1132 : (Jvm.Cond.methodLink "ObjectBaseLaw" (113 : Nat) ({ cls := "ObjectBaseModel", name := "prepare", desc := "()I" } : Jvm.MethodName)) ∈ obW := lw_at 1132 (by decide +kernel) (by decide +kernel)
theorem tw1133 : (Jvm.Cond.instanceMethod ({ cls := "ObjectBaseModel", name := "prepare", desc := "()I" } : Jvm.MethodName)) ∈ obW := lw_at 1133 (by decide +kernel) (by decide +kernel)
theorem tw1134 : (Jvm.Cond.selects "ObjectBaseModel" ({ cls := "ObjectBaseModel", name := "prepare", desc := "()I" } : Jvm.MethodName) ({ cls := "ObjectBaseModel", name := "prepare", desc := "()I" } : Jvm.MethodName)) ∈ obW := lw_at 1134 (by decide +kernel) (by decide +kernel)
theorem tw1135 : (Jvm.Cond.code ({ cls := "ObjectBaseModel", name := "prepare", desc := "()I" } : Jvm.MethodName) prog_13_method_54_code (5 : Nat) (Option.some Jvm.ClassFile.FieldType.int)) ∈ obW := lw_at 1135 (by decide +kernel) (by decide +kernel)
theorem tw1201 : (Jvm.Cond.methodLink "ObjectBaseLaw" (117 : Nat) ({ cls := "ObjectBaseModel", name := "ask", desc := "(I)I" } : Jvm.MethodName)) ∈ obW := lw_at 1201 (by decide +kernel) (by decide +kernel)
theorem tw1202 : (Jvm.Cond.instanceMethod ({ cls := "ObjectBaseModel", name := "ask", desc := "(I)I" } : Jvm.MethodName)) ∈ obW := lw_at 1202 (by decide +kernel) (by decide +kernel)
theorem tw1203 : (Jvm.Cond.selects "ObjectBaseModel" ({ cls := "ObjectBaseModel", name := "ask", desc := "(I)I" } : Jvm.MethodName) ({ cls := "ObjectBaseModel", name := "ask", desc := "(I)I" } : Jvm.MethodName)) ∈ obW := lw_at 1203 (by decide +kernel) (by decide +kernel)
theorem tw1204 : (Jvm.Cond.code ({ cls := "ObjectBaseModel", name := "ask", desc := "(I)I" } : Jvm.MethodName) prog_13_method_66_code (6 : Nat) (Option.some Jvm.ClassFile.FieldType.int)) ∈ obW := lw_at 1204 (by decide +kernel) (by decide +kernel)
theorem tw1253 : (Jvm.Cond.methodLink "ObjectBaseLaw" (122 : Nat) ({ cls := "ObjectBaseModel", name := "sum", desc := "()J" } : Jvm.MethodName)) ∈ obW := lw_at 1253 (by decide +kernel) (by decide +kernel)
theorem tw1254 : (Jvm.Cond.instanceMethod ({ cls := "ObjectBaseModel", name := "sum", desc := "()J" } : Jvm.MethodName)) ∈ obW := lw_at 1254 (by decide +kernel) (by decide +kernel)
theorem tw1255 : (Jvm.Cond.selects "ObjectBaseModel" ({ cls := "ObjectBaseModel", name := "sum", desc := "()J" } : Jvm.MethodName) ({ cls := "ObjectBaseModel", name := "sum", desc := "()J" } : Jvm.MethodName)) ∈ obW := lw_at 1255 (by decide +kernel) (by decide +kernel)
theorem tw1256 : (Jvm.Cond.code ({ cls := "ObjectBaseModel", name := "sum", desc := "()J" } : Jvm.MethodName) prog_13_method_68_code (1 : Nat) (Option.some Jvm.ClassFile.FieldType.long)) ∈ obW := lw_at 1256 (by decide +kernel) (by decide +kernel)
theorem tw1257 : (Jvm.Cond.methodLink "ObjectBaseLaw" (126 : Nat) ({ cls := "ObjectBaseModel", name := "hit", desc := "(I)I" } : Jvm.MethodName)) ∈ obW := lw_at 1257 (by decide +kernel) (by decide +kernel)
theorem tw1258 : (Jvm.Cond.instanceMethod ({ cls := "ObjectBaseModel", name := "hit", desc := "(I)I" } : Jvm.MethodName)) ∈ obW := lw_at 1258 (by decide +kernel) (by decide +kernel)
theorem tw1259 : (Jvm.Cond.selects "ObjectBaseModel" ({ cls := "ObjectBaseModel", name := "hit", desc := "(I)I" } : Jvm.MethodName) ({ cls := "ObjectBaseModel", name := "hit", desc := "(I)I" } : Jvm.MethodName)) ∈ obW := lw_at 1259 (by decide +kernel) (by decide +kernel)
theorem tw1260 : (Jvm.Cond.code ({ cls := "ObjectBaseModel", name := "hit", desc := "(I)I" } : Jvm.MethodName) prog_13_method_69_code (2 : Nat) (Option.some Jvm.ClassFile.FieldType.int)) ∈ obW := lw_at 1260 (by decide +kernel) (by decide +kernel)
theorem tw1261 : (Jvm.Cond.methodLink "ObjectBaseLaw" (130 : Nat) ({ cls := "ObjectBaseModel", name := "look", desc := "(I)I" } : Jvm.MethodName)) ∈ obW := lw_at 1261 (by decide +kernel) (by decide +kernel)
theorem tw1262 : (Jvm.Cond.instanceMethod ({ cls := "ObjectBaseModel", name := "look", desc := "(I)I" } : Jvm.MethodName)) ∈ obW := lw_at 1262 (by decide +kernel) (by decide +kernel)
theorem tw1263 : (Jvm.Cond.selects "ObjectBaseModel" ({ cls := "ObjectBaseModel", name := "look", desc := "(I)I" } : Jvm.MethodName) ({ cls := "ObjectBaseModel", name := "look", desc := "(I)I" } : Jvm.MethodName)) ∈ obW := lw_at 1263 (by decide +kernel) (by decide +kernel)
theorem tw1264 : (Jvm.Cond.code ({ cls := "ObjectBaseModel", name := "look", desc := "(I)I" } : Jvm.MethodName) prog_13_method_70_code (2 : Nat) (Option.some Jvm.ClassFile.FieldType.int)) ∈ obW := lw_at 1264 (by decide +kernel) (by decide +kernel)
theorem tw1265 : (Jvm.Cond.constantLong "ObjectBaseLaw" (103 : Nat) (4294967295 : Int64)) ∈ obW := lw_at 1265 (by decide +kernel) (by decide +kernel)
theorem dL_0 : decode code 0 = .ok (.new 7, 3) := by decide +kernel
theorem dL_3 : decode code 3 = .ok (.dup, 1) := by decide +kernel
theorem dL_4 : decode code 4 = .ok (.invokespecial 9, 3) := by decide +kernel
theorem dL_7 : decode code 7 = .ok (.astore_n 1, 1) := by decide +kernel
theorem dL_8 : decode code 8 = .ok (.new 10, 3) := by decide +kernel
theorem dL_11 : decode code 11 = .ok (.dup, 1) := by decide +kernel
theorem dL_12 : decode code 12 = .ok (.invokespecial 12, 3) := by decide +kernel
theorem dL_15 : decode code 15 = .ok (.astore_n 2, 1) := by decide +kernel
theorem dL_16 : decode code 16 = .ok (.iconst 0, 1) := by decide +kernel
theorem dL_17 : decode code 17 = .ok (.istore_n 3, 1) := by decide +kernel
theorem dL_18 : decode code 18 = .ok (.iload_n 3, 1) := by decide +kernel
theorem dL_19 : decode code 19 = .ok (.aload_n 0, 1) := by decide +kernel
theorem dL_20 : decode code 20 = .ok (.arraylength, 1) := by decide +kernel
theorem dL_21 : decode code 21 = .ok (.iconst 5, 1) := by decide +kernel
theorem dL_22 : decode code 22 = .ok (.isub, 1) := by decide +kernel
theorem dL_23 : decode code 23 = .ok (.if_icmp .gt 860, 3) := by decide +kernel
theorem dL_26 : decode code 26 = .ok (.aload_n 0, 1) := by decide +kernel
theorem dL_27 : decode code 27 = .ok (.iload_n 3, 1) := by decide +kernel
theorem dL_28 : decode code 28 = .ok (.iaload, 1) := by decide +kernel
theorem dL_29 : decode code 29 = .ok (.bipush 31, 2) := by decide +kernel
theorem dL_31 : decode code 31 = .ok (.iand, 1) := by decide +kernel
theorem dL_32 : decode code 32 = .ok (.tableswitch 845 0 25 #[120, 143, 186, 239, 252, 275, 318, 361, 430, 463, 476, 489, 502, 525, 538, 551, 574, 597, 630, 673, 696, 749, 762, 785, 799, 822], 120) := by decide +kernel
theorem dL_152 : decode code 152 = .ok (.aload_n 1, 1) := by decide +kernel
theorem dL_153 : decode code 153 = .ok (.aload_n 0, 1) := by decide +kernel
theorem dL_154 : decode code 154 = .ok (.iload_n 3, 1) := by decide +kernel
theorem dL_155 : decode code 155 = .ok (.iconst 1, 1) := by decide +kernel
theorem dL_156 : decode code 156 = .ok (.iadd, 1) := by decide +kernel
theorem dL_157 : decode code 157 = .ok (.iaload, 1) := by decide +kernel
theorem dL_158 : decode code 158 = .ok (.invokevirtual 13, 3) := by decide +kernel
theorem dL_161 : decode code 161 = .ok (.aload_n 2, 1) := by decide +kernel
theorem dL_162 : decode code 162 = .ok (.aload_n 0, 1) := by decide +kernel
theorem dL_163 : decode code 163 = .ok (.iload_n 3, 1) := by decide +kernel
theorem dL_164 : decode code 164 = .ok (.iconst 1, 1) := by decide +kernel
theorem dL_165 : decode code 165 = .ok (.iadd, 1) := by decide +kernel
theorem dL_166 : decode code 166 = .ok (.iaload, 1) := by decide +kernel
theorem dL_167 : decode code 167 = .ok (.invokevirtual 17, 3) := by decide +kernel
theorem dL_170 : decode code 170 = .ok (.if_icmp .eq 707, 3) := by decide +kernel
theorem dL_173 : decode code 173 = .ok (.iconst 0, 1) := by decide +kernel
theorem dL_174 : decode code 174 = .ok (.ireturn, 1) := by decide +kernel
theorem dL_175 : decode code 175 = .ok (.aload_n 1, 1) := by decide +kernel
theorem dL_176 : decode code 176 = .ok (.aload_n 0, 1) := by decide +kernel
theorem dL_177 : decode code 177 = .ok (.iload_n 3, 1) := by decide +kernel
theorem dL_178 : decode code 178 = .ok (.iconst 1, 1) := by decide +kernel
theorem dL_179 : decode code 179 = .ok (.iadd, 1) := by decide +kernel
theorem dL_180 : decode code 180 = .ok (.iaload, 1) := by decide +kernel
theorem dL_181 : decode code 181 = .ok (.aload_n 0, 1) := by decide +kernel
theorem dL_182 : decode code 182 = .ok (.iload_n 3, 1) := by decide +kernel
theorem dL_183 : decode code 183 = .ok (.iconst 2, 1) := by decide +kernel
theorem dL_184 : decode code 184 = .ok (.iadd, 1) := by decide +kernel
theorem dL_185 : decode code 185 = .ok (.iaload, 1) := by decide +kernel
theorem dL_186 : decode code 186 = .ok (.aload_n 0, 1) := by decide +kernel
theorem dL_187 : decode code 187 = .ok (.iload_n 3, 1) := by decide +kernel
theorem dL_188 : decode code 188 = .ok (.iconst 3, 1) := by decide +kernel
theorem dL_189 : decode code 189 = .ok (.iadd, 1) := by decide +kernel
theorem dL_190 : decode code 190 = .ok (.iaload, 1) := by decide +kernel
theorem dL_191 : decode code 191 = .ok (.invokevirtual 18, 3) := by decide +kernel
theorem dL_194 : decode code 194 = .ok (.aload_n 2, 1) := by decide +kernel
theorem dL_195 : decode code 195 = .ok (.aload_n 0, 1) := by decide +kernel
theorem dL_196 : decode code 196 = .ok (.iload_n 3, 1) := by decide +kernel
theorem dL_197 : decode code 197 = .ok (.iconst 1, 1) := by decide +kernel
theorem dL_198 : decode code 198 = .ok (.iadd, 1) := by decide +kernel
theorem dL_199 : decode code 199 = .ok (.iaload, 1) := by decide +kernel
theorem dL_200 : decode code 200 = .ok (.aload_n 0, 1) := by decide +kernel
theorem dL_201 : decode code 201 = .ok (.iload_n 3, 1) := by decide +kernel
theorem dL_202 : decode code 202 = .ok (.iconst 2, 1) := by decide +kernel
theorem dL_203 : decode code 203 = .ok (.iadd, 1) := by decide +kernel
theorem dL_204 : decode code 204 = .ok (.iaload, 1) := by decide +kernel
theorem dL_205 : decode code 205 = .ok (.aload_n 0, 1) := by decide +kernel
theorem dL_206 : decode code 206 = .ok (.iload_n 3, 1) := by decide +kernel
theorem dL_207 : decode code 207 = .ok (.iconst 3, 1) := by decide +kernel
theorem dL_208 : decode code 208 = .ok (.iadd, 1) := by decide +kernel
theorem dL_209 : decode code 209 = .ok (.iaload, 1) := by decide +kernel
theorem dL_210 : decode code 210 = .ok (.invokevirtual 22, 3) := by decide +kernel
theorem dL_213 : decode code 213 = .ok (.if_icmp .eq 664, 3) := by decide +kernel
theorem dL_216 : decode code 216 = .ok (.iconst 0, 1) := by decide +kernel
theorem dL_217 : decode code 217 = .ok (.ireturn, 1) := by decide +kernel
theorem dL_218 : decode code 218 = .ok (.aload_n 1, 1) := by decide +kernel
theorem dL_219 : decode code 219 = .ok (.aload_n 0, 1) := by decide +kernel
theorem dL_220 : decode code 220 = .ok (.iload_n 3, 1) := by decide +kernel
theorem dL_221 : decode code 221 = .ok (.iconst 1, 1) := by decide +kernel
theorem dL_222 : decode code 222 = .ok (.iadd, 1) := by decide +kernel
theorem dL_223 : decode code 223 = .ok (.iaload, 1) := by decide +kernel
theorem dL_224 : decode code 224 = .ok (.aload_n 0, 1) := by decide +kernel
theorem dL_225 : decode code 225 = .ok (.iload_n 3, 1) := by decide +kernel
theorem dL_226 : decode code 226 = .ok (.iconst 2, 1) := by decide +kernel
theorem dL_227 : decode code 227 = .ok (.iadd, 1) := by decide +kernel
theorem dL_228 : decode code 228 = .ok (.iaload, 1) := by decide +kernel
theorem dL_229 : decode code 229 = .ok (.aload_n 0, 1) := by decide +kernel
theorem dL_230 : decode code 230 = .ok (.iload_n 3, 1) := by decide +kernel
theorem dL_231 : decode code 231 = .ok (.iconst 3, 1) := by decide +kernel
theorem dL_232 : decode code 232 = .ok (.iadd, 1) := by decide +kernel
theorem dL_233 : decode code 233 = .ok (.iaload, 1) := by decide +kernel
theorem dL_234 : decode code 234 = .ok (.aload_n 0, 1) := by decide +kernel
theorem dL_235 : decode code 235 = .ok (.iload_n 3, 1) := by decide +kernel
theorem dL_236 : decode code 236 = .ok (.iconst 4, 1) := by decide +kernel
theorem dL_237 : decode code 237 = .ok (.iadd, 1) := by decide +kernel
theorem dL_238 : decode code 238 = .ok (.iaload, 1) := by decide +kernel
theorem dL_239 : decode code 239 = .ok (.invokevirtual 23, 3) := by decide +kernel
theorem dL_242 : decode code 242 = .ok (.aload_n 2, 1) := by decide +kernel
theorem dL_243 : decode code 243 = .ok (.aload_n 0, 1) := by decide +kernel
theorem dL_244 : decode code 244 = .ok (.iload_n 3, 1) := by decide +kernel
theorem dL_245 : decode code 245 = .ok (.iconst 1, 1) := by decide +kernel
theorem dL_246 : decode code 246 = .ok (.iadd, 1) := by decide +kernel
theorem dL_247 : decode code 247 = .ok (.iaload, 1) := by decide +kernel
theorem dL_248 : decode code 248 = .ok (.aload_n 0, 1) := by decide +kernel
theorem dL_249 : decode code 249 = .ok (.iload_n 3, 1) := by decide +kernel
theorem dL_250 : decode code 250 = .ok (.iconst 2, 1) := by decide +kernel
theorem dL_251 : decode code 251 = .ok (.iadd, 1) := by decide +kernel
theorem dL_252 : decode code 252 = .ok (.iaload, 1) := by decide +kernel
theorem dL_253 : decode code 253 = .ok (.aload_n 0, 1) := by decide +kernel
theorem dL_254 : decode code 254 = .ok (.iload_n 3, 1) := by decide +kernel
theorem dL_255 : decode code 255 = .ok (.iconst 3, 1) := by decide +kernel
theorem dL_256 : decode code 256 = .ok (.iadd, 1) := by decide +kernel
theorem dL_257 : decode code 257 = .ok (.iaload, 1) := by decide +kernel
theorem dL_258 : decode code 258 = .ok (.aload_n 0, 1) := by decide +kernel
theorem dL_259 : decode code 259 = .ok (.iload_n 3, 1) := by decide +kernel
theorem dL_260 : decode code 260 = .ok (.iconst 4, 1) := by decide +kernel
theorem dL_261 : decode code 261 = .ok (.iadd, 1) := by decide +kernel
theorem dL_262 : decode code 262 = .ok (.iaload, 1) := by decide +kernel
theorem dL_263 : decode code 263 = .ok (.invokevirtual 27, 3) := by decide +kernel
theorem dL_266 : decode code 266 = .ok (.if_icmp .eq 611, 3) := by decide +kernel
theorem dL_269 : decode code 269 = .ok (.iconst 0, 1) := by decide +kernel
theorem dL_270 : decode code 270 = .ok (.ireturn, 1) := by decide +kernel
theorem dL_271 : decode code 271 = .ok (.aload_n 1, 1) := by decide +kernel
theorem dL_272 : decode code 272 = .ok (.invokevirtual 28, 3) := by decide +kernel
theorem dL_275 : decode code 275 = .ok (.aload_n 2, 1) := by decide +kernel
theorem dL_276 : decode code 276 = .ok (.invokevirtual 32, 3) := by decide +kernel
theorem dL_279 : decode code 279 = .ok (.if_icmp .eq 598, 3) := by decide +kernel
theorem dL_282 : decode code 282 = .ok (.iconst 0, 1) := by decide +kernel
theorem dL_283 : decode code 283 = .ok (.ireturn, 1) := by decide +kernel
theorem dL_284 : decode code 284 = .ok (.aload_n 1, 1) := by decide +kernel
theorem dL_285 : decode code 285 = .ok (.aload_n 0, 1) := by decide +kernel
theorem dL_286 : decode code 286 = .ok (.iload_n 3, 1) := by decide +kernel
theorem dL_287 : decode code 287 = .ok (.iconst 1, 1) := by decide +kernel
theorem dL_288 : decode code 288 = .ok (.iadd, 1) := by decide +kernel
theorem dL_289 : decode code 289 = .ok (.iaload, 1) := by decide +kernel
theorem dL_290 : decode code 290 = .ok (.invokevirtual 33, 3) := by decide +kernel
theorem dL_293 : decode code 293 = .ok (.aload_n 2, 1) := by decide +kernel
theorem dL_294 : decode code 294 = .ok (.aload_n 0, 1) := by decide +kernel
theorem dL_295 : decode code 295 = .ok (.iload_n 3, 1) := by decide +kernel
theorem dL_296 : decode code 296 = .ok (.iconst 1, 1) := by decide +kernel
theorem dL_297 : decode code 297 = .ok (.iadd, 1) := by decide +kernel
theorem dL_298 : decode code 298 = .ok (.iaload, 1) := by decide +kernel
theorem dL_299 : decode code 299 = .ok (.invokevirtual 36, 3) := by decide +kernel
theorem dL_302 : decode code 302 = .ok (.if_icmp .eq 575, 3) := by decide +kernel
theorem dL_305 : decode code 305 = .ok (.iconst 0, 1) := by decide +kernel
theorem dL_306 : decode code 306 = .ok (.ireturn, 1) := by decide +kernel
theorem dL_307 : decode code 307 = .ok (.aload_n 1, 1) := by decide +kernel
theorem dL_308 : decode code 308 = .ok (.aload_n 0, 1) := by decide +kernel
theorem dL_309 : decode code 309 = .ok (.iload_n 3, 1) := by decide +kernel
theorem dL_310 : decode code 310 = .ok (.iconst 1, 1) := by decide +kernel
theorem dL_311 : decode code 311 = .ok (.iadd, 1) := by decide +kernel
theorem dL_312 : decode code 312 = .ok (.iaload, 1) := by decide +kernel
theorem dL_313 : decode code 313 = .ok (.aload_n 0, 1) := by decide +kernel
theorem dL_314 : decode code 314 = .ok (.iload_n 3, 1) := by decide +kernel
theorem dL_315 : decode code 315 = .ok (.iconst 2, 1) := by decide +kernel
theorem dL_316 : decode code 316 = .ok (.iadd, 1) := by decide +kernel
theorem dL_317 : decode code 317 = .ok (.iaload, 1) := by decide +kernel
theorem dL_318 : decode code 318 = .ok (.aload_n 0, 1) := by decide +kernel
theorem dL_319 : decode code 319 = .ok (.iload_n 3, 1) := by decide +kernel
theorem dL_320 : decode code 320 = .ok (.iconst 3, 1) := by decide +kernel
theorem dL_321 : decode code 321 = .ok (.iadd, 1) := by decide +kernel
theorem dL_322 : decode code 322 = .ok (.iaload, 1) := by decide +kernel
theorem dL_323 : decode code 323 = .ok (.invokevirtual 37, 3) := by decide +kernel
theorem dL_326 : decode code 326 = .ok (.aload_n 2, 1) := by decide +kernel
theorem dL_327 : decode code 327 = .ok (.aload_n 0, 1) := by decide +kernel
theorem dL_328 : decode code 328 = .ok (.iload_n 3, 1) := by decide +kernel
theorem dL_329 : decode code 329 = .ok (.iconst 1, 1) := by decide +kernel
theorem dL_330 : decode code 330 = .ok (.iadd, 1) := by decide +kernel
theorem dL_331 : decode code 331 = .ok (.iaload, 1) := by decide +kernel
theorem dL_332 : decode code 332 = .ok (.aload_n 0, 1) := by decide +kernel
theorem dL_333 : decode code 333 = .ok (.iload_n 3, 1) := by decide +kernel
theorem dL_334 : decode code 334 = .ok (.iconst 2, 1) := by decide +kernel
theorem dL_335 : decode code 335 = .ok (.iadd, 1) := by decide +kernel
theorem dL_336 : decode code 336 = .ok (.iaload, 1) := by decide +kernel
theorem dL_337 : decode code 337 = .ok (.aload_n 0, 1) := by decide +kernel
theorem dL_338 : decode code 338 = .ok (.iload_n 3, 1) := by decide +kernel
theorem dL_339 : decode code 339 = .ok (.iconst 3, 1) := by decide +kernel
theorem dL_340 : decode code 340 = .ok (.iadd, 1) := by decide +kernel
theorem dL_341 : decode code 341 = .ok (.iaload, 1) := by decide +kernel
theorem dL_342 : decode code 342 = .ok (.invokevirtual 41, 3) := by decide +kernel
theorem dL_345 : decode code 345 = .ok (.if_icmp .eq 532, 3) := by decide +kernel
theorem dL_348 : decode code 348 = .ok (.iconst 0, 1) := by decide +kernel
theorem dL_349 : decode code 349 = .ok (.ireturn, 1) := by decide +kernel
theorem dL_350 : decode code 350 = .ok (.aload_n 1, 1) := by decide +kernel
theorem dL_351 : decode code 351 = .ok (.aload_n 0, 1) := by decide +kernel
theorem dL_352 : decode code 352 = .ok (.iload_n 3, 1) := by decide +kernel
theorem dL_353 : decode code 353 = .ok (.iconst 1, 1) := by decide +kernel
theorem dL_354 : decode code 354 = .ok (.iadd, 1) := by decide +kernel
theorem dL_355 : decode code 355 = .ok (.iaload, 1) := by decide +kernel
theorem dL_356 : decode code 356 = .ok (.aload_n 0, 1) := by decide +kernel
theorem dL_357 : decode code 357 = .ok (.iload_n 3, 1) := by decide +kernel
theorem dL_358 : decode code 358 = .ok (.iconst 2, 1) := by decide +kernel
theorem dL_359 : decode code 359 = .ok (.iadd, 1) := by decide +kernel
theorem dL_360 : decode code 360 = .ok (.iaload, 1) := by decide +kernel
theorem dL_361 : decode code 361 = .ok (.aload_n 0, 1) := by decide +kernel
theorem dL_362 : decode code 362 = .ok (.iload_n 3, 1) := by decide +kernel
theorem dL_363 : decode code 363 = .ok (.iconst 3, 1) := by decide +kernel
theorem dL_364 : decode code 364 = .ok (.iadd, 1) := by decide +kernel
theorem dL_365 : decode code 365 = .ok (.iaload, 1) := by decide +kernel
theorem dL_366 : decode code 366 = .ok (.invokevirtual 42, 3) := by decide +kernel
theorem dL_369 : decode code 369 = .ok (.aload_n 2, 1) := by decide +kernel
theorem dL_370 : decode code 370 = .ok (.aload_n 0, 1) := by decide +kernel
theorem dL_371 : decode code 371 = .ok (.iload_n 3, 1) := by decide +kernel
theorem dL_372 : decode code 372 = .ok (.iconst 1, 1) := by decide +kernel
theorem dL_373 : decode code 373 = .ok (.iadd, 1) := by decide +kernel
theorem dL_374 : decode code 374 = .ok (.iaload, 1) := by decide +kernel
theorem dL_375 : decode code 375 = .ok (.aload_n 0, 1) := by decide +kernel
theorem dL_376 : decode code 376 = .ok (.iload_n 3, 1) := by decide +kernel
theorem dL_377 : decode code 377 = .ok (.iconst 2, 1) := by decide +kernel
theorem dL_378 : decode code 378 = .ok (.iadd, 1) := by decide +kernel
theorem dL_379 : decode code 379 = .ok (.iaload, 1) := by decide +kernel
theorem dL_380 : decode code 380 = .ok (.aload_n 0, 1) := by decide +kernel
theorem dL_381 : decode code 381 = .ok (.iload_n 3, 1) := by decide +kernel
theorem dL_382 : decode code 382 = .ok (.iconst 3, 1) := by decide +kernel
theorem dL_383 : decode code 383 = .ok (.iadd, 1) := by decide +kernel
theorem dL_384 : decode code 384 = .ok (.iaload, 1) := by decide +kernel
theorem dL_385 : decode code 385 = .ok (.invokevirtual 45, 3) := by decide +kernel
theorem dL_388 : decode code 388 = .ok (.if_icmp .eq 489, 3) := by decide +kernel
theorem dL_391 : decode code 391 = .ok (.iconst 0, 1) := by decide +kernel
theorem dL_392 : decode code 392 = .ok (.ireturn, 1) := by decide +kernel
theorem dL_393 : decode code 393 = .ok (.aload_n 1, 1) := by decide +kernel
theorem dL_394 : decode code 394 = .ok (.aload_n 0, 1) := by decide +kernel
theorem dL_395 : decode code 395 = .ok (.iload_n 3, 1) := by decide +kernel
theorem dL_396 : decode code 396 = .ok (.iconst 1, 1) := by decide +kernel
theorem dL_397 : decode code 397 = .ok (.iadd, 1) := by decide +kernel
theorem dL_398 : decode code 398 = .ok (.iaload, 1) := by decide +kernel
theorem dL_399 : decode code 399 = .ok (.aload_n 0, 1) := by decide +kernel
theorem dL_400 : decode code 400 = .ok (.iload_n 3, 1) := by decide +kernel
theorem dL_401 : decode code 401 = .ok (.iconst 2, 1) := by decide +kernel
theorem dL_402 : decode code 402 = .ok (.iadd, 1) := by decide +kernel
theorem dL_403 : decode code 403 = .ok (.iaload, 1) := by decide +kernel
theorem dL_404 : decode code 404 = .ok (.aload_n 0, 1) := by decide +kernel
theorem dL_405 : decode code 405 = .ok (.iload_n 3, 1) := by decide +kernel
theorem dL_406 : decode code 406 = .ok (.iconst 3, 1) := by decide +kernel
theorem dL_407 : decode code 407 = .ok (.iadd, 1) := by decide +kernel
theorem dL_408 : decode code 408 = .ok (.iaload, 1) := by decide +kernel
theorem dL_409 : decode code 409 = .ok (.aload_n 0, 1) := by decide +kernel
theorem dL_410 : decode code 410 = .ok (.iload_n 3, 1) := by decide +kernel
theorem dL_411 : decode code 411 = .ok (.iconst 4, 1) := by decide +kernel
theorem dL_412 : decode code 412 = .ok (.iadd, 1) := by decide +kernel
theorem dL_413 : decode code 413 = .ok (.iaload, 1) := by decide +kernel
theorem dL_414 : decode code 414 = .ok (.ifCond .eq 7, 3) := by decide +kernel
theorem dL_417 : decode code 417 = .ok (.iconst 1, 1) := by decide +kernel
theorem dL_418 : decode code 418 = .ok (.goto 4, 3) := by decide +kernel
theorem dL_421 : decode code 421 = .ok (.iconst 0, 1) := by decide +kernel
theorem dL_422 : decode code 422 = .ok (.invokevirtual 46, 3) := by decide +kernel
theorem dL_425 : decode code 425 = .ok (.aload_n 2, 1) := by decide +kernel
theorem dL_426 : decode code 426 = .ok (.aload_n 0, 1) := by decide +kernel
theorem dL_427 : decode code 427 = .ok (.iload_n 3, 1) := by decide +kernel
theorem dL_428 : decode code 428 = .ok (.iconst 1, 1) := by decide +kernel
theorem dL_429 : decode code 429 = .ok (.iadd, 1) := by decide +kernel
theorem dL_430 : decode code 430 = .ok (.iaload, 1) := by decide +kernel
theorem dL_431 : decode code 431 = .ok (.aload_n 0, 1) := by decide +kernel
theorem dL_432 : decode code 432 = .ok (.iload_n 3, 1) := by decide +kernel
theorem dL_433 : decode code 433 = .ok (.iconst 2, 1) := by decide +kernel
theorem dL_434 : decode code 434 = .ok (.iadd, 1) := by decide +kernel
theorem dL_435 : decode code 435 = .ok (.iaload, 1) := by decide +kernel
theorem dL_436 : decode code 436 = .ok (.aload_n 0, 1) := by decide +kernel
theorem dL_437 : decode code 437 = .ok (.iload_n 3, 1) := by decide +kernel
theorem dL_438 : decode code 438 = .ok (.iconst 3, 1) := by decide +kernel
theorem dL_439 : decode code 439 = .ok (.iadd, 1) := by decide +kernel
theorem dL_440 : decode code 440 = .ok (.iaload, 1) := by decide +kernel
theorem dL_441 : decode code 441 = .ok (.aload_n 0, 1) := by decide +kernel
theorem dL_442 : decode code 442 = .ok (.iload_n 3, 1) := by decide +kernel
theorem dL_443 : decode code 443 = .ok (.iconst 4, 1) := by decide +kernel
theorem dL_444 : decode code 444 = .ok (.iadd, 1) := by decide +kernel
theorem dL_445 : decode code 445 = .ok (.iaload, 1) := by decide +kernel
theorem dL_446 : decode code 446 = .ok (.ifCond .eq 7, 3) := by decide +kernel
theorem dL_449 : decode code 449 = .ok (.iconst 1, 1) := by decide +kernel
theorem dL_450 : decode code 450 = .ok (.goto 4, 3) := by decide +kernel
theorem dL_453 : decode code 453 = .ok (.iconst 0, 1) := by decide +kernel
theorem dL_454 : decode code 454 = .ok (.invokevirtual 50, 3) := by decide +kernel
theorem dL_457 : decode code 457 = .ok (.if_icmp .eq 420, 3) := by decide +kernel
theorem dL_460 : decode code 460 = .ok (.iconst 0, 1) := by decide +kernel
theorem dL_461 : decode code 461 = .ok (.ireturn, 1) := by decide +kernel
theorem dL_462 : decode code 462 = .ok (.aload_n 1, 1) := by decide +kernel
theorem dL_463 : decode code 463 = .ok (.aload_n 0, 1) := by decide +kernel
theorem dL_464 : decode code 464 = .ok (.iload_n 3, 1) := by decide +kernel
theorem dL_465 : decode code 465 = .ok (.iconst 1, 1) := by decide +kernel
theorem dL_466 : decode code 466 = .ok (.iadd, 1) := by decide +kernel
theorem dL_467 : decode code 467 = .ok (.iaload, 1) := by decide +kernel
theorem dL_468 : decode code 468 = .ok (.aload_n 0, 1) := by decide +kernel
theorem dL_469 : decode code 469 = .ok (.iload_n 3, 1) := by decide +kernel
theorem dL_470 : decode code 470 = .ok (.iconst 2, 1) := by decide +kernel
theorem dL_471 : decode code 471 = .ok (.iadd, 1) := by decide +kernel
theorem dL_472 : decode code 472 = .ok (.iaload, 1) := by decide +kernel
theorem dL_473 : decode code 473 = .ok (.invokevirtual 51, 3) := by decide +kernel
theorem dL_476 : decode code 476 = .ok (.aload_n 2, 1) := by decide +kernel
theorem dL_477 : decode code 477 = .ok (.aload_n 0, 1) := by decide +kernel
theorem dL_478 : decode code 478 = .ok (.iload_n 3, 1) := by decide +kernel
theorem dL_479 : decode code 479 = .ok (.iconst 1, 1) := by decide +kernel
theorem dL_480 : decode code 480 = .ok (.iadd, 1) := by decide +kernel
theorem dL_481 : decode code 481 = .ok (.iaload, 1) := by decide +kernel
theorem dL_482 : decode code 482 = .ok (.aload_n 0, 1) := by decide +kernel
theorem dL_483 : decode code 483 = .ok (.iload_n 3, 1) := by decide +kernel
theorem dL_484 : decode code 484 = .ok (.iconst 2, 1) := by decide +kernel
theorem dL_485 : decode code 485 = .ok (.iadd, 1) := by decide +kernel
theorem dL_486 : decode code 486 = .ok (.iaload, 1) := by decide +kernel
theorem dL_487 : decode code 487 = .ok (.invokevirtual 55, 3) := by decide +kernel
theorem dL_490 : decode code 490 = .ok (.if_icmp .eq 387, 3) := by decide +kernel
theorem dL_493 : decode code 493 = .ok (.iconst 0, 1) := by decide +kernel
theorem dL_494 : decode code 494 = .ok (.ireturn, 1) := by decide +kernel
theorem dL_495 : decode code 495 = .ok (.aload_n 1, 1) := by decide +kernel
theorem dL_496 : decode code 496 = .ok (.invokevirtual 56, 3) := by decide +kernel
theorem dL_499 : decode code 499 = .ok (.aload_n 2, 1) := by decide +kernel
theorem dL_500 : decode code 500 = .ok (.invokevirtual 60, 3) := by decide +kernel
theorem dL_503 : decode code 503 = .ok (.if_icmp .eq 374, 3) := by decide +kernel
theorem dL_506 : decode code 506 = .ok (.iconst 0, 1) := by decide +kernel
theorem dL_507 : decode code 507 = .ok (.ireturn, 1) := by decide +kernel
theorem dL_508 : decode code 508 = .ok (.aload_n 1, 1) := by decide +kernel
theorem dL_509 : decode code 509 = .ok (.invokevirtual 61, 3) := by decide +kernel
theorem dL_512 : decode code 512 = .ok (.aload_n 2, 1) := by decide +kernel
theorem dL_513 : decode code 513 = .ok (.invokevirtual 64, 3) := by decide +kernel
theorem dL_516 : decode code 516 = .ok (.if_icmp .eq 361, 3) := by decide +kernel
theorem dL_519 : decode code 519 = .ok (.iconst 0, 1) := by decide +kernel
theorem dL_520 : decode code 520 = .ok (.ireturn, 1) := by decide +kernel
theorem dL_521 : decode code 521 = .ok (.aload_n 1, 1) := by decide +kernel
theorem dL_522 : decode code 522 = .ok (.invokevirtual 65, 3) := by decide +kernel
theorem dL_525 : decode code 525 = .ok (.aload_n 2, 1) := by decide +kernel
theorem dL_526 : decode code 526 = .ok (.invokevirtual 68, 3) := by decide +kernel
theorem dL_529 : decode code 529 = .ok (.if_icmp .eq 348, 3) := by decide +kernel
theorem dL_532 : decode code 532 = .ok (.iconst 0, 1) := by decide +kernel
theorem dL_533 : decode code 533 = .ok (.ireturn, 1) := by decide +kernel
theorem dL_534 : decode code 534 = .ok (.aload_n 1, 1) := by decide +kernel
theorem dL_535 : decode code 535 = .ok (.aload_n 0, 1) := by decide +kernel
theorem dL_536 : decode code 536 = .ok (.iload_n 3, 1) := by decide +kernel
theorem dL_537 : decode code 537 = .ok (.iconst 1, 1) := by decide +kernel
theorem dL_538 : decode code 538 = .ok (.iadd, 1) := by decide +kernel
theorem dL_539 : decode code 539 = .ok (.iaload, 1) := by decide +kernel
theorem dL_540 : decode code 540 = .ok (.invokevirtual 69, 3) := by decide +kernel
theorem dL_543 : decode code 543 = .ok (.aload_n 2, 1) := by decide +kernel
theorem dL_544 : decode code 544 = .ok (.aload_n 0, 1) := by decide +kernel
theorem dL_545 : decode code 545 = .ok (.iload_n 3, 1) := by decide +kernel
theorem dL_546 : decode code 546 = .ok (.iconst 1, 1) := by decide +kernel
theorem dL_547 : decode code 547 = .ok (.iadd, 1) := by decide +kernel
theorem dL_548 : decode code 548 = .ok (.iaload, 1) := by decide +kernel
theorem dL_549 : decode code 549 = .ok (.invokevirtual 73, 3) := by decide +kernel
theorem dL_552 : decode code 552 = .ok (.if_icmp .eq 325, 3) := by decide +kernel
theorem dL_555 : decode code 555 = .ok (.iconst 0, 1) := by decide +kernel
theorem dL_556 : decode code 556 = .ok (.ireturn, 1) := by decide +kernel
theorem dL_557 : decode code 557 = .ok (.aload_n 1, 1) := by decide +kernel
theorem dL_558 : decode code 558 = .ok (.invokevirtual 74, 3) := by decide +kernel
theorem dL_561 : decode code 561 = .ok (.aload_n 2, 1) := by decide +kernel
theorem dL_562 : decode code 562 = .ok (.invokevirtual 77, 3) := by decide +kernel
theorem dL_565 : decode code 565 = .ok (.if_icmp .eq 312, 3) := by decide +kernel
theorem dL_568 : decode code 568 = .ok (.iconst 0, 1) := by decide +kernel
theorem dL_569 : decode code 569 = .ok (.ireturn, 1) := by decide +kernel
theorem dL_570 : decode code 570 = .ok (.aload_n 1, 1) := by decide +kernel
theorem dL_571 : decode code 571 = .ok (.invokevirtual 78, 3) := by decide +kernel
theorem dL_574 : decode code 574 = .ok (.aload_n 2, 1) := by decide +kernel
theorem dL_575 : decode code 575 = .ok (.invokevirtual 81, 3) := by decide +kernel
theorem dL_578 : decode code 578 = .ok (.if_icmp .eq 299, 3) := by decide +kernel
theorem dL_581 : decode code 581 = .ok (.iconst 0, 1) := by decide +kernel
theorem dL_582 : decode code 582 = .ok (.ireturn, 1) := by decide +kernel
theorem dL_583 : decode code 583 = .ok (.aload_n 1, 1) := by decide +kernel
theorem dL_584 : decode code 584 = .ok (.aload_n 0, 1) := by decide +kernel
theorem dL_585 : decode code 585 = .ok (.iload_n 3, 1) := by decide +kernel
theorem dL_586 : decode code 586 = .ok (.iconst 1, 1) := by decide +kernel
theorem dL_587 : decode code 587 = .ok (.iadd, 1) := by decide +kernel
theorem dL_588 : decode code 588 = .ok (.iaload, 1) := by decide +kernel
theorem dL_589 : decode code 589 = .ok (.invokevirtual 82, 3) := by decide +kernel
theorem dL_592 : decode code 592 = .ok (.aload_n 2, 1) := by decide +kernel
theorem dL_593 : decode code 593 = .ok (.aload_n 0, 1) := by decide +kernel
theorem dL_594 : decode code 594 = .ok (.iload_n 3, 1) := by decide +kernel
theorem dL_595 : decode code 595 = .ok (.iconst 1, 1) := by decide +kernel
theorem dL_596 : decode code 596 = .ok (.iadd, 1) := by decide +kernel
theorem dL_597 : decode code 597 = .ok (.iaload, 1) := by decide +kernel
theorem dL_598 : decode code 598 = .ok (.invokevirtual 85, 3) := by decide +kernel
theorem dL_601 : decode code 601 = .ok (.if_icmp .eq 276, 3) := by decide +kernel
theorem dL_604 : decode code 604 = .ok (.iconst 0, 1) := by decide +kernel
theorem dL_605 : decode code 605 = .ok (.ireturn, 1) := by decide +kernel
theorem dL_606 : decode code 606 = .ok (.aload_n 1, 1) := by decide +kernel
theorem dL_607 : decode code 607 = .ok (.aload_n 0, 1) := by decide +kernel
theorem dL_608 : decode code 608 = .ok (.iload_n 3, 1) := by decide +kernel
theorem dL_609 : decode code 609 = .ok (.iconst 1, 1) := by decide +kernel
theorem dL_610 : decode code 610 = .ok (.iadd, 1) := by decide +kernel
theorem dL_611 : decode code 611 = .ok (.iaload, 1) := by decide +kernel
theorem dL_612 : decode code 612 = .ok (.invokevirtual 86, 3) := by decide +kernel
theorem dL_615 : decode code 615 = .ok (.aload_n 2, 1) := by decide +kernel
theorem dL_616 : decode code 616 = .ok (.aload_n 0, 1) := by decide +kernel
theorem dL_617 : decode code 617 = .ok (.iload_n 3, 1) := by decide +kernel
theorem dL_618 : decode code 618 = .ok (.iconst 1, 1) := by decide +kernel
theorem dL_619 : decode code 619 = .ok (.iadd, 1) := by decide +kernel
theorem dL_620 : decode code 620 = .ok (.iaload, 1) := by decide +kernel
theorem dL_621 : decode code 621 = .ok (.invokevirtual 89, 3) := by decide +kernel
theorem dL_624 : decode code 624 = .ok (.if_icmp .eq 253, 3) := by decide +kernel
theorem dL_627 : decode code 627 = .ok (.iconst 0, 1) := by decide +kernel
theorem dL_628 : decode code 628 = .ok (.ireturn, 1) := by decide +kernel
theorem dL_629 : decode code 629 = .ok (.aload_n 1, 1) := by decide +kernel
theorem dL_630 : decode code 630 = .ok (.aload_n 0, 1) := by decide +kernel
theorem dL_631 : decode code 631 = .ok (.iload_n 3, 1) := by decide +kernel
theorem dL_632 : decode code 632 = .ok (.iconst 1, 1) := by decide +kernel
theorem dL_633 : decode code 633 = .ok (.iadd, 1) := by decide +kernel
theorem dL_634 : decode code 634 = .ok (.iaload, 1) := by decide +kernel
theorem dL_635 : decode code 635 = .ok (.aload_n 0, 1) := by decide +kernel
theorem dL_636 : decode code 636 = .ok (.iload_n 3, 1) := by decide +kernel
theorem dL_637 : decode code 637 = .ok (.iconst 2, 1) := by decide +kernel
theorem dL_638 : decode code 638 = .ok (.iadd, 1) := by decide +kernel
theorem dL_639 : decode code 639 = .ok (.iaload, 1) := by decide +kernel
theorem dL_640 : decode code 640 = .ok (.invokevirtual 90, 3) := by decide +kernel
theorem dL_643 : decode code 643 = .ok (.aload_n 2, 1) := by decide +kernel
theorem dL_644 : decode code 644 = .ok (.aload_n 0, 1) := by decide +kernel
theorem dL_645 : decode code 645 = .ok (.iload_n 3, 1) := by decide +kernel
theorem dL_646 : decode code 646 = .ok (.iconst 1, 1) := by decide +kernel
theorem dL_647 : decode code 647 = .ok (.iadd, 1) := by decide +kernel
theorem dL_648 : decode code 648 = .ok (.iaload, 1) := by decide +kernel
theorem dL_649 : decode code 649 = .ok (.aload_n 0, 1) := by decide +kernel
theorem dL_650 : decode code 650 = .ok (.iload_n 3, 1) := by decide +kernel
theorem dL_651 : decode code 651 = .ok (.iconst 2, 1) := by decide +kernel
theorem dL_652 : decode code 652 = .ok (.iadd, 1) := by decide +kernel
theorem dL_653 : decode code 653 = .ok (.iaload, 1) := by decide +kernel
theorem dL_654 : decode code 654 = .ok (.invokevirtual 94, 3) := by decide +kernel
theorem dL_657 : decode code 657 = .ok (.if_icmp .eq 220, 3) := by decide +kernel
theorem dL_660 : decode code 660 = .ok (.iconst 0, 1) := by decide +kernel
theorem dL_661 : decode code 661 = .ok (.ireturn, 1) := by decide +kernel
theorem dL_662 : decode code 662 = .ok (.aload_n 1, 1) := by decide +kernel
theorem dL_663 : decode code 663 = .ok (.aload_n 0, 1) := by decide +kernel
theorem dL_664 : decode code 664 = .ok (.iload_n 3, 1) := by decide +kernel
theorem dL_665 : decode code 665 = .ok (.iconst 1, 1) := by decide +kernel
theorem dL_666 : decode code 666 = .ok (.iadd, 1) := by decide +kernel
theorem dL_667 : decode code 667 = .ok (.iaload, 1) := by decide +kernel
theorem dL_668 : decode code 668 = .ok (.aload_n 0, 1) := by decide +kernel
theorem dL_669 : decode code 669 = .ok (.iload_n 3, 1) := by decide +kernel
theorem dL_670 : decode code 670 = .ok (.iconst 2, 1) := by decide +kernel
theorem dL_671 : decode code 671 = .ok (.iadd, 1) := by decide +kernel
theorem dL_672 : decode code 672 = .ok (.iaload, 1) := by decide +kernel
theorem dL_673 : decode code 673 = .ok (.aload_n 0, 1) := by decide +kernel
theorem dL_674 : decode code 674 = .ok (.iload_n 3, 1) := by decide +kernel
theorem dL_675 : decode code 675 = .ok (.iconst 3, 1) := by decide +kernel
theorem dL_676 : decode code 676 = .ok (.iadd, 1) := by decide +kernel
theorem dL_677 : decode code 677 = .ok (.iaload, 1) := by decide +kernel
theorem dL_678 : decode code 678 = .ok (.invokevirtual 95, 3) := by decide +kernel
theorem dL_681 : decode code 681 = .ok (.aload_n 2, 1) := by decide +kernel
theorem dL_682 : decode code 682 = .ok (.aload_n 0, 1) := by decide +kernel
theorem dL_683 : decode code 683 = .ok (.iload_n 3, 1) := by decide +kernel
theorem dL_684 : decode code 684 = .ok (.iconst 1, 1) := by decide +kernel
theorem dL_685 : decode code 685 = .ok (.iadd, 1) := by decide +kernel
theorem dL_686 : decode code 686 = .ok (.iaload, 1) := by decide +kernel
theorem dL_687 : decode code 687 = .ok (.aload_n 0, 1) := by decide +kernel
theorem dL_688 : decode code 688 = .ok (.iload_n 3, 1) := by decide +kernel
theorem dL_689 : decode code 689 = .ok (.iconst 2, 1) := by decide +kernel
theorem dL_690 : decode code 690 = .ok (.iadd, 1) := by decide +kernel
theorem dL_691 : decode code 691 = .ok (.iaload, 1) := by decide +kernel
theorem dL_692 : decode code 692 = .ok (.aload_n 0, 1) := by decide +kernel
theorem dL_693 : decode code 693 = .ok (.iload_n 3, 1) := by decide +kernel
theorem dL_694 : decode code 694 = .ok (.iconst 3, 1) := by decide +kernel
theorem dL_695 : decode code 695 = .ok (.iadd, 1) := by decide +kernel
theorem dL_696 : decode code 696 = .ok (.iaload, 1) := by decide +kernel
theorem dL_697 : decode code 697 = .ok (.invokevirtual 98, 3) := by decide +kernel
theorem dL_700 : decode code 700 = .ok (.if_icmp .eq 177, 3) := by decide +kernel
theorem dL_703 : decode code 703 = .ok (.iconst 0, 1) := by decide +kernel
theorem dL_704 : decode code 704 = .ok (.ireturn, 1) := by decide +kernel
theorem dL_705 : decode code 705 = .ok (.aload_n 1, 1) := by decide +kernel
theorem dL_706 : decode code 706 = .ok (.aload_n 0, 1) := by decide +kernel
theorem dL_707 : decode code 707 = .ok (.iload_n 3, 1) := by decide +kernel
theorem dL_708 : decode code 708 = .ok (.iconst 1, 1) := by decide +kernel
theorem dL_709 : decode code 709 = .ok (.iadd, 1) := by decide +kernel
theorem dL_710 : decode code 710 = .ok (.iaload, 1) := by decide +kernel
theorem dL_711 : decode code 711 = .ok (.invokevirtual 99, 3) := by decide +kernel
theorem dL_714 : decode code 714 = .ok (.aload_n 2, 1) := by decide +kernel
theorem dL_715 : decode code 715 = .ok (.aload_n 0, 1) := by decide +kernel
theorem dL_716 : decode code 716 = .ok (.iload_n 3, 1) := by decide +kernel
theorem dL_717 : decode code 717 = .ok (.iconst 1, 1) := by decide +kernel
theorem dL_718 : decode code 718 = .ok (.iadd, 1) := by decide +kernel
theorem dL_719 : decode code 719 = .ok (.iaload, 1) := by decide +kernel
theorem dL_720 : decode code 720 = .ok (.invokevirtual 102, 3) := by decide +kernel
theorem dL_723 : decode code 723 = .ok (.if_icmp .eq 154, 3) := by decide +kernel
theorem dL_726 : decode code 726 = .ok (.iconst 0, 1) := by decide +kernel
theorem dL_727 : decode code 727 = .ok (.ireturn, 1) := by decide +kernel
theorem dL_728 : decode code 728 = .ok (.aload_n 1, 1) := by decide +kernel
theorem dL_729 : decode code 729 = .ok (.aload_n 0, 1) := by decide +kernel
theorem dL_730 : decode code 730 = .ok (.iload_n 3, 1) := by decide +kernel
theorem dL_731 : decode code 731 = .ok (.iconst 1, 1) := by decide +kernel
theorem dL_732 : decode code 732 = .ok (.iadd, 1) := by decide +kernel
theorem dL_733 : decode code 733 = .ok (.iaload, 1) := by decide +kernel
theorem dL_734 : decode code 734 = .ok (.i2l, 1) := by decide +kernel
theorem dL_735 : decode code 735 = .ok (.bipush 32, 2) := by decide +kernel
theorem dL_737 : decode code 737 = .ok (.lshl, 1) := by decide +kernel
theorem dL_738 : decode code 738 = .ok (.aload_n 0, 1) := by decide +kernel
theorem dL_739 : decode code 739 = .ok (.iload_n 3, 1) := by decide +kernel
theorem dL_740 : decode code 740 = .ok (.iconst 2, 1) := by decide +kernel
theorem dL_741 : decode code 741 = .ok (.iadd, 1) := by decide +kernel
theorem dL_742 : decode code 742 = .ok (.iaload, 1) := by decide +kernel
theorem dL_743 : decode code 743 = .ok (.i2l, 1) := by decide +kernel
theorem dL_744 : decode code 744 = .ok (.ldc2_w 103, 3) := by decide +kernel
theorem dL_747 : decode code 747 = .ok (.land, 1) := by decide +kernel
theorem dL_748 : decode code 748 = .ok (.lor, 1) := by decide +kernel
theorem dL_749 : decode code 749 = .ok (.invokevirtual 105, 3) := by decide +kernel
theorem dL_752 : decode code 752 = .ok (.aload_n 2, 1) := by decide +kernel
theorem dL_753 : decode code 753 = .ok (.aload_n 0, 1) := by decide +kernel
theorem dL_754 : decode code 754 = .ok (.iload_n 3, 1) := by decide +kernel
theorem dL_755 : decode code 755 = .ok (.iconst 1, 1) := by decide +kernel
theorem dL_756 : decode code 756 = .ok (.iadd, 1) := by decide +kernel
theorem dL_757 : decode code 757 = .ok (.iaload, 1) := by decide +kernel
theorem dL_758 : decode code 758 = .ok (.i2l, 1) := by decide +kernel
theorem dL_759 : decode code 759 = .ok (.bipush 32, 2) := by decide +kernel
theorem dL_761 : decode code 761 = .ok (.lshl, 1) := by decide +kernel
theorem dL_762 : decode code 762 = .ok (.aload_n 0, 1) := by decide +kernel
theorem dL_763 : decode code 763 = .ok (.iload_n 3, 1) := by decide +kernel
theorem dL_764 : decode code 764 = .ok (.iconst 2, 1) := by decide +kernel
theorem dL_765 : decode code 765 = .ok (.iadd, 1) := by decide +kernel
theorem dL_766 : decode code 766 = .ok (.iaload, 1) := by decide +kernel
theorem dL_767 : decode code 767 = .ok (.i2l, 1) := by decide +kernel
theorem dL_768 : decode code 768 = .ok (.ldc2_w 103, 3) := by decide +kernel
theorem dL_771 : decode code 771 = .ok (.land, 1) := by decide +kernel
theorem dL_772 : decode code 772 = .ok (.lor, 1) := by decide +kernel
theorem dL_773 : decode code 773 = .ok (.invokevirtual 109, 3) := by decide +kernel
theorem dL_776 : decode code 776 = .ok (.if_icmp .eq 101, 3) := by decide +kernel
theorem dL_779 : decode code 779 = .ok (.iconst 0, 1) := by decide +kernel
theorem dL_780 : decode code 780 = .ok (.ireturn, 1) := by decide +kernel
theorem dL_781 : decode code 781 = .ok (.aload_n 1, 1) := by decide +kernel
theorem dL_782 : decode code 782 = .ok (.invokevirtual 110, 3) := by decide +kernel
theorem dL_785 : decode code 785 = .ok (.aload_n 2, 1) := by decide +kernel
theorem dL_786 : decode code 786 = .ok (.invokevirtual 113, 3) := by decide +kernel
theorem dL_789 : decode code 789 = .ok (.if_icmp .eq 88, 3) := by decide +kernel
theorem dL_792 : decode code 792 = .ok (.iconst 0, 1) := by decide +kernel
theorem dL_793 : decode code 793 = .ok (.ireturn, 1) := by decide +kernel
theorem dL_794 : decode code 794 = .ok (.aload_n 1, 1) := by decide +kernel
theorem dL_795 : decode code 795 = .ok (.aload_n 0, 1) := by decide +kernel
theorem dL_796 : decode code 796 = .ok (.iload_n 3, 1) := by decide +kernel
theorem dL_797 : decode code 797 = .ok (.iconst 1, 1) := by decide +kernel
theorem dL_798 : decode code 798 = .ok (.iadd, 1) := by decide +kernel
theorem dL_799 : decode code 799 = .ok (.iaload, 1) := by decide +kernel
theorem dL_800 : decode code 800 = .ok (.invokevirtual 114, 3) := by decide +kernel
theorem dL_803 : decode code 803 = .ok (.aload_n 2, 1) := by decide +kernel
theorem dL_804 : decode code 804 = .ok (.aload_n 0, 1) := by decide +kernel
theorem dL_805 : decode code 805 = .ok (.iload_n 3, 1) := by decide +kernel
theorem dL_806 : decode code 806 = .ok (.iconst 1, 1) := by decide +kernel
theorem dL_807 : decode code 807 = .ok (.iadd, 1) := by decide +kernel
theorem dL_808 : decode code 808 = .ok (.iaload, 1) := by decide +kernel
theorem dL_809 : decode code 809 = .ok (.invokevirtual 117, 3) := by decide +kernel
theorem dL_812 : decode code 812 = .ok (.if_icmp .eq 65, 3) := by decide +kernel
theorem dL_815 : decode code 815 = .ok (.iconst 0, 1) := by decide +kernel
theorem dL_816 : decode code 816 = .ok (.ireturn, 1) := by decide +kernel
theorem dL_817 : decode code 817 = .ok (.aload_n 1, 1) := by decide +kernel
theorem dL_818 : decode code 818 = .ok (.invokevirtual 118, 3) := by decide +kernel
theorem dL_821 : decode code 821 = .ok (.aload_n 2, 1) := by decide +kernel
theorem dL_822 : decode code 822 = .ok (.invokevirtual 122, 3) := by decide +kernel
theorem dL_825 : decode code 825 = .ok (.lcmp, 1) := by decide +kernel
theorem dL_826 : decode code 826 = .ok (.ifCond .eq 51, 3) := by decide +kernel
theorem dL_829 : decode code 829 = .ok (.iconst 0, 1) := by decide +kernel
theorem dL_830 : decode code 830 = .ok (.ireturn, 1) := by decide +kernel
theorem dL_831 : decode code 831 = .ok (.aload_n 1, 1) := by decide +kernel
theorem dL_832 : decode code 832 = .ok (.aload_n 0, 1) := by decide +kernel
theorem dL_833 : decode code 833 = .ok (.iload_n 3, 1) := by decide +kernel
theorem dL_834 : decode code 834 = .ok (.iconst 1, 1) := by decide +kernel
theorem dL_835 : decode code 835 = .ok (.iadd, 1) := by decide +kernel
theorem dL_836 : decode code 836 = .ok (.iaload, 1) := by decide +kernel
theorem dL_837 : decode code 837 = .ok (.invokevirtual 123, 3) := by decide +kernel
theorem dL_840 : decode code 840 = .ok (.aload_n 2, 1) := by decide +kernel
theorem dL_841 : decode code 841 = .ok (.aload_n 0, 1) := by decide +kernel
theorem dL_842 : decode code 842 = .ok (.iload_n 3, 1) := by decide +kernel
theorem dL_843 : decode code 843 = .ok (.iconst 1, 1) := by decide +kernel
theorem dL_844 : decode code 844 = .ok (.iadd, 1) := by decide +kernel
theorem dL_845 : decode code 845 = .ok (.iaload, 1) := by decide +kernel
theorem dL_846 : decode code 846 = .ok (.invokevirtual 126, 3) := by decide +kernel
theorem dL_849 : decode code 849 = .ok (.if_icmp .eq 28, 3) := by decide +kernel
theorem dL_852 : decode code 852 = .ok (.iconst 0, 1) := by decide +kernel
theorem dL_853 : decode code 853 = .ok (.ireturn, 1) := by decide +kernel
theorem dL_854 : decode code 854 = .ok (.aload_n 1, 1) := by decide +kernel
theorem dL_855 : decode code 855 = .ok (.aload_n 0, 1) := by decide +kernel
theorem dL_856 : decode code 856 = .ok (.iload_n 3, 1) := by decide +kernel
theorem dL_857 : decode code 857 = .ok (.iconst 1, 1) := by decide +kernel
theorem dL_858 : decode code 858 = .ok (.iadd, 1) := by decide +kernel
theorem dL_859 : decode code 859 = .ok (.iaload, 1) := by decide +kernel
theorem dL_860 : decode code 860 = .ok (.invokevirtual 127, 3) := by decide +kernel
theorem dL_863 : decode code 863 = .ok (.aload_n 2, 1) := by decide +kernel
theorem dL_864 : decode code 864 = .ok (.aload_n 0, 1) := by decide +kernel
theorem dL_865 : decode code 865 = .ok (.iload_n 3, 1) := by decide +kernel
theorem dL_866 : decode code 866 = .ok (.iconst 1, 1) := by decide +kernel
theorem dL_867 : decode code 867 = .ok (.iadd, 1) := by decide +kernel
theorem dL_868 : decode code 868 = .ok (.iaload, 1) := by decide +kernel
theorem dL_869 : decode code 869 = .ok (.invokevirtual 130, 3) := by decide +kernel
theorem dL_872 : decode code 872 = .ok (.if_icmp .eq 5, 3) := by decide +kernel
theorem dL_875 : decode code 875 = .ok (.iconst 0, 1) := by decide +kernel
theorem dL_876 : decode code 876 = .ok (.ireturn, 1) := by decide +kernel
theorem dL_877 : decode code 877 = .ok (.iinc 3 5, 3) := by decide +kernel
theorem dL_880 : decode code 880 = .ok (.goto (-862), 3) := by decide +kernel
theorem dL_883 : decode code 883 = .ok (.iconst 1, 1) := by decide +kernel
theorem dL_884 : decode code 884 = .ok (.ireturn, 1) := by decide +kernel
