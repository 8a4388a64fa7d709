theorem tw_0 : Cond.initialized RL ∈ gT := gT_t (List.mem_of_getElem? (i := 0) (by decide +kernel)) (by decide +kernel)
theorem tw_1035 : Cond.methodLink RL (45 : Nat) yL_parcel ∈ gT := gT_t (List.mem_of_getElem? (i := 1035) (by decide +kernel)) (by decide +kernel)
theorem tw_1036 : Cond.static yL_parcel ∈ gT := gT_t (List.mem_of_getElem? (i := 1036) (by decide +kernel)) (by decide +kernel)
theorem tw_1039 : Cond.methodLink RL (7 : Nat) yX9_parcel ∈ gT := gT_t (List.mem_of_getElem? (i := 1039) (by decide +kernel)) (by decide +kernel)
theorem tw_1040 : Cond.instanceMethod yX9_parcel ∈ gT := gT_t (List.mem_of_getElem? (i := 1040) (by decide +kernel)) (by decide +kernel)
theorem tw_1041 : Cond.selects RX9 yX9_parcel yX9_parcel ∈ gT := gT_t (List.mem_of_getElem? (i := 1041) (by decide +kernel)) (by decide +kernel)
theorem tw_1042 : Cond.code yX9_parcel cX9_parcel 3 (some .int) ∈ gT := gT_t (List.mem_of_getElem? (i := 1042) (by decide +kernel)) (by decide +kernel)
theorem tw_1110 : Cond.methodLink RL (54 : Nat) yL_person ∈ gT := gT_t (List.mem_of_getElem? (i := 1110) (by decide +kernel)) (by decide +kernel)
theorem tw_1111 : Cond.static yL_person ∈ gT := gT_t (List.mem_of_getElem? (i := 1111) (by decide +kernel)) (by decide +kernel)
theorem tw_1113 : Cond.methodLink RL (15 : Nat) yX9_person ∈ gT := gT_t (List.mem_of_getElem? (i := 1113) (by decide +kernel)) (by decide +kernel)
theorem tw_1114 : Cond.instanceMethod yX9_person ∈ gT := gT_t (List.mem_of_getElem? (i := 1114) (by decide +kernel)) (by decide +kernel)
theorem tw_1115 : Cond.selects RX9 yX9_person yX9_person ∈ gT := gT_t (List.mem_of_getElem? (i := 1115) (by decide +kernel)) (by decide +kernel)
theorem tw_1116 : Cond.code yX9_person cX9_person 3 (some .int) ∈ gT := gT_t (List.mem_of_getElem? (i := 1116) (by decide +kernel)) (by decide +kernel)
theorem tw_1119 : Cond.methodLink RL (51 : Nat) yX10_thrown ∈ gT := gT_t (List.mem_of_getElem? (i := 1119) (by decide +kernel)) (by decide +kernel)
theorem tw_1120 : Cond.instanceMethod yX10_thrown ∈ gT := gT_t (List.mem_of_getElem? (i := 1120) (by decide +kernel)) (by decide +kernel)
theorem tw_1121 : Cond.selects RX10 yX10_thrown yX10_thrown ∈ gT := gT_t (List.mem_of_getElem? (i := 1121) (by decide +kernel)) (by decide +kernel)
theorem tw_1122 : Cond.code yX10_thrown cX10_thrown 1 (some .int) ∈ gT := gT_t (List.mem_of_getElem? (i := 1122) (by decide +kernel)) (by decide +kernel)
theorem tw_1445 : Cond.methodLink RL (50 : Nat) yX10_parcel ∈ gT := gT_t (List.mem_of_getElem? (i := 1445) (by decide +kernel)) (by decide +kernel)
theorem tw_1446 : Cond.instanceMethod yX10_parcel ∈ gT := gT_t (List.mem_of_getElem? (i := 1446) (by decide +kernel)) (by decide +kernel)
theorem tw_1447 : Cond.selects RX10 yX10_parcel yX10_parcel ∈ gT := gT_t (List.mem_of_getElem? (i := 1447) (by decide +kernel)) (by decide +kernel)
theorem tw_1448 : Cond.code yX10_parcel cX10_parcel 3 (some .int) ∈ gT := gT_t (List.mem_of_getElem? (i := 1448) (by decide +kernel)) (by decide +kernel)
theorem tw_1469 : Cond.methodLink RL (56 : Nat) yX10_person ∈ gT := gT_t (List.mem_of_getElem? (i := 1469) (by decide +kernel)) (by decide +kernel)
theorem tw_1470 : Cond.instanceMethod yX10_person ∈ gT := gT_t (List.mem_of_getElem? (i := 1470) (by decide +kernel)) (by decide +kernel)
theorem tw_1471 : Cond.selects RX10 yX10_person yX10_person ∈ gT := gT_t (List.mem_of_getElem? (i := 1471) (by decide +kernel)) (by decide +kernel)
theorem tw_1472 : Cond.code yX10_person cX10_person 3 (some .int) ∈ gT := gT_t (List.mem_of_getElem? (i := 1472) (by decide +kernel)) (by decide +kernel)
theorem dL_law_381 : decode cL_law 381 = .ok (.aload_n 1, 1) := by decide +kernel
theorem dL_law_382 : decode cL_law 382 = .ok (.aload_n 0, 1) := by decide +kernel
theorem dL_law_383 : decode cL_law 383 = .ok (.iload 4, 2) := by decide +kernel
theorem dL_law_385 : decode cL_law 385 = .ok (.iconst 1, 1) := by decide +kernel
theorem dL_law_386 : decode cL_law 386 = .ok (.iadd, 1) := by decide +kernel
theorem dL_law_387 : decode cL_law 387 = .ok (.iaload, 1) := by decide +kernel
theorem dL_law_388 : decode cL_law 388 = .ok (.aload_n 0, 1) := by decide +kernel
theorem dL_law_389 : decode cL_law 389 = .ok (.iload 4, 2) := by decide +kernel
theorem dL_law_391 : decode cL_law 391 = .ok (.iconst 2, 1) := by decide +kernel
theorem dL_law_392 : decode cL_law 392 = .ok (.iadd, 1) := by decide +kernel
theorem dL_law_393 : decode cL_law 393 = .ok (.iaload, 1) := by decide +kernel
theorem dL_law_394 : decode cL_law 394 = .ok (.aload_n 3, 1) := by decide +kernel
theorem dL_law_395 : decode cL_law 395 = .ok (.invokestatic 45, 3) := by decide +kernel
theorem dL_law_398 : decode cL_law 398 = .ok (.istore 5, 2) := by decide +kernel
theorem dL_law_400 : decode cL_law 400 = .ok (.aload_n 2, 1) := by decide +kernel
theorem dL_law_401 : decode cL_law 401 = .ok (.aload_n 0, 1) := by decide +kernel
theorem dL_law_402 : decode cL_law 402 = .ok (.iload 4, 2) := by decide +kernel
theorem dL_law_404 : decode cL_law 404 = .ok (.iconst 1, 1) := by decide +kernel
theorem dL_law_405 : decode cL_law 405 = .ok (.iadd, 1) := by decide +kernel
theorem dL_law_406 : decode cL_law 406 = .ok (.iaload, 1) := by decide +kernel
theorem dL_law_407 : decode cL_law 407 = .ok (.aload_n 0, 1) := by decide +kernel
theorem dL_law_408 : decode cL_law 408 = .ok (.iload 4, 2) := by decide +kernel
theorem dL_law_410 : decode cL_law 410 = .ok (.iconst 2, 1) := by decide +kernel
theorem dL_law_411 : decode cL_law 411 = .ok (.iadd, 1) := by decide +kernel
theorem dL_law_412 : decode cL_law 412 = .ok (.iaload, 1) := by decide +kernel
theorem dL_law_413 : decode cL_law 413 = .ok (.invokevirtual 50, 3) := by decide +kernel
theorem dL_law_416 : decode cL_law 416 = .ok (.istore 6, 2) := by decide +kernel
theorem dL_law_418 : decode cL_law 418 = .ok (.aload_n 2, 1) := by decide +kernel
theorem dL_law_419 : decode cL_law 419 = .ok (.invokevirtual 51, 3) := by decide +kernel
theorem dL_law_422 : decode cL_law 422 = .ok (.iload 5, 2) := by decide +kernel
theorem dL_law_424 : decode cL_law 424 = .ok (.if_icmp .eq 5, 3) := by decide +kernel
theorem dL_law_429 : decode cL_law 429 = .ok (.iload 5, 2) := by decide +kernel
theorem dL_law_431 : decode cL_law 431 = .ok (.ifCond .ne 15, 3) := by decide +kernel
theorem dL_law_446 : decode cL_law 446 = .ok (.goto 945, 3) := by decide +kernel
theorem dL_law_449 : decode cL_law 449 = .ok (.aload_n 1, 1) := by decide +kernel
theorem dL_law_450 : decode cL_law 450 = .ok (.aload_n 0, 1) := by decide +kernel
theorem dL_law_451 : decode cL_law 451 = .ok (.iload 4, 2) := by decide +kernel
theorem dL_law_453 : decode cL_law 453 = .ok (.iconst 1, 1) := by decide +kernel
theorem dL_law_454 : decode cL_law 454 = .ok (.iadd, 1) := by decide +kernel
theorem dL_law_455 : decode cL_law 455 = .ok (.iaload, 1) := by decide +kernel
theorem dL_law_456 : decode cL_law 456 = .ok (.aload_n 0, 1) := by decide +kernel
theorem dL_law_457 : decode cL_law 457 = .ok (.iload 4, 2) := by decide +kernel
theorem dL_law_459 : decode cL_law 459 = .ok (.iconst 2, 1) := by decide +kernel
theorem dL_law_460 : decode cL_law 460 = .ok (.iadd, 1) := by decide +kernel
theorem dL_law_461 : decode cL_law 461 = .ok (.iaload, 1) := by decide +kernel
theorem dL_law_462 : decode cL_law 462 = .ok (.aload_n 3, 1) := by decide +kernel
theorem dL_law_463 : decode cL_law 463 = .ok (.invokestatic 54, 3) := by decide +kernel
theorem dL_law_466 : decode cL_law 466 = .ok (.istore 5, 2) := by decide +kernel
theorem dL_law_468 : decode cL_law 468 = .ok (.aload_n 2, 1) := by decide +kernel
theorem dL_law_469 : decode cL_law 469 = .ok (.aload_n 0, 1) := by decide +kernel
theorem dL_law_470 : decode cL_law 470 = .ok (.iload 4, 2) := by decide +kernel
theorem dL_law_472 : decode cL_law 472 = .ok (.iconst 1, 1) := by decide +kernel
theorem dL_law_473 : decode cL_law 473 = .ok (.iadd, 1) := by decide +kernel
theorem dL_law_474 : decode cL_law 474 = .ok (.iaload, 1) := by decide +kernel
theorem dL_law_475 : decode cL_law 475 = .ok (.aload_n 0, 1) := by decide +kernel
theorem dL_law_476 : decode cL_law 476 = .ok (.iload 4, 2) := by decide +kernel
theorem dL_law_478 : decode cL_law 478 = .ok (.iconst 2, 1) := by decide +kernel
theorem dL_law_479 : decode cL_law 479 = .ok (.iadd, 1) := by decide +kernel
theorem dL_law_480 : decode cL_law 480 = .ok (.iaload, 1) := by decide +kernel
theorem dL_law_481 : decode cL_law 481 = .ok (.invokevirtual 56, 3) := by decide +kernel
theorem dL_law_484 : decode cL_law 484 = .ok (.istore 6, 2) := by decide +kernel
theorem dL_law_486 : decode cL_law 486 = .ok (.aload_n 2, 1) := by decide +kernel
theorem dL_law_487 : decode cL_law 487 = .ok (.invokevirtual 51, 3) := by decide +kernel
theorem dL_law_490 : decode cL_law 490 = .ok (.iload 5, 2) := by decide +kernel
theorem dL_law_492 : decode cL_law 492 = .ok (.if_icmp .eq 5, 3) := by decide +kernel
theorem dL_law_497 : decode cL_law 497 = .ok (.iload 5, 2) := by decide +kernel
theorem dL_law_499 : decode cL_law 499 = .ok (.ifCond .ne 15, 3) := by decide +kernel
theorem dL_law_514 : decode cL_law 514 = .ok (.goto 877, 3) := by decide +kernel
theorem dL_parcel_0 : decode cL_parcel 0 = .ok (.aload_n 3, 1) := by decide +kernel
theorem dL_parcel_1 : decode cL_parcel 1 = .ok (.iconst 0, 1) := by decide +kernel
theorem dL_parcel_2 : decode cL_parcel 2 = .ok (.aload_n 0, 1) := by decide +kernel
theorem dL_parcel_3 : decode cL_parcel 3 = .ok (.iload_n 1, 1) := by decide +kernel
theorem dL_parcel_4 : decode cL_parcel 4 = .ok (.iload_n 2, 1) := by decide +kernel
theorem dL_parcel_5 : decode cL_parcel 5 = .ok (.invokevirtual 7, 3) := by decide +kernel
theorem dL_parcel_13 : decode cL_parcel 13 = .ok (.astore 4, 2) := by decide +kernel
theorem dL_parcel_15 : decode cL_parcel 15 = .ok (.iconst 1, 1) := by decide +kernel
theorem dL_parcel_16 : decode cL_parcel 16 = .ok (.ireturn, 1) := by decide +kernel
theorem dL_person_0 : decode cL_person 0 = .ok (.aload_n 3, 1) := by decide +kernel
theorem dL_person_1 : decode cL_person 1 = .ok (.iconst 0, 1) := by decide +kernel
theorem dL_person_2 : decode cL_person 2 = .ok (.aload_n 0, 1) := by decide +kernel
theorem dL_person_3 : decode cL_person 3 = .ok (.iload_n 1, 1) := by decide +kernel
theorem dL_person_4 : decode cL_person 4 = .ok (.iload_n 2, 1) := by decide +kernel
theorem dL_person_5 : decode cL_person 5 = .ok (.invokevirtual 15, 3) := by decide +kernel
theorem dL_person_13 : decode cL_person 13 = .ok (.astore 4, 2) := by decide +kernel
theorem dL_person_15 : decode cL_person 15 = .ok (.iconst 1, 1) := by decide +kernel
theorem dL_person_16 : decode cL_person 16 = .ok (.ireturn, 1) := by decide +kernel
theorem dX9_parcel_0 : decode cX9_parcel 0 = .ok (.aload_n 0, 1) := by decide +kernel
theorem dX9_parcel_1 : decode cX9_parcel 1 = .ok (.iconst 2, 1) := by decide +kernel
theorem dX9_parcel_2 : decode cX9_parcel 2 = .ok (.iload_n 1, 1) := by decide +kernel
theorem dX9_parcel_3 : decode cX9_parcel 3 = .ok (.invokevirtual 124, 3) := by decide +kernel
theorem dX9_parcel_6 : decode cX9_parcel 6 = .ok (.ifCond .ne 13, 3) := by decide +kernel
theorem dX9_parcel_9 : decode cX9_parcel 9 = .ok (.new 132, 3) := by decide +kernel
theorem dX9_parcel_12 : decode cX9_parcel 12 = .ok (.dup, 1) := by decide +kernel
theorem dX9_parcel_13 : decode cX9_parcel 13 = .ok (.ldc 134, 2) := by decide +kernel
theorem dX9_parcel_15 : decode cX9_parcel 15 = .ok (.invokespecial 136, 3) := by decide +kernel
theorem dX9_parcel_18 : decode cX9_parcel 18 = .ok (.athrow, 1) := by decide +kernel
theorem dX9_person_0 : decode cX9_person 0 = .ok (.aload_n 0, 1) := by decide +kernel
theorem dX9_person_1 : decode cX9_person 1 = .ok (.iconst 3, 1) := by decide +kernel
theorem dX9_person_2 : decode cX9_person 2 = .ok (.iload_n 1, 1) := by decide +kernel
theorem dX9_person_3 : decode cX9_person 3 = .ok (.invokevirtual 124, 3) := by decide +kernel
theorem dX9_person_6 : decode cX9_person 6 = .ok (.ifCond .ne 13, 3) := by decide +kernel
theorem dX9_person_9 : decode cX9_person 9 = .ok (.new 132, 3) := by decide +kernel
theorem dX9_person_12 : decode cX9_person 12 = .ok (.dup, 1) := by decide +kernel
theorem dX9_person_13 : decode cX9_person 13 = .ok (.ldc 163, 2) := by decide +kernel
theorem dX9_person_15 : decode cX9_person 15 = .ok (.invokespecial 136, 3) := by decide +kernel
theorem dX9_person_18 : decode cX9_person 18 = .ok (.athrow, 1) := by decide +kernel
