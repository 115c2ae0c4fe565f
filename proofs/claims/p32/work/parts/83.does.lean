/-! the law's calls of the class: exceptions are numbers -/
theorem w_19 : (.initialized "VowCourtLaw" : Cond) ∈ TB := TB_mem (List.mem_of_getElem? (i := 19) (by decide +kernel)) rfl
theorem w_131 : (.classLink "VowCourtLaw" 92 "java/lang/IndexOutOfBoundsException" : Cond) ∈ TB := TB_mem (List.mem_of_getElem? (i := 131) (by decide +kernel)) rfl
theorem w_132 : (.classLink "VowCourtLaw" 95 "java/lang/IllegalArgumentException" : Cond) ∈ TB := TB_mem (List.mem_of_getElem? (i := 132) (by decide +kernel)) rfl
theorem w_133 : (.classLink "VowCourtLaw" 98 "java/lang/IllegalStateException" : Cond) ∈ TB := TB_mem (List.mem_of_getElem? (i := 133) (by decide +kernel)) rfl
theorem w_134 : (.methodLink "VowCourtLaw" 8 ⟨"VowCourt", "person", "(IIII)I"⟩ : Cond) ∈ TB := TB_mem (List.mem_of_getElem? (i := 134) (by decide +kernel)) rfl
theorem w_135 : (.instanceMethod ⟨"VowCourt", "person", "(IIII)I"⟩ : Cond) ∈ TB := TB_mem (List.mem_of_getElem? (i := 135) (by decide +kernel)) rfl
theorem w_136 : (.selects "VowCourt" ⟨"VowCourt", "person", "(IIII)I"⟩ ⟨"VowCourt", "person", "(IIII)I"⟩ : Cond) ∈ TB := TB_mem (List.mem_of_getElem? (i := 136) (by decide +kernel)) rfl
theorem w_137 : (.code yX4_person cX4_person 6 (some .int) : Cond) ∈ TB := TB_mem (List.mem_of_getElem? (i := 137) (by decide +kernel)) rfl
theorem w_356 : (.methodLink "VowCourtLaw" 14 ⟨"VowCourt", "rite", "(II)I"⟩ : Cond) ∈ TB := TB_mem (List.mem_of_getElem? (i := 356) (by decide +kernel)) rfl
theorem w_357 : (.instanceMethod ⟨"VowCourt", "rite", "(II)I"⟩ : Cond) ∈ TB := TB_mem (List.mem_of_getElem? (i := 357) (by decide +kernel)) rfl
theorem w_358 : (.selects "VowCourt" ⟨"VowCourt", "rite", "(II)I"⟩ ⟨"VowCourt", "rite", "(II)I"⟩ : Cond) ∈ TB := TB_mem (List.mem_of_getElem? (i := 358) (by decide +kernel)) rfl
theorem w_359 : (.code yX4_rite cX4_rite 5 (some .int) : Cond) ∈ TB := TB_mem (List.mem_of_getElem? (i := 359) (by decide +kernel)) rfl
theorem w_378 : (.methodLink "VowCourtLaw" 18 ⟨"VowCourt", "home", "(II)I"⟩ : Cond) ∈ TB := TB_mem (List.mem_of_getElem? (i := 378) (by decide +kernel)) rfl
theorem w_379 : (.instanceMethod ⟨"VowCourt", "home", "(II)I"⟩ : Cond) ∈ TB := TB_mem (List.mem_of_getElem? (i := 379) (by decide +kernel)) rfl
theorem w_380 : (.selects "VowCourt" ⟨"VowCourt", "home", "(II)I"⟩ ⟨"VowCourt", "home", "(II)I"⟩ : Cond) ∈ TB := TB_mem (List.mem_of_getElem? (i := 380) (by decide +kernel)) rfl
theorem w_381 : (.code yX4_home cX4_home 5 (some .int) : Cond) ∈ TB := TB_mem (List.mem_of_getElem? (i := 381) (by decide +kernel)) rfl
theorem w_382 : (.methodLink "VowCourtLaw" 21 ⟨"VowCourtLaw", "ordered", "(LVowCourt;I)I"⟩ : Cond) ∈ TB := TB_mem (List.mem_of_getElem? (i := 382) (by decide +kernel)) rfl
theorem w_383 : (.static ⟨"VowCourtLaw", "ordered", "(LVowCourt;I)I"⟩ : Cond) ∈ TB := TB_mem (List.mem_of_getElem? (i := 383) (by decide +kernel)) rfl
theorem w_384 : (.code yL_ordered cL_ordered 2 (some .int) : Cond) ∈ TB := TB_mem (List.mem_of_getElem? (i := 384) (by decide +kernel)) rfl
theorem w_385 : (.methodLink "VowCourtLaw" 101 ⟨"VowCourt", "order", "(I)V"⟩ : Cond) ∈ TB := TB_mem (List.mem_of_getElem? (i := 385) (by decide +kernel)) rfl
theorem w_386 : (.instanceMethod ⟨"VowCourt", "order", "(I)V"⟩ : Cond) ∈ TB := TB_mem (List.mem_of_getElem? (i := 386) (by decide +kernel)) rfl
theorem w_387 : (.selects "VowCourt" ⟨"VowCourt", "order", "(I)V"⟩ ⟨"VowCourt", "order", "(I)V"⟩ : Cond) ∈ TB := TB_mem (List.mem_of_getElem? (i := 387) (by decide +kernel)) rfl
theorem w_388 : (.code yX4_order cX4_order 3 none : Cond) ∈ TB := TB_mem (List.mem_of_getElem? (i := 388) (by decide +kernel)) rfl
theorem w_389 : (.methodLink "VowCourtLaw" 27 ⟨"VowCourt", "ban", "(I)Z"⟩ : Cond) ∈ TB := TB_mem (List.mem_of_getElem? (i := 389) (by decide +kernel)) rfl
theorem w_390 : (.instanceMethod ⟨"VowCourt", "ban", "(I)Z"⟩ : Cond) ∈ TB := TB_mem (List.mem_of_getElem? (i := 390) (by decide +kernel)) rfl
theorem w_391 : (.selects "VowCourt" ⟨"VowCourt", "ban", "(I)Z"⟩ ⟨"VowCourt", "ban", "(I)Z"⟩ : Cond) ∈ TB := TB_mem (List.mem_of_getElem? (i := 391) (by decide +kernel)) rfl
theorem w_392 : (.code yX4_ban cX4_ban 3 (some .boolean) : Cond) ∈ TB := TB_mem (List.mem_of_getElem? (i := 392) (by decide +kernel)) rfl
theorem w_393 : (.methodLink "VowCourtLaw" 31 ⟨"VowCourt", "die", "(I)I"⟩ : Cond) ∈ TB := TB_mem (List.mem_of_getElem? (i := 393) (by decide +kernel)) rfl
theorem w_394 : (.instanceMethod ⟨"VowCourt", "die", "(I)I"⟩ : Cond) ∈ TB := TB_mem (List.mem_of_getElem? (i := 394) (by decide +kernel)) rfl
theorem w_395 : (.selects "VowCourt" ⟨"VowCourt", "die", "(I)I"⟩ ⟨"VowCourt", "die", "(I)I"⟩ : Cond) ∈ TB := TB_mem (List.mem_of_getElem? (i := 395) (by decide +kernel)) rfl
theorem w_396 : (.code yX4_die cX4_die 3 (some .int) : Cond) ∈ TB := TB_mem (List.mem_of_getElem? (i := 396) (by decide +kernel)) rfl
theorem w_410 : (.methodLink "VowCourtLaw" 35 ⟨"VowCourtLaw", "dispensed", "(LVowCourt;III)I"⟩ : Cond) ∈ TB := TB_mem (List.mem_of_getElem? (i := 410) (by decide +kernel)) rfl
theorem w_411 : (.static ⟨"VowCourtLaw", "dispensed", "(LVowCourt;III)I"⟩ : Cond) ∈ TB := TB_mem (List.mem_of_getElem? (i := 411) (by decide +kernel)) rfl
theorem w_412 : (.code yL_dispensed cL_dispensed 4 (some .int) : Cond) ∈ TB := TB_mem (List.mem_of_getElem? (i := 412) (by decide +kernel)) rfl
theorem w_413 : (.methodLink "VowCourtLaw" 105 ⟨"VowCourt", "dispense", "(III)V"⟩ : Cond) ∈ TB := TB_mem (List.mem_of_getElem? (i := 413) (by decide +kernel)) rfl
theorem w_414 : (.instanceMethod ⟨"VowCourt", "dispense", "(III)V"⟩ : Cond) ∈ TB := TB_mem (List.mem_of_getElem? (i := 414) (by decide +kernel)) rfl
theorem w_415 : (.selects "VowCourt" ⟨"VowCourt", "dispense", "(III)V"⟩ ⟨"VowCourt", "dispense", "(III)V"⟩ : Cond) ∈ TB := TB_mem (List.mem_of_getElem? (i := 415) (by decide +kernel)) rfl
theorem w_416 : (.code yX4_dispense cX4_dispense 4 none : Cond) ∈ TB := TB_mem (List.mem_of_getElem? (i := 416) (by decide +kernel)) rfl
theorem w_439 : (.methodLink "VowCourtLaw" 39 ⟨"VowCourtLaw", "given", "(LVowCourt;III)I"⟩ : Cond) ∈ TB := TB_mem (List.mem_of_getElem? (i := 439) (by decide +kernel)) rfl
theorem w_440 : (.static ⟨"VowCourtLaw", "given", "(LVowCourt;III)I"⟩ : Cond) ∈ TB := TB_mem (List.mem_of_getElem? (i := 440) (by decide +kernel)) rfl
theorem w_441 : (.code yL_given cL_given 4 (some .int) : Cond) ∈ TB := TB_mem (List.mem_of_getElem? (i := 441) (by decide +kernel)) rfl
theorem w_442 : (.methodLink "VowCourtLaw" 109 ⟨"VowCourt", "faculty", "(III)V"⟩ : Cond) ∈ TB := TB_mem (List.mem_of_getElem? (i := 442) (by decide +kernel)) rfl
theorem w_443 : (.instanceMethod ⟨"VowCourt", "faculty", "(III)V"⟩ : Cond) ∈ TB := TB_mem (List.mem_of_getElem? (i := 443) (by decide +kernel)) rfl
theorem w_444 : (.selects "VowCourt" ⟨"VowCourt", "faculty", "(III)V"⟩ ⟨"VowCourt", "faculty", "(III)V"⟩ : Cond) ∈ TB := TB_mem (List.mem_of_getElem? (i := 444) (by decide +kernel)) rfl
theorem w_445 : (.code yX4_faculty cX4_faculty 4 none : Cond) ∈ TB := TB_mem (List.mem_of_getElem? (i := 445) (by decide +kernel)) rfl
theorem w_449 : (.methodLink "VowCourtLaw" 42 ⟨"VowCourt", "error", "(I)Z"⟩ : Cond) ∈ TB := TB_mem (List.mem_of_getElem? (i := 449) (by decide +kernel)) rfl
theorem w_450 : (.instanceMethod ⟨"VowCourt", "error", "(I)Z"⟩ : Cond) ∈ TB := TB_mem (List.mem_of_getElem? (i := 450) (by decide +kernel)) rfl
theorem w_451 : (.selects "VowCourt" ⟨"VowCourt", "error", "(I)Z"⟩ ⟨"VowCourt", "error", "(I)Z"⟩ : Cond) ∈ TB := TB_mem (List.mem_of_getElem? (i := 451) (by decide +kernel)) rfl
theorem w_452 : (.code yX4_error cX4_error 2 (some .boolean) : Cond) ∈ TB := TB_mem (List.mem_of_getElem? (i := 452) (by decide +kernel)) rfl
theorem w_453 : (.methodLink "VowCourtLaw" 45 ⟨"VowCourt", "vow", "(IIII)I"⟩ : Cond) ∈ TB := TB_mem (List.mem_of_getElem? (i := 453) (by decide +kernel)) rfl
theorem w_454 : (.instanceMethod ⟨"VowCourt", "vow", "(IIII)I"⟩ : Cond) ∈ TB := TB_mem (List.mem_of_getElem? (i := 454) (by decide +kernel)) rfl
theorem w_455 : (.selects "VowCourt" ⟨"VowCourt", "vow", "(IIII)I"⟩ ⟨"VowCourt", "vow", "(IIII)I"⟩ : Cond) ∈ TB := TB_mem (List.mem_of_getElem? (i := 455) (by decide +kernel)) rfl
theorem w_456 : (.code yX4_vow cX4_vow 9 (some .int) : Cond) ∈ TB := TB_mem (List.mem_of_getElem? (i := 456) (by decide +kernel)) rfl
theorem w_499 : (.methodLink "VowCourtLaw" 48 ⟨"VowCourtLaw", "healed", "(LVowCourt;I)I"⟩ : Cond) ∈ TB := TB_mem (List.mem_of_getElem? (i := 499) (by decide +kernel)) rfl
theorem w_500 : (.static ⟨"VowCourtLaw", "healed", "(LVowCourt;I)I"⟩ : Cond) ∈ TB := TB_mem (List.mem_of_getElem? (i := 500) (by decide +kernel)) rfl
theorem w_501 : (.code yL_healed cL_healed 2 (some .int) : Cond) ∈ TB := TB_mem (List.mem_of_getElem? (i := 501) (by decide +kernel)) rfl
theorem w_502 : (.methodLink "VowCourtLaw" 112 ⟨"VowCourt", "heal", "(I)V"⟩ : Cond) ∈ TB := TB_mem (List.mem_of_getElem? (i := 502) (by decide +kernel)) rfl
theorem w_503 : (.instanceMethod ⟨"VowCourt", "heal", "(I)V"⟩ : Cond) ∈ TB := TB_mem (List.mem_of_getElem? (i := 503) (by decide +kernel)) rfl
theorem w_504 : (.selects "VowCourt" ⟨"VowCourt", "heal", "(I)V"⟩ ⟨"VowCourt", "heal", "(I)V"⟩ : Cond) ∈ TB := TB_mem (List.mem_of_getElem? (i := 504) (by decide +kernel)) rfl
theorem w_505 : (.code yX4_heal cX4_heal 3 none : Cond) ∈ TB := TB_mem (List.mem_of_getElem? (i := 505) (by decide +kernel)) rfl
theorem w_522 : (.methodLink "VowCourtLaw" 51 ⟨"VowCourtLaw", "graced", "(LVowCourt;I)I"⟩ : Cond) ∈ TB := TB_mem (List.mem_of_getElem? (i := 522) (by decide +kernel)) rfl
theorem w_523 : (.static ⟨"VowCourtLaw", "graced", "(LVowCourt;I)I"⟩ : Cond) ∈ TB := TB_mem (List.mem_of_getElem? (i := 523) (by decide +kernel)) rfl
theorem w_524 : (.code yL_graced cL_graced 2 (some .int) : Cond) ∈ TB := TB_mem (List.mem_of_getElem? (i := 524) (by decide +kernel)) rfl
theorem w_525 : (.methodLink "VowCourtLaw" 115 ⟨"VowCourt", "grace", "(I)V"⟩ : Cond) ∈ TB := TB_mem (List.mem_of_getElem? (i := 525) (by decide +kernel)) rfl
theorem w_526 : (.instanceMethod ⟨"VowCourt", "grace", "(I)V"⟩ : Cond) ∈ TB := TB_mem (List.mem_of_getElem? (i := 526) (by decide +kernel)) rfl
theorem w_527 : (.selects "VowCourt" ⟨"VowCourt", "grace", "(I)V"⟩ ⟨"VowCourt", "grace", "(I)V"⟩ : Cond) ∈ TB := TB_mem (List.mem_of_getElem? (i := 527) (by decide +kernel)) rfl
theorem w_528 : (.code yX4_grace cX4_grace 3 none : Cond) ∈ TB := TB_mem (List.mem_of_getElem? (i := 528) (by decide +kernel)) rfl
theorem w_538 : (.methodLink "VowCourtLaw" 54 ⟨"VowCourt", "documents", "(I)I"⟩ : Cond) ∈ TB := TB_mem (List.mem_of_getElem? (i := 538) (by decide +kernel)) rfl
theorem w_539 : (.instanceMethod ⟨"VowCourt", "documents", "(I)I"⟩ : Cond) ∈ TB := TB_mem (List.mem_of_getElem? (i := 539) (by decide +kernel)) rfl
theorem w_540 : (.selects "VowCourt" ⟨"VowCourt", "documents", "(I)I"⟩ ⟨"VowCourt", "documents", "(I)I"⟩ : Cond) ∈ TB := TB_mem (List.mem_of_getElem? (i := 540) (by decide +kernel)) rfl
theorem w_541 : (.code yX4_documents cX4_documents 4 (some .int) : Cond) ∈ TB := TB_mem (List.mem_of_getElem? (i := 541) (by decide +kernel)) rfl
theorem w_546 : (.methodLink "VowCourtLaw" 57 ⟨"VowCourt", "cause", "(IIIZ)I"⟩ : Cond) ∈ TB := TB_mem (List.mem_of_getElem? (i := 546) (by decide +kernel)) rfl
theorem w_547 : (.instanceMethod ⟨"VowCourt", "cause", "(IIIZ)I"⟩ : Cond) ∈ TB := TB_mem (List.mem_of_getElem? (i := 547) (by decide +kernel)) rfl
theorem w_548 : (.selects "VowCourt" ⟨"VowCourt", "cause", "(IIIZ)I"⟩ ⟨"VowCourt", "cause", "(IIIZ)I"⟩ : Cond) ∈ TB := TB_mem (List.mem_of_getElem? (i := 548) (by decide +kernel)) rfl
theorem w_549 : (.code yX4_cause cX4_cause 6 (some .int) : Cond) ∈ TB := TB_mem (List.mem_of_getElem? (i := 549) (by decide +kernel)) rfl
theorem w_596 : (.methodLink "VowCourtLaw" 61 ⟨"VowCourt", "doubt", "(II)I"⟩ : Cond) ∈ TB := TB_mem (List.mem_of_getElem? (i := 596) (by decide +kernel)) rfl
theorem w_597 : (.instanceMethod ⟨"VowCourt", "doubt", "(II)I"⟩ : Cond) ∈ TB := TB_mem (List.mem_of_getElem? (i := 597) (by decide +kernel)) rfl
theorem w_598 : (.selects "VowCourt" ⟨"VowCourt", "doubt", "(II)I"⟩ ⟨"VowCourt", "doubt", "(II)I"⟩ : Cond) ∈ TB := TB_mem (List.mem_of_getElem? (i := 598) (by decide +kernel)) rfl
theorem w_599 : (.code yX4_doubt cX4_doubt 5 (some .int) : Cond) ∈ TB := TB_mem (List.mem_of_getElem? (i := 599) (by decide +kernel)) rfl
theorem w_604 : (.methodLink "VowCourtLaw" 64 ⟨"VowCourt", "proof", "(III)I"⟩ : Cond) ∈ TB := TB_mem (List.mem_of_getElem? (i := 604) (by decide +kernel)) rfl
theorem w_605 : (.instanceMethod ⟨"VowCourt", "proof", "(III)I"⟩ : Cond) ∈ TB := TB_mem (List.mem_of_getElem? (i := 605) (by decide +kernel)) rfl
theorem w_606 : (.selects "VowCourt" ⟨"VowCourt", "proof", "(III)I"⟩ ⟨"VowCourt", "proof", "(III)I"⟩ : Cond) ∈ TB := TB_mem (List.mem_of_getElem? (i := 606) (by decide +kernel)) rfl
theorem w_607 : (.code yX4_proof cX4_proof 6 (some .int) : Cond) ∈ TB := TB_mem (List.mem_of_getElem? (i := 607) (by decide +kernel)) rfl
theorem w_608 : (.methodLink "VowCourtLaw" 68 ⟨"VowCourt", "publish", "(I)I"⟩ : Cond) ∈ TB := TB_mem (List.mem_of_getElem? (i := 608) (by decide +kernel)) rfl
theorem w_609 : (.instanceMethod ⟨"VowCourt", "publish", "(I)I"⟩ : Cond) ∈ TB := TB_mem (List.mem_of_getElem? (i := 609) (by decide +kernel)) rfl
theorem w_610 : (.selects "VowCourt" ⟨"VowCourt", "publish", "(I)I"⟩ ⟨"VowCourt", "publish", "(I)I"⟩ : Cond) ∈ TB := TB_mem (List.mem_of_getElem? (i := 610) (by decide +kernel)) rfl
theorem w_611 : (.code yX4_publish cX4_publish 3 (some .int) : Cond) ∈ TB := TB_mem (List.mem_of_getElem? (i := 611) (by decide +kernel)) rfl
theorem w_616 : (.methodLink "VowCourtLaw" 71 ⟨"VowCourt", "vote", "(III)I"⟩ : Cond) ∈ TB := TB_mem (List.mem_of_getElem? (i := 616) (by decide +kernel)) rfl
theorem w_617 : (.instanceMethod ⟨"VowCourt", "vote", "(III)I"⟩ : Cond) ∈ TB := TB_mem (List.mem_of_getElem? (i := 617) (by decide +kernel)) rfl
theorem w_618 : (.selects "VowCourt" ⟨"VowCourt", "vote", "(III)I"⟩ ⟨"VowCourt", "vote", "(III)I"⟩ : Cond) ∈ TB := TB_mem (List.mem_of_getElem? (i := 618) (by decide +kernel)) rfl
theorem w_619 : (.code yX4_vote cX4_vote 5 (some .int) : Cond) ∈ TB := TB_mem (List.mem_of_getElem? (i := 619) (by decide +kernel)) rfl
theorem w_624 : (.methodLink "VowCourtLaw" 74 ⟨"VowCourt", "sentence", "(I)I"⟩ : Cond) ∈ TB := TB_mem (List.mem_of_getElem? (i := 624) (by decide +kernel)) rfl
theorem w_625 : (.instanceMethod ⟨"VowCourt", "sentence", "(I)I"⟩ : Cond) ∈ TB := TB_mem (List.mem_of_getElem? (i := 625) (by decide +kernel)) rfl
theorem w_626 : (.selects "VowCourt" ⟨"VowCourt", "sentence", "(I)I"⟩ ⟨"VowCourt", "sentence", "(I)I"⟩ : Cond) ∈ TB := TB_mem (List.mem_of_getElem? (i := 626) (by decide +kernel)) rfl
theorem w_627 : (.code yX4_sentence cX4_sentence 4 (some .int) : Cond) ∈ TB := TB_mem (List.mem_of_getElem? (i := 627) (by decide +kernel)) rfl
theorem w_655 : (.methodLink "VowCourtLaw" 77 ⟨"VowCourtLaw", "appealed", "(LVowCourt;I)I"⟩ : Cond) ∈ TB := TB_mem (List.mem_of_getElem? (i := 655) (by decide +kernel)) rfl
theorem w_656 : (.static ⟨"VowCourtLaw", "appealed", "(LVowCourt;I)I"⟩ : Cond) ∈ TB := TB_mem (List.mem_of_getElem? (i := 656) (by decide +kernel)) rfl
theorem w_657 : (.code yL_appealed cL_appealed 2 (some .int) : Cond) ∈ TB := TB_mem (List.mem_of_getElem? (i := 657) (by decide +kernel)) rfl
theorem w_658 : (.methodLink "VowCourtLaw" 118 ⟨"VowCourt", "appeal", "(I)V"⟩ : Cond) ∈ TB := TB_mem (List.mem_of_getElem? (i := 658) (by decide +kernel)) rfl
theorem w_659 : (.instanceMethod ⟨"VowCourt", "appeal", "(I)V"⟩ : Cond) ∈ TB := TB_mem (List.mem_of_getElem? (i := 659) (by decide +kernel)) rfl
theorem w_660 : (.selects "VowCourt" ⟨"VowCourt", "appeal", "(I)V"⟩ ⟨"VowCourt", "appeal", "(I)V"⟩ : Cond) ∈ TB := TB_mem (List.mem_of_getElem? (i := 660) (by decide +kernel)) rfl
theorem w_661 : (.code yX4_appeal cX4_appeal 3 none : Cond) ∈ TB := TB_mem (List.mem_of_getElem? (i := 661) (by decide +kernel)) rfl
theorem w_663 : (.methodLink "VowCourtLaw" 80 ⟨"VowCourt", "pass", "(I)I"⟩ : Cond) ∈ TB := TB_mem (List.mem_of_getElem? (i := 663) (by decide +kernel)) rfl
theorem w_664 : (.instanceMethod ⟨"VowCourt", "pass", "(I)I"⟩ : Cond) ∈ TB := TB_mem (List.mem_of_getElem? (i := 664) (by decide +kernel)) rfl
theorem w_665 : (.selects "VowCourt" ⟨"VowCourt", "pass", "(I)I"⟩ ⟨"VowCourt", "pass", "(I)I"⟩ : Cond) ∈ TB := TB_mem (List.mem_of_getElem? (i := 665) (by decide +kernel)) rfl
theorem w_666 : (.code yX4_pass cX4_pass 2 (some .int) : Cond) ∈ TB := TB_mem (List.mem_of_getElem? (i := 666) (by decide +kernel)) rfl
theorem w_667 : (.methodLink "VowCourtLaw" 83 ⟨"VowCourt", "vowOf", "(II)I"⟩ : Cond) ∈ TB := TB_mem (List.mem_of_getElem? (i := 667) (by decide +kernel)) rfl
theorem w_668 : (.instanceMethod ⟨"VowCourt", "vowOf", "(II)I"⟩ : Cond) ∈ TB := TB_mem (List.mem_of_getElem? (i := 668) (by decide +kernel)) rfl
theorem w_669 : (.selects "VowCourt" ⟨"VowCourt", "vowOf", "(II)I"⟩ ⟨"VowCourt", "vowOf", "(II)I"⟩ : Cond) ∈ TB := TB_mem (List.mem_of_getElem? (i := 669) (by decide +kernel)) rfl
theorem w_670 : (.code yX4_vowOf cX4_vowOf 4 (some .int) : Cond) ∈ TB := TB_mem (List.mem_of_getElem? (i := 670) (by decide +kernel)) rfl
theorem w_671 : (.methodLink "VowCourtLaw" 86 ⟨"VowCourt", "causeOf", "(II)I"⟩ : Cond) ∈ TB := TB_mem (List.mem_of_getElem? (i := 671) (by decide +kernel)) rfl
theorem w_672 : (.instanceMethod ⟨"VowCourt", "causeOf", "(II)I"⟩ : Cond) ∈ TB := TB_mem (List.mem_of_getElem? (i := 672) (by decide +kernel)) rfl
theorem w_673 : (.selects "VowCourt" ⟨"VowCourt", "causeOf", "(II)I"⟩ ⟨"VowCourt", "causeOf", "(II)I"⟩ : Cond) ∈ TB := TB_mem (List.mem_of_getElem? (i := 673) (by decide +kernel)) rfl
theorem w_674 : (.code yX4_causeOf cX4_causeOf 4 (some .int) : Cond) ∈ TB := TB_mem (List.mem_of_getElem? (i := 674) (by decide +kernel)) rfl
theorem w_675 : (.methodLink "VowCourtLaw" 89 ⟨"VowCourt", "bound", "(II)I"⟩ : Cond) ∈ TB := TB_mem (List.mem_of_getElem? (i := 675) (by decide +kernel)) rfl
theorem w_676 : (.instanceMethod ⟨"VowCourt", "bound", "(II)I"⟩ : Cond) ∈ TB := TB_mem (List.mem_of_getElem? (i := 676) (by decide +kernel)) rfl
theorem w_677 : (.selects "VowCourt" ⟨"VowCourt", "bound", "(II)I"⟩ ⟨"VowCourt", "bound", "(II)I"⟩ : Cond) ∈ TB := TB_mem (List.mem_of_getElem? (i := 677) (by decide +kernel)) rfl
theorem w_678 : (.code yX4_bound cX4_bound 3 (some .int) : Cond) ∈ TB := TB_mem (List.mem_of_getElem? (i := 678) (by decide +kernel)) rfl
theorem w_683 : (.constant "VowCourtLaw" 94 (-3000000) : Cond) ∈ TB := TB_mem (List.mem_of_getElem? (i := 683) (by decide +kernel)) rfl
theorem w_684 : (.constant "VowCourtLaw" 97 (-2000000) : Cond) ∈ TB := TB_mem (List.mem_of_getElem? (i := 684) (by decide +kernel)) rfl
theorem w_685 : (.constant "VowCourtLaw" 100 (-1000000) : Cond) ∈ TB := TB_mem (List.mem_of_getElem? (i := 685) (by decide +kernel)) rfl
def xN (N : Nt) : Xt := fun x s' => match x with
  | 1 => N (some (aI (-3000000))) s'
  | 2 => N (some (aI (-2000000))) s'
  | 3 => N (some (aI (-1000000))) s'
  | _ => False
def doI (N : Nt) : Nt := fun r s' => match r with
  | some (.inl (.inl v)) => N (some (aI v)) s'
  | _ => False
def doZ (N : Nt) : Nt := fun r s' => match r with
  | some (.inl (.inl v)) => (¬ v = 0 → N (some (aI 1)) s') ∧ (v = 0 → N (some (aI 0)) s')
  | _ => False
def vN (N : Nt) : Nt := fun r s' => match r with
  | none => N (some (aI 0)) s'
  | _ => False
theorem dL_ordered_0 : decode cL_ordered 0 = .ok (.aload_n 0, 1) := by decide +kernel
theorem dL_ordered_1 : decode cL_ordered 1 = .ok (.iload_n 1, 1) := by decide +kernel
theorem dL_ordered_2 : decode cL_ordered 2 = .ok (.invokevirtual 101, 3) := by decide +kernel
theorem dL_ordered_5 : decode cL_ordered 5 = .ok (.iconst 0, 1) := by decide +kernel
theorem dL_ordered_6 : decode cL_ordered 6 = .ok (.ireturn, 1) := by decide +kernel
def tab_L_ordered : List (Nat × Sem) := [(0, op_al 0 1), (1, op_il 1 2), (2, op_callVN 6 sp_X4_order 2 2 5), (5, op_ic 0 6), (6, op_iret)]
set_option maxRecDepth 20000 in
theorem tok_L_ordered : ∀ q ∈ tab_L_ordered, Snd RL cL_ordered 2 9 2 (some .int) q.1 q.2 := by
  unfold tab_L_ordered
  refine tcons (ok_aload_n dL_ordered_0 rfl rfl) ?_
  refine tcons (ok_iload_n dL_ordered_1 rfl rfl) ?_
  refine tcons (ok_invokevirtualN M_X4_order (C := RX4) (T := TX4) (nf := 8) rfl w_385 w_386 w_387 w_20 w_388 ⟨rfl, by decide, by decide, by decide +kernel⟩ (by decide) (by decide) dL_ordered_2 rfl) ?_
  refine tcons (ok_iconst dL_ordered_5 rfl rfl) ?_
  refine tcons (ok_ireturn rfl dL_ordered_6) ?_
  exact fun _ h => nomatch h
def sp_L_ordered : Spc := fun av s N X => match av with
  | [.inl (.inr (1, 0)), .inl (.inl a)] => sp_X4_order [aR 1 0, aI a] s (vN N) X
  | _ => False
set_option maxRecDepth 20000 in
set_option maxHeartbeats 2000000 in
theorem M_L_ordered : AMet yL_ordered cL_ordered 2 (some .int) 9 2 sp_L_ordered := by
  refine AMet.mc (own := RL) (by decide) rfl [0, 1] rfl tok_L_ordered 200 ?_
  intro av s0 N X h
  unfold sp_L_ordered at h
  split at h
  rotate_left
  · exact h.elim
  refine ⟨[], ?_, an⟩
  refine ⟨rfl, by decide, Nat.le_of_ble_eq_true rfl, _, h, ?_⟩
  intro r s1 hN
  unfold vN at hN
  split at hN
  · exact ⟨Nat.le_of_ble_eq_true rfl, hN⟩
  · exact hN.elim
theorem dL_dispensed_0 : decode cL_dispensed 0 = .ok (.aload_n 0, 1) := by decide +kernel
theorem dL_dispensed_1 : decode cL_dispensed 1 = .ok (.iload_n 1, 1) := by decide +kernel
theorem dL_dispensed_2 : decode cL_dispensed 2 = .ok (.iload_n 2, 1) := by decide +kernel
theorem dL_dispensed_3 : decode cL_dispensed 3 = .ok (.iload_n 3, 1) := by decide +kernel
theorem dL_dispensed_4 : decode cL_dispensed 4 = .ok (.invokevirtual 105, 3) := by decide +kernel
theorem dL_dispensed_7 : decode cL_dispensed 7 = .ok (.iconst 0, 1) := by decide +kernel
theorem dL_dispensed_8 : decode cL_dispensed 8 = .ok (.ireturn, 1) := by decide +kernel
def tab_L_dispensed : List (Nat × Sem) := [(0, op_al 0 1), (1, op_il 1 2), (2, op_il 2 3), (3, op_il 3 4), (4, op_callVN 6 sp_X4_dispense 4 10 7), (7, op_ic 0 8), (8, op_iret)]
set_option maxRecDepth 20000 in
theorem tok_L_dispensed : ∀ q ∈ tab_L_dispensed, Snd RL cL_dispensed 4 11 10 (some .int) q.1 q.2 := by
  unfold tab_L_dispensed
  refine tcons (ok_aload_n dL_dispensed_0 rfl rfl) ?_
  refine tcons (ok_iload_n dL_dispensed_1 rfl rfl) ?_
  refine tcons (ok_iload_n dL_dispensed_2 rfl rfl) ?_
  refine tcons (ok_iload_n dL_dispensed_3 rfl rfl) ?_
  refine tcons (ok_invokevirtualN M_X4_dispense (C := RX4) (T := TX4) (nf := 8) rfl w_413 w_414 w_415 w_20 w_416 ⟨rfl, by decide, by decide, by decide +kernel⟩ (by decide) (by decide) dL_dispensed_4 rfl) ?_
  refine tcons (ok_iconst dL_dispensed_7 rfl rfl) ?_
  refine tcons (ok_ireturn rfl dL_dispensed_8) ?_
  exact fun _ h => nomatch h
def sp_L_dispensed : Spc := fun av s N X => match av with
  | [.inl (.inr (1, 0)), .inl (.inl a), .inl (.inl b), .inl (.inl c)] => sp_X4_dispense [aR 1 0, aI a, aI b, aI c] s (vN N) X
  | _ => False
set_option maxRecDepth 20000 in
set_option maxHeartbeats 2000000 in
theorem M_L_dispensed : AMet yL_dispensed cL_dispensed 4 (some .int) 11 10 sp_L_dispensed := by
  refine AMet.mc (own := RL) (by decide) rfl [0, 1, 2, 3] rfl tok_L_dispensed 200 ?_
  intro av s0 N X h
  unfold sp_L_dispensed at h
  split at h
  rotate_left
  · exact h.elim
  refine ⟨[], ?_, an⟩
  refine ⟨rfl, by decide, Nat.le_of_ble_eq_true rfl, _, h, ?_⟩
  intro r s1 hN
  unfold vN at hN
  split at hN
  · exact ⟨Nat.le_of_ble_eq_true rfl, hN⟩
  · exact hN.elim
theorem dL_given_0 : decode cL_given 0 = .ok (.aload_n 0, 1) := by decide +kernel
theorem dL_given_1 : decode cL_given 1 = .ok (.iload_n 1, 1) := by decide +kernel
theorem dL_given_2 : decode cL_given 2 = .ok (.iload_n 2, 1) := by decide +kernel
theorem dL_given_3 : decode cL_given 3 = .ok (.iload_n 3, 1) := by decide +kernel
theorem dL_given_4 : decode cL_given 4 = .ok (.invokevirtual 109, 3) := by decide +kernel
theorem dL_given_7 : decode cL_given 7 = .ok (.iconst 0, 1) := by decide +kernel
theorem dL_given_8 : decode cL_given 8 = .ok (.ireturn, 1) := by decide +kernel
def tab_L_given : List (Nat × Sem) := [(0, op_al 0 1), (1, op_il 1 2), (2, op_il 2 3), (3, op_il 3 4), (4, op_callVN 6 sp_X4_faculty 4 1 7), (7, op_ic 0 8), (8, op_iret)]
set_option maxRecDepth 20000 in
theorem tok_L_given : ∀ q ∈ tab_L_given, Snd RL cL_given 4 8 1 (some .int) q.1 q.2 := by
  unfold tab_L_given
  refine tcons (ok_aload_n dL_given_0 rfl rfl) ?_
  refine tcons (ok_iload_n dL_given_1 rfl rfl) ?_
  refine tcons (ok_iload_n dL_given_2 rfl rfl) ?_
  refine tcons (ok_iload_n dL_given_3 rfl rfl) ?_
  refine tcons (ok_invokevirtualN M_X4_faculty (C := RX4) (T := TX4) (nf := 8) rfl w_442 w_443 w_444 w_20 w_445 ⟨rfl, by decide, by decide, by decide +kernel⟩ (by decide) (by decide) dL_given_4 rfl) ?_
  refine tcons (ok_iconst dL_given_7 rfl rfl) ?_
  refine tcons (ok_ireturn rfl dL_given_8) ?_
  exact fun _ h => nomatch h
def sp_L_given : Spc := fun av s N X => match av with
  | [.inl (.inr (1, 0)), .inl (.inl a), .inl (.inl b), .inl (.inl c)] => sp_X4_faculty [aR 1 0, aI a, aI b, aI c] s (vN N) X
  | _ => False
set_option maxRecDepth 20000 in
set_option maxHeartbeats 2000000 in
theorem M_L_given : AMet yL_given cL_given 4 (some .int) 8 1 sp_L_given := by
  refine AMet.mc (own := RL) (by decide) rfl [0, 1, 2, 3] rfl tok_L_given 200 ?_
  intro av s0 N X h
  unfold sp_L_given at h
  split at h
  rotate_left
  · exact h.elim
  refine ⟨[], ?_, an⟩
  refine ⟨rfl, by decide, Nat.le_of_ble_eq_true rfl, _, h, ?_⟩
  intro r s1 hN
  unfold vN at hN
  split at hN
  · exact ⟨Nat.le_of_ble_eq_true rfl, hN⟩
  · exact hN.elim
theorem dL_healed_0 : decode cL_healed 0 = .ok (.aload_n 0, 1) := by decide +kernel
theorem dL_healed_1 : decode cL_healed 1 = .ok (.iload_n 1, 1) := by decide +kernel
theorem dL_healed_2 : decode cL_healed 2 = .ok (.invokevirtual 112, 3) := by decide +kernel
theorem dL_healed_5 : decode cL_healed 5 = .ok (.iconst 0, 1) := by decide +kernel
theorem dL_healed_6 : decode cL_healed 6 = .ok (.ireturn, 1) := by decide +kernel
def tab_L_healed : List (Nat × Sem) := [(0, op_al 0 1), (1, op_il 1 2), (2, op_callVN 6 sp_X4_heal 2 3 5), (5, op_ic 0 6), (6, op_iret)]
set_option maxRecDepth 20000 in
theorem tok_L_healed : ∀ q ∈ tab_L_healed, Snd RL cL_healed 2 10 3 (some .int) q.1 q.2 := by
  unfold tab_L_healed
  refine tcons (ok_aload_n dL_healed_0 rfl rfl) ?_
  refine tcons (ok_iload_n dL_healed_1 rfl rfl) ?_
  refine tcons (ok_invokevirtualN M_X4_heal (C := RX4) (T := TX4) (nf := 8) rfl w_502 w_503 w_504 w_20 w_505 ⟨rfl, by decide, by decide, by decide +kernel⟩ (by decide) (by decide) dL_healed_2 rfl) ?_
  refine tcons (ok_iconst dL_healed_5 rfl rfl) ?_
  refine tcons (ok_ireturn rfl dL_healed_6) ?_
  exact fun _ h => nomatch h
def sp_L_healed : Spc := fun av s N X => match av with
  | [.inl (.inr (1, 0)), .inl (.inl a)] => sp_X4_heal [aR 1 0, aI a] s (vN N) X
  | _ => False
set_option maxRecDepth 20000 in
set_option maxHeartbeats 2000000 in
theorem M_L_healed : AMet yL_healed cL_healed 2 (some .int) 10 3 sp_L_healed := by
  refine AMet.mc (own := RL) (by decide) rfl [0, 1] rfl tok_L_healed 200 ?_
  intro av s0 N X h
  unfold sp_L_healed at h
  split at h
  rotate_left
  · exact h.elim
  refine ⟨[], ?_, an⟩
  refine ⟨rfl, by decide, Nat.le_of_ble_eq_true rfl, _, h, ?_⟩
  intro r s1 hN
  unfold vN at hN
  split at hN
  · exact ⟨Nat.le_of_ble_eq_true rfl, hN⟩
  · exact hN.elim
theorem dL_graced_0 : decode cL_graced 0 = .ok (.aload_n 0, 1) := by decide +kernel
theorem dL_graced_1 : decode cL_graced 1 = .ok (.iload_n 1, 1) := by decide +kernel
theorem dL_graced_2 : decode cL_graced 2 = .ok (.invokevirtual 115, 3) := by decide +kernel
theorem dL_graced_5 : decode cL_graced 5 = .ok (.iconst 0, 1) := by decide +kernel
theorem dL_graced_6 : decode cL_graced 6 = .ok (.ireturn, 1) := by decide +kernel
def tab_L_graced : List (Nat × Sem) := [(0, op_al 0 1), (1, op_il 1 2), (2, op_callVN 6 sp_X4_grace 2 2 5), (5, op_ic 0 6), (6, op_iret)]
set_option maxRecDepth 20000 in
theorem tok_L_graced : ∀ q ∈ tab_L_graced, Snd RL cL_graced 2 9 2 (some .int) q.1 q.2 := by
  unfold tab_L_graced
  refine tcons (ok_aload_n dL_graced_0 rfl rfl) ?_
  refine tcons (ok_iload_n dL_graced_1 rfl rfl) ?_
  refine tcons (ok_invokevirtualN M_X4_grace (C := RX4) (T := TX4) (nf := 8) rfl w_525 w_526 w_527 w_20 w_528 ⟨rfl, by decide, by decide, by decide +kernel⟩ (by decide) (by decide) dL_graced_2 rfl) ?_
  refine tcons (ok_iconst dL_graced_5 rfl rfl) ?_
  refine tcons (ok_ireturn rfl dL_graced_6) ?_
  exact fun _ h => nomatch h
def sp_L_graced : Spc := fun av s N X => match av with
  | [.inl (.inr (1, 0)), .inl (.inl a)] => sp_X4_grace [aR 1 0, aI a] s (vN N) X
  | _ => False
set_option maxRecDepth 20000 in
set_option maxHeartbeats 2000000 in
theorem M_L_graced : AMet yL_graced cL_graced 2 (some .int) 9 2 sp_L_graced := by
  refine AMet.mc (own := RL) (by decide) rfl [0, 1] rfl tok_L_graced 200 ?_
  intro av s0 N X h
  unfold sp_L_graced at h
  split at h
  rotate_left
  · exact h.elim
  refine ⟨[], ?_, an⟩
  refine ⟨rfl, by decide, Nat.le_of_ble_eq_true rfl, _, h, ?_⟩
  intro r s1 hN
  unfold vN at hN
  split at hN
  · exact ⟨Nat.le_of_ble_eq_true rfl, hN⟩
  · exact hN.elim
theorem dL_appealed_0 : decode cL_appealed 0 = .ok (.aload_n 0, 1) := by decide +kernel
theorem dL_appealed_1 : decode cL_appealed 1 = .ok (.iload_n 1, 1) := by decide +kernel
theorem dL_appealed_2 : decode cL_appealed 2 = .ok (.invokevirtual 118, 3) := by decide +kernel
theorem dL_appealed_5 : decode cL_appealed 5 = .ok (.iconst 0, 1) := by decide +kernel
theorem dL_appealed_6 : decode cL_appealed 6 = .ok (.ireturn, 1) := by decide +kernel
def tab_L_appealed : List (Nat × Sem) := [(0, op_al 0 1), (1, op_il 1 2), (2, op_callVN 6 sp_X4_appeal 2 4 5), (5, op_ic 0 6), (6, op_iret)]
set_option maxRecDepth 20000 in
theorem tok_L_appealed : ∀ q ∈ tab_L_appealed, Snd RL cL_appealed 2 10 4 (some .int) q.1 q.2 := by
  unfold tab_L_appealed
  refine tcons (ok_aload_n dL_appealed_0 rfl rfl) ?_
  refine tcons (ok_iload_n dL_appealed_1 rfl rfl) ?_
  refine tcons (ok_invokevirtualN M_X4_appeal (C := RX4) (T := TX4) (nf := 8) rfl w_658 w_659 w_660 w_20 w_661 ⟨rfl, by decide, by decide, by decide +kernel⟩ (by decide) (by decide) dL_appealed_2 rfl) ?_
  refine tcons (ok_iconst dL_appealed_5 rfl rfl) ?_
  refine tcons (ok_ireturn rfl dL_appealed_6) ?_
  exact fun _ h => nomatch h
def sp_L_appealed : Spc := fun av s N X => match av with
  | [.inl (.inr (1, 0)), .inl (.inl a)] => sp_X4_appeal [aR 1 0, aI a] s (vN N) X
  | _ => False
set_option maxRecDepth 20000 in
set_option maxHeartbeats 2000000 in
theorem M_L_appealed : AMet yL_appealed cL_appealed 2 (some .int) 10 4 sp_L_appealed := by
  refine AMet.mc (own := RL) (by decide) rfl [0, 1] rfl tok_L_appealed 200 ?_
  intro av s0 N X h
  unfold sp_L_appealed at h
  split at h
  rotate_left
  · exact h.elim
  refine ⟨[], ?_, an⟩
  refine ⟨rfl, by decide, Nat.le_of_ble_eq_true rfl, _, h, ?_⟩
  intro r s1 hN
  unfold vN at hN
  split at hN
  · exact ⟨Nat.le_of_ble_eq_true rfl, hN⟩
  · exact hN.elim
theorem dL_does_0 : decode cL_does 0 = .ok (.iload_n 1, 1) := by decide +kernel
theorem dL_does_1 : decode cL_does 1 = .ok (.ifCond .ne 16, 3) := by decide +kernel
theorem dL_does_4 : decode cL_does 4 = .ok (.aload_n 0, 1) := by decide +kernel
theorem dL_does_5 : decode cL_does 5 = .ok (.iload_n 2, 1) := by decide +kernel
theorem dL_does_6 : decode cL_does 6 = .ok (.iload_n 3, 1) := by decide +kernel
theorem dL_does_7 : decode cL_does 7 = .ok (.iload 4, 2) := by decide +kernel
theorem dL_does_9 : decode cL_does 9 = .ok (.iload 5, 2) := by decide +kernel
theorem dL_does_11 : decode cL_does 11 = .ok (.invokevirtual 8, 3) := by decide +kernel
theorem dL_does_14 : decode cL_does 14 = .ok (.goto 364, 3) := by decide +kernel
theorem dL_does_17 : decode cL_does 17 = .ok (.iload_n 1, 1) := by decide +kernel
theorem dL_does_18 : decode cL_does 18 = .ok (.iconst 1, 1) := by decide +kernel
theorem dL_does_19 : decode cL_does 19 = .ok (.if_icmp .ne 12, 3) := by decide +kernel
theorem dL_does_22 : decode cL_does 22 = .ok (.aload_n 0, 1) := by decide +kernel
theorem dL_does_23 : decode cL_does 23 = .ok (.iload_n 2, 1) := by decide +kernel
theorem dL_does_24 : decode cL_does 24 = .ok (.iload_n 3, 1) := by decide +kernel
theorem dL_does_25 : decode cL_does 25 = .ok (.invokevirtual 14, 3) := by decide +kernel
theorem dL_does_28 : decode cL_does 28 = .ok (.goto 350, 3) := by decide +kernel
theorem dL_does_31 : decode cL_does 31 = .ok (.iload_n 1, 1) := by decide +kernel
theorem dL_does_32 : decode cL_does 32 = .ok (.iconst 2, 1) := by decide +kernel
theorem dL_does_33 : decode cL_does 33 = .ok (.if_icmp .ne 12, 3) := by decide +kernel
theorem dL_does_36 : decode cL_does 36 = .ok (.aload_n 0, 1) := by decide +kernel
theorem dL_does_37 : decode cL_does 37 = .ok (.iload_n 2, 1) := by decide +kernel
theorem dL_does_38 : decode cL_does 38 = .ok (.iload_n 3, 1) := by decide +kernel
theorem dL_does_39 : decode cL_does 39 = .ok (.invokevirtual 18, 3) := by decide +kernel
theorem dL_does_42 : decode cL_does 42 = .ok (.goto 336, 3) := by decide +kernel
theorem dL_does_45 : decode cL_does 45 = .ok (.iload_n 1, 1) := by decide +kernel
theorem dL_does_46 : decode cL_does 46 = .ok (.iconst 3, 1) := by decide +kernel
theorem dL_does_47 : decode cL_does 47 = .ok (.if_icmp .ne 11, 3) := by decide +kernel
theorem dL_does_50 : decode cL_does 50 = .ok (.aload_n 0, 1) := by decide +kernel
theorem dL_does_51 : decode cL_does 51 = .ok (.iload_n 2, 1) := by decide +kernel
theorem dL_does_52 : decode cL_does 52 = .ok (.invokestatic 21, 3) := by decide +kernel
theorem dL_does_55 : decode cL_does 55 = .ok (.goto 323, 3) := by decide +kernel
theorem dL_does_58 : decode cL_does 58 = .ok (.iload_n 1, 1) := by decide +kernel
theorem dL_does_59 : decode cL_does 59 = .ok (.iconst 4, 1) := by decide +kernel
theorem dL_does_60 : decode cL_does 60 = .ok (.if_icmp .ne 19, 3) := by decide +kernel
theorem dL_does_63 : decode cL_does 63 = .ok (.aload_n 0, 1) := by decide +kernel
theorem dL_does_64 : decode cL_does 64 = .ok (.iload_n 2, 1) := by decide +kernel
theorem dL_does_65 : decode cL_does 65 = .ok (.invokevirtual 27, 3) := by decide +kernel
theorem dL_does_68 : decode cL_does 68 = .ok (.ifCond .eq 7, 3) := by decide +kernel
theorem dL_does_71 : decode cL_does 71 = .ok (.iconst 1, 1) := by decide +kernel
theorem dL_does_72 : decode cL_does 72 = .ok (.goto 306, 3) := by decide +kernel
theorem dL_does_75 : decode cL_does 75 = .ok (.iconst 0, 1) := by decide +kernel
theorem dL_does_76 : decode cL_does 76 = .ok (.goto 302, 3) := by decide +kernel
theorem dL_does_79 : decode cL_does 79 = .ok (.iload_n 1, 1) := by decide +kernel
theorem dL_does_80 : decode cL_does 80 = .ok (.iconst 5, 1) := by decide +kernel
theorem dL_does_81 : decode cL_does 81 = .ok (.if_icmp .ne 11, 3) := by decide +kernel
theorem dL_does_84 : decode cL_does 84 = .ok (.aload_n 0, 1) := by decide +kernel
theorem dL_does_85 : decode cL_does 85 = .ok (.iload_n 2, 1) := by decide +kernel
theorem dL_does_86 : decode cL_does 86 = .ok (.invokevirtual 31, 3) := by decide +kernel
theorem dL_does_89 : decode cL_does 89 = .ok (.goto 289, 3) := by decide +kernel
theorem dL_does_92 : decode cL_does 92 = .ok (.iload_n 1, 1) := by decide +kernel
theorem dL_does_93 : decode cL_does 93 = .ok (.bipush 6, 2) := by decide +kernel
theorem dL_does_95 : decode cL_does 95 = .ok (.if_icmp .ne 14, 3) := by decide +kernel
theorem dL_does_98 : decode cL_does 98 = .ok (.aload_n 0, 1) := by decide +kernel
theorem dL_does_99 : decode cL_does 99 = .ok (.iload_n 2, 1) := by decide +kernel
theorem dL_does_100 : decode cL_does 100 = .ok (.iload_n 3, 1) := by decide +kernel
theorem dL_does_101 : decode cL_does 101 = .ok (.iload 4, 2) := by decide +kernel
theorem dL_does_103 : decode cL_does 103 = .ok (.invokestatic 35, 3) := by decide +kernel
theorem dL_does_106 : decode cL_does 106 = .ok (.goto 272, 3) := by decide +kernel
theorem dL_does_109 : decode cL_does 109 = .ok (.iload_n 1, 1) := by decide +kernel
theorem dL_does_110 : decode cL_does 110 = .ok (.bipush 7, 2) := by decide +kernel
theorem dL_does_112 : decode cL_does 112 = .ok (.if_icmp .ne 14, 3) := by decide +kernel
theorem dL_does_115 : decode cL_does 115 = .ok (.aload_n 0, 1) := by decide +kernel
theorem dL_does_116 : decode cL_does 116 = .ok (.iload_n 2, 1) := by decide +kernel
theorem dL_does_117 : decode cL_does 117 = .ok (.iload_n 3, 1) := by decide +kernel
theorem dL_does_118 : decode cL_does 118 = .ok (.iload 4, 2) := by decide +kernel
theorem dL_does_120 : decode cL_does 120 = .ok (.invokestatic 39, 3) := by decide +kernel
theorem dL_does_123 : decode cL_does 123 = .ok (.goto 255, 3) := by decide +kernel
theorem dL_does_126 : decode cL_does 126 = .ok (.iload_n 1, 1) := by decide +kernel
theorem dL_does_127 : decode cL_does 127 = .ok (.bipush 8, 2) := by decide +kernel
theorem dL_does_129 : decode cL_does 129 = .ok (.if_icmp .ne 19, 3) := by decide +kernel
theorem dL_does_132 : decode cL_does 132 = .ok (.aload_n 0, 1) := by decide +kernel
theorem dL_does_133 : decode cL_does 133 = .ok (.iload_n 2, 1) := by decide +kernel
theorem dL_does_134 : decode cL_does 134 = .ok (.invokevirtual 42, 3) := by decide +kernel
theorem dL_does_137 : decode cL_does 137 = .ok (.ifCond .eq 7, 3) := by decide +kernel
theorem dL_does_140 : decode cL_does 140 = .ok (.iconst 1, 1) := by decide +kernel
theorem dL_does_141 : decode cL_does 141 = .ok (.goto 237, 3) := by decide +kernel
theorem dL_does_144 : decode cL_does 144 = .ok (.iconst 0, 1) := by decide +kernel
theorem dL_does_145 : decode cL_does 145 = .ok (.goto 233, 3) := by decide +kernel
theorem dL_does_148 : decode cL_does 148 = .ok (.iload_n 1, 1) := by decide +kernel
theorem dL_does_149 : decode cL_does 149 = .ok (.bipush 9, 2) := by decide +kernel
theorem dL_does_151 : decode cL_does 151 = .ok (.if_icmp .ne 16, 3) := by decide +kernel
theorem dL_does_154 : decode cL_does 154 = .ok (.aload_n 0, 1) := by decide +kernel
theorem dL_does_155 : decode cL_does 155 = .ok (.iload_n 2, 1) := by decide +kernel
theorem dL_does_156 : decode cL_does 156 = .ok (.iload_n 3, 1) := by decide +kernel
theorem dL_does_157 : decode cL_does 157 = .ok (.iload 4, 2) := by decide +kernel
theorem dL_does_159 : decode cL_does 159 = .ok (.iload 5, 2) := by decide +kernel
theorem dL_does_161 : decode cL_does 161 = .ok (.invokevirtual 45, 3) := by decide +kernel
theorem dL_does_164 : decode cL_does 164 = .ok (.goto 214, 3) := by decide +kernel
theorem dL_does_167 : decode cL_does 167 = .ok (.iload_n 1, 1) := by decide +kernel
theorem dL_does_168 : decode cL_does 168 = .ok (.bipush 10, 2) := by decide +kernel
theorem dL_does_170 : decode cL_does 170 = .ok (.if_icmp .ne 11, 3) := by decide +kernel
theorem dL_does_173 : decode cL_does 173 = .ok (.aload_n 0, 1) := by decide +kernel
theorem dL_does_174 : decode cL_does 174 = .ok (.iload_n 2, 1) := by decide +kernel
theorem dL_does_175 : decode cL_does 175 = .ok (.invokestatic 48, 3) := by decide +kernel
theorem dL_does_178 : decode cL_does 178 = .ok (.goto 200, 3) := by decide +kernel
theorem dL_does_181 : decode cL_does 181 = .ok (.iload_n 1, 1) := by decide +kernel
theorem dL_does_182 : decode cL_does 182 = .ok (.bipush 11, 2) := by decide +kernel
theorem dL_does_184 : decode cL_does 184 = .ok (.if_icmp .ne 11, 3) := by decide +kernel
theorem dL_does_187 : decode cL_does 187 = .ok (.aload_n 0, 1) := by decide +kernel
theorem dL_does_188 : decode cL_does 188 = .ok (.iload_n 2, 1) := by decide +kernel
theorem dL_does_189 : decode cL_does 189 = .ok (.invokestatic 51, 3) := by decide +kernel
theorem dL_does_192 : decode cL_does 192 = .ok (.goto 186, 3) := by decide +kernel
theorem dL_does_195 : decode cL_does 195 = .ok (.iload_n 1, 1) := by decide +kernel
theorem dL_does_196 : decode cL_does 196 = .ok (.bipush 12, 2) := by decide +kernel
theorem dL_does_198 : decode cL_does 198 = .ok (.if_icmp .ne 11, 3) := by decide +kernel
theorem dL_does_201 : decode cL_does 201 = .ok (.aload_n 0, 1) := by decide +kernel
theorem dL_does_202 : decode cL_does 202 = .ok (.iload_n 2, 1) := by decide +kernel
theorem dL_does_203 : decode cL_does 203 = .ok (.invokevirtual 54, 3) := by decide +kernel
theorem dL_does_206 : decode cL_does 206 = .ok (.goto 172, 3) := by decide +kernel
theorem dL_does_209 : decode cL_does 209 = .ok (.iload_n 1, 1) := by decide +kernel
theorem dL_does_210 : decode cL_does 210 = .ok (.bipush 13, 2) := by decide +kernel
theorem dL_does_212 : decode cL_does 212 = .ok (.if_icmp .ne 25, 3) := by decide +kernel
theorem dL_does_215 : decode cL_does 215 = .ok (.aload_n 0, 1) := by decide +kernel
theorem dL_does_216 : decode cL_does 216 = .ok (.iload_n 2, 1) := by decide +kernel
theorem dL_does_217 : decode cL_does 217 = .ok (.iload_n 3, 1) := by decide +kernel
theorem dL_does_218 : decode cL_does 218 = .ok (.iload 4, 2) := by decide +kernel
theorem dL_does_220 : decode cL_does 220 = .ok (.iload 5, 2) := by decide +kernel
theorem dL_does_222 : decode cL_does 222 = .ok (.iconst 1, 1) := by decide +kernel
theorem dL_does_223 : decode cL_does 223 = .ok (.if_icmp .ne 7, 3) := by decide +kernel
theorem dL_does_226 : decode cL_does 226 = .ok (.iconst 1, 1) := by decide +kernel
theorem dL_does_227 : decode cL_does 227 = .ok (.goto 4, 3) := by decide +kernel
theorem dL_does_230 : decode cL_does 230 = .ok (.iconst 0, 1) := by decide +kernel
theorem dL_does_231 : decode cL_does 231 = .ok (.invokevirtual 57, 3) := by decide +kernel
theorem dL_does_234 : decode cL_does 234 = .ok (.goto 144, 3) := by decide +kernel
theorem dL_does_237 : decode cL_does 237 = .ok (.iload_n 1, 1) := by decide +kernel
theorem dL_does_238 : decode cL_does 238 = .ok (.bipush 14, 2) := by decide +kernel
theorem dL_does_240 : decode cL_does 240 = .ok (.if_icmp .ne 12, 3) := by decide +kernel
theorem dL_does_243 : decode cL_does 243 = .ok (.aload_n 0, 1) := by decide +kernel
theorem dL_does_244 : decode cL_does 244 = .ok (.iload_n 2, 1) := by decide +kernel
theorem dL_does_245 : decode cL_does 245 = .ok (.iload_n 3, 1) := by decide +kernel
theorem dL_does_246 : decode cL_does 246 = .ok (.invokevirtual 61, 3) := by decide +kernel
theorem dL_does_249 : decode cL_does 249 = .ok (.goto 129, 3) := by decide +kernel
theorem dL_does_252 : decode cL_does 252 = .ok (.iload_n 1, 1) := by decide +kernel
theorem dL_does_253 : decode cL_does 253 = .ok (.bipush 15, 2) := by decide +kernel
theorem dL_does_255 : decode cL_does 255 = .ok (.if_icmp .ne 14, 3) := by decide +kernel
theorem dL_does_258 : decode cL_does 258 = .ok (.aload_n 0, 1) := by decide +kernel
theorem dL_does_259 : decode cL_does 259 = .ok (.iload_n 2, 1) := by decide +kernel
theorem dL_does_260 : decode cL_does 260 = .ok (.iload_n 3, 1) := by decide +kernel
theorem dL_does_261 : decode cL_does 261 = .ok (.iload 4, 2) := by decide +kernel
theorem dL_does_263 : decode cL_does 263 = .ok (.invokevirtual 64, 3) := by decide +kernel
theorem dL_does_266 : decode cL_does 266 = .ok (.goto 112, 3) := by decide +kernel
theorem dL_does_269 : decode cL_does 269 = .ok (.iload_n 1, 1) := by decide +kernel
theorem dL_does_270 : decode cL_does 270 = .ok (.bipush 16, 2) := by decide +kernel
theorem dL_does_272 : decode cL_does 272 = .ok (.if_icmp .ne 11, 3) := by decide +kernel
theorem dL_does_275 : decode cL_does 275 = .ok (.aload_n 0, 1) := by decide +kernel
theorem dL_does_276 : decode cL_does 276 = .ok (.iload_n 2, 1) := by decide +kernel
theorem dL_does_277 : decode cL_does 277 = .ok (.invokevirtual 68, 3) := by decide +kernel
theorem dL_does_280 : decode cL_does 280 = .ok (.goto 98, 3) := by decide +kernel
theorem dL_does_283 : decode cL_does 283 = .ok (.iload_n 1, 1) := by decide +kernel
theorem dL_does_284 : decode cL_does 284 = .ok (.bipush 17, 2) := by decide +kernel
theorem dL_does_286 : decode cL_does 286 = .ok (.if_icmp .ne 14, 3) := by decide +kernel
theorem dL_does_289 : decode cL_does 289 = .ok (.aload_n 0, 1) := by decide +kernel
theorem dL_does_290 : decode cL_does 290 = .ok (.iload_n 2, 1) := by decide +kernel
theorem dL_does_291 : decode cL_does 291 = .ok (.iload_n 3, 1) := by decide +kernel
theorem dL_does_292 : decode cL_does 292 = .ok (.iload 4, 2) := by decide +kernel
theorem dL_does_294 : decode cL_does 294 = .ok (.invokevirtual 71, 3) := by decide +kernel
theorem dL_does_297 : decode cL_does 297 = .ok (.goto 81, 3) := by decide +kernel
theorem dL_does_300 : decode cL_does 300 = .ok (.iload_n 1, 1) := by decide +kernel
theorem dL_does_301 : decode cL_does 301 = .ok (.bipush 18, 2) := by decide +kernel
theorem dL_does_303 : decode cL_does 303 = .ok (.if_icmp .ne 11, 3) := by decide +kernel
theorem dL_does_306 : decode cL_does 306 = .ok (.aload_n 0, 1) := by decide +kernel
theorem dL_does_307 : decode cL_does 307 = .ok (.iload_n 2, 1) := by decide +kernel
theorem dL_does_308 : decode cL_does 308 = .ok (.invokevirtual 74, 3) := by decide +kernel
theorem dL_does_311 : decode cL_does 311 = .ok (.goto 67, 3) := by decide +kernel
theorem dL_does_314 : decode cL_does 314 = .ok (.iload_n 1, 1) := by decide +kernel
theorem dL_does_315 : decode cL_does 315 = .ok (.bipush 19, 2) := by decide +kernel
theorem dL_does_317 : decode cL_does 317 = .ok (.if_icmp .ne 11, 3) := by decide +kernel
theorem dL_does_320 : decode cL_does 320 = .ok (.aload_n 0, 1) := by decide +kernel
theorem dL_does_321 : decode cL_does 321 = .ok (.iload_n 2, 1) := by decide +kernel
theorem dL_does_322 : decode cL_does 322 = .ok (.invokestatic 77, 3) := by decide +kernel
theorem dL_does_325 : decode cL_does 325 = .ok (.goto 53, 3) := by decide +kernel
theorem dL_does_328 : decode cL_does 328 = .ok (.iload_n 1, 1) := by decide +kernel
theorem dL_does_329 : decode cL_does 329 = .ok (.bipush 20, 2) := by decide +kernel
theorem dL_does_331 : decode cL_does 331 = .ok (.if_icmp .ne 11, 3) := by decide +kernel
theorem dL_does_334 : decode cL_does 334 = .ok (.aload_n 0, 1) := by decide +kernel
theorem dL_does_335 : decode cL_does 335 = .ok (.iload_n 2, 1) := by decide +kernel
theorem dL_does_336 : decode cL_does 336 = .ok (.invokevirtual 80, 3) := by decide +kernel
theorem dL_does_339 : decode cL_does 339 = .ok (.goto 39, 3) := by decide +kernel
theorem dL_does_342 : decode cL_does 342 = .ok (.iload_n 1, 1) := by decide +kernel
theorem dL_does_343 : decode cL_does 343 = .ok (.bipush 21, 2) := by decide +kernel
theorem dL_does_345 : decode cL_does 345 = .ok (.if_icmp .ne 12, 3) := by decide +kernel
theorem dL_does_348 : decode cL_does 348 = .ok (.aload_n 0, 1) := by decide +kernel
theorem dL_does_349 : decode cL_does 349 = .ok (.iload_n 2, 1) := by decide +kernel
theorem dL_does_350 : decode cL_does 350 = .ok (.iload_n 3, 1) := by decide +kernel
theorem dL_does_351 : decode cL_does 351 = .ok (.invokevirtual 83, 3) := by decide +kernel
theorem dL_does_354 : decode cL_does 354 = .ok (.goto 24, 3) := by decide +kernel
theorem dL_does_357 : decode cL_does 357 = .ok (.iload_n 1, 1) := by decide +kernel
theorem dL_does_358 : decode cL_does 358 = .ok (.bipush 22, 2) := by decide +kernel
theorem dL_does_360 : decode cL_does 360 = .ok (.if_icmp .ne 12, 3) := by decide +kernel
theorem dL_does_363 : decode cL_does 363 = .ok (.aload_n 0, 1) := by decide +kernel
theorem dL_does_364 : decode cL_does 364 = .ok (.iload_n 2, 1) := by decide +kernel
theorem dL_does_365 : decode cL_does 365 = .ok (.iload_n 3, 1) := by decide +kernel
theorem dL_does_366 : decode cL_does 366 = .ok (.invokevirtual 86, 3) := by decide +kernel
theorem dL_does_369 : decode cL_does 369 = .ok (.goto 9, 3) := by decide +kernel
theorem dL_does_372 : decode cL_does 372 = .ok (.aload_n 0, 1) := by decide +kernel
theorem dL_does_373 : decode cL_does 373 = .ok (.iload_n 2, 1) := by decide +kernel
theorem dL_does_374 : decode cL_does 374 = .ok (.iload_n 3, 1) := by decide +kernel
theorem dL_does_375 : decode cL_does 375 = .ok (.invokevirtual 89, 3) := by decide +kernel
theorem dL_does_378 : decode cL_does 378 = .ok (.ireturn, 1) := by decide +kernel
theorem dL_does_379 : decode cL_does 379 = .ok (.astore 6, 2) := by decide +kernel
theorem dL_does_381 : decode cL_does 381 = .ok (.ldc 94, 2) := by decide +kernel
theorem dL_does_383 : decode cL_does 383 = .ok (.ireturn, 1) := by decide +kernel
theorem dL_does_384 : decode cL_does 384 = .ok (.astore 6, 2) := by decide +kernel
theorem dL_does_386 : decode cL_does 386 = .ok (.ldc 97, 2) := by decide +kernel
theorem dL_does_388 : decode cL_does 388 = .ok (.ireturn, 1) := by decide +kernel
theorem dL_does_389 : decode cL_does 389 = .ok (.astore 6, 2) := by decide +kernel
theorem dL_does_391 : decode cL_does 391 = .ok (.ldc 100, 2) := by decide +kernel
theorem dL_does_393 : decode cL_does 393 = .ok (.ireturn, 1) := by decide +kernel
def hs_L_does : List HE := [(1, 92, 379, 6, 381), (2, 95, 384, 6, 386), (3, 98, 389, 6, 391)]
theorem hok_L_does : ∀ h ∈ hs_L_does, HOk RL cL_does 7 h := ac (⟨⟨by decide, by decide⟩, by decide, w_131, w_xc1, by decide, Or.inr ⟨dL_does_379, rfl⟩⟩) (ac (⟨⟨by decide, by decide⟩, by decide, w_132, w_xc2, by decide, Or.inr ⟨dL_does_384, rfl⟩⟩) (ac (⟨⟨by decide, by decide⟩, by decide, w_133, w_xc3, by decide, Or.inr ⟨dL_does_389, rfl⟩⟩) (an)))
def tab_L_does : List (Nat × Sem) := [(0, op_il 1 1), (1, op_if (fun x => ¬ x = 0) 17 4), (4, op_al 0 5), (5, op_il 2 6), (6, op_il 3 7), (7, op_il 4 9), (9, op_il 5 11), (11, op_callHGV 6 sp_X4_person 5 9 14 hs_L_does), (14, op_go 378), (17, op_il 1 18), (18, op_ic 1 19), (19, op_cmp (fun x y => ¬ x = y) 31 22), (22, op_al 0 23), (23, op_il 2 24), (24, op_il 3 25), (25, op_callHV 6 sp_X4_rite 3 2 28 hs_L_does), (28, op_go 378), (31, op_il 1 32), (32, op_ic 2 33), (33, op_cmp (fun x y => ¬ x = y) 45 36), (36, op_al 0 37), (37, op_il 2 38), (38, op_il 3 39), (39, op_callHV 6 sp_X4_home 3 2 42 hs_L_does), (42, op_go 378), (45, op_il 1 46), (46, op_ic 3 47), (47, op_cmp (fun x y => ¬ x = y) 58 50), (50, op_al 0 51), (51, op_il 2 52), (52, op_callHS sp_L_ordered 2 2 55 hs_L_does), (55, op_go 378), (58, op_il 1 59), (59, op_ic 4 60), (60, op_cmp (fun x y => ¬ x = y) 79 63), (63, op_al 0 64), (64, op_il 2 65), (65, op_callHV 6 sp_X4_ban 2 1 68 hs_L_does), (68, op_if (fun x => x = 0) 75 71), (71, op_ic 1 72), (72, op_go 378), (75, op_ic 0 76), (76, op_go 378), (79, op_il 1 80), (80, op_ic 5 81), (81, op_cmp (fun x y => ¬ x = y) 92 84), (84, op_al 0 85), (85, op_il 2 86), (86, op_callHV 6 sp_X4_die 2 2 89 hs_L_does), (89, op_go 378), (92, op_il 1 93), (93, op_ic 6 95), (95, op_cmp (fun x y => ¬ x = y) 109 98), (98, op_al 0 99), (99, op_il 2 100), (100, op_il 3 101), (101, op_il 4 103), (103, op_callHS sp_L_dispensed 4 10 106 hs_L_does), (106, op_go 378), (109, op_il 1 110), (110, op_ic 7 112), (112, op_cmp (fun x y => ¬ x = y) 126 115), (115, op_al 0 116), (116, op_il 2 117), (117, op_il 3 118), (118, op_il 4 120), (120, op_callHS sp_L_given 4 1 123 hs_L_does), (123, op_go 378), (126, op_il 1 127), (127, op_ic 8 129), (129, op_cmp (fun x y => ¬ x = y) 148 132), (132, op_al 0 133), (133, op_il 2 134), (134, op_callHV 6 sp_X4_error 2 1 137 hs_L_does), (137, op_if (fun x => x = 0) 144 140), (140, op_ic 1 141), (141, op_go 378), (144, op_ic 0 145), (145, op_go 378), (148, op_il 1 149), (149, op_ic 9 151), (151, op_cmp (fun x y => ¬ x = y) 167 154), (154, op_al 0 155), (155, op_il 2 156), (156, op_il 3 157), (157, op_il 4 159), (159, op_il 5 161), (161, op_callHGV 6 sp_X4_vow 5 13 164 hs_L_does), (164, op_go 378), (167, op_il 1 168), (168, op_ic 10 170), (170, op_cmp (fun x y => ¬ x = y) 181 173), (173, op_al 0 174), (174, op_il 2 175), (175, op_callHS sp_L_healed 2 3 178 hs_L_does), (178, op_go 378), (181, op_il 1 182), (182, op_ic 11 184), (184, op_cmp (fun x y => ¬ x = y) 195 187), (187, op_al 0 188), (188, op_il 2 189), (189, op_callHS sp_L_graced 2 2 192 hs_L_does), (192, op_go 378), (195, op_il 1 196), (196, op_ic 12 198), (198, op_cmp (fun x y => ¬ x = y) 209 201), (201, op_al 0 202), (202, op_il 2 203), (203, op_callHV 6 sp_X4_documents 2 4 206 hs_L_does), (206, op_go 378), (209, op_il 1 210), (210, op_ic 13 212), (212, op_cmp (fun x y => ¬ x = y) 237 215), (215, op_al 0 216), (216, op_il 2 217), (217, op_il 3 218), (218, op_il 4 220), (220, op_il 5 222), (222, op_ic 1 223), (223, op_cmp (fun x y => ¬ x = y) 230 226), (226, op_ic 1 227), (227, op_go 231), (230, op_ic 0 231), (231, op_callHGV 6 sp_X4_cause 5 16 234 hs_L_does), (234, op_go 378), (237, op_il 1 238), (238, op_ic 14 240), (240, op_cmp (fun x y => ¬ x = y) 252 243), (243, op_al 0 244), (244, op_il 2 245), (245, op_il 3 246), (246, op_callHV 6 sp_X4_doubt 3 3 249 hs_L_does), (249, op_go 378), (252, op_il 1 253), (253, op_ic 15 255), (255, op_cmp (fun x y => ¬ x = y) 269 258), (258, op_al 0 259), (259, op_il 2 260), (260, op_il 3 261), (261, op_il 4 263), (263, op_callHV 6 sp_X4_proof 4 5 266 hs_L_does), (266, op_go 378), (269, op_il 1 270), (270, op_ic 16 272), (272, op_cmp (fun x y => ¬ x = y) 283 275), (275, op_al 0 276), (276, op_il 2 277), (277, op_callHV 6 sp_X4_publish 2 2 280 hs_L_does), (280, op_go 378), (283, op_il 1 284), (284, op_ic 17 286), (286, op_cmp (fun x y => ¬ x = y) 300 289), (289, op_al 0 290), (290, op_il 2 291), (291, op_il 3 292), (292, op_il 4 294), (294, op_callHV 6 sp_X4_vote 4 5 297 hs_L_does), (297, op_go 378), (300, op_il 1 301), (301, op_ic 18 303), (303, op_cmp (fun x y => ¬ x = y) 314 306), (306, op_al 0 307), (307, op_il 2 308), (308, op_callHV 6 sp_X4_sentence 2 3 311 hs_L_does), (311, op_go 378), (314, op_il 1 315), (315, op_ic 19 317), (317, op_cmp (fun x y => ¬ x = y) 328 320), (320, op_al 0 321), (321, op_il 2 322), (322, op_callHS sp_L_appealed 2 4 325 hs_L_does), (325, op_go 378), (328, op_il 1 329), (329, op_ic 20 331), (331, op_cmp (fun x y => ¬ x = y) 342 334), (334, op_al 0 335), (335, op_il 2 336), (336, op_callHV 6 sp_X4_pass 2 1 339 hs_L_does), (339, op_go 378), (342, op_il 1 343), (343, op_ic 21 345), (345, op_cmp (fun x y => ¬ x = y) 357 348), (348, op_al 0 349), (349, op_il 2 350), (350, op_il 3 351), (351, op_callHV 6 sp_X4_vowOf 3 2 354 hs_L_does), (354, op_go 378), (357, op_il 1 358), (358, op_ic 22 360), (360, op_cmp (fun x y => ¬ x = y) 372 363), (363, op_al 0 364), (364, op_il 2 365), (365, op_il 3 366), (366, op_callHV 6 sp_X4_causeOf 3 2 369 hs_L_does), (369, op_go 378), (372, op_al 0 373), (373, op_il 2 374), (374, op_il 3 375), (375, op_callHV 6 sp_X4_bound 3 2 378 hs_L_does), (378, op_iret), (381, op_ic (-3000000) 383), (383, op_iret), (386, op_ic (-2000000) 388), (388, op_iret), (391, op_ic (-1000000) 393), (393, op_iret)]
set_option maxRecDepth 20000 in
theorem tok_L_does : ∀ q ∈ tab_L_does, HGSnd (hTab 378 hs_L_does) RL cL_does 7 12 16 (some .int) q.1 q.2 := by
  unfold tab_L_does
  refine hcons (hsnd_g (hk_iload_n dL_does_0 rfl rfl)) ?_
  refine hcons (hsnd_g (hk_if_ne dL_does_1 rfl rfl)) ?_
  refine hcons (hsnd_g (hk_aload_n dL_does_4 rfl rfl)) ?_
  refine hcons (hsnd_g (hk_iload_n dL_does_5 rfl rfl)) ?_
  refine hcons (hsnd_g (hk_iload_n dL_does_6 rfl rfl)) ?_
  refine hcons (hsnd_g (hk_iload dL_does_7 rfl)) ?_
  refine hcons (hsnd_g (hk_iload dL_does_9 rfl)) ?_
  refine hcons (hk_invokevirtualG M_X4_person hok_L_does (by decide) (C := RX4) (T := TX4) (nf := 8) rfl w_134 w_135 w_136 w_20 w_137 ⟨rfl, by decide, by decide, by decide +kernel⟩ (by decide) (by decide) dL_does_11 rfl) ?_
  refine hcons (hsnd_g (hk_goto dL_does_14 rfl)) ?_
  refine hcons (hsnd_g (hk_iload_n dL_does_17 rfl rfl)) ?_
  refine hcons (hsnd_g (hk_iconst dL_does_18 rfl rfl)) ?_
  refine hcons (hsnd_g (hk_icmp_ne dL_does_19 rfl rfl)) ?_
  refine hcons (hsnd_g (hk_aload_n dL_does_22 rfl rfl)) ?_
  refine hcons (hsnd_g (hk_iload_n dL_does_23 rfl rfl)) ?_
  refine hcons (hsnd_g (hk_iload_n dL_does_24 rfl rfl)) ?_
  refine hcons (hsnd_g (hk_invokevirtual M_X4_rite hok_L_does (by decide) (C := RX4) (T := TX4) (nf := 8) rfl w_356 w_357 w_358 w_20 w_359 ⟨rfl, by decide, by decide, by decide +kernel⟩ (by decide) (by decide) dL_does_25 rfl)) ?_
  refine hcons (hsnd_g (hk_goto dL_does_28 rfl)) ?_
  refine hcons (hsnd_g (hk_iload_n dL_does_31 rfl rfl)) ?_
  refine hcons (hsnd_g (hk_iconst dL_does_32 rfl rfl)) ?_
  refine hcons (hsnd_g (hk_icmp_ne dL_does_33 rfl rfl)) ?_
  refine hcons (hsnd_g (hk_aload_n dL_does_36 rfl rfl)) ?_
  refine hcons (hsnd_g (hk_iload_n dL_does_37 rfl rfl)) ?_
  refine hcons (hsnd_g (hk_iload_n dL_does_38 rfl rfl)) ?_
  refine hcons (hsnd_g (hk_invokevirtual M_X4_home hok_L_does (by decide) (C := RX4) (T := TX4) (nf := 8) rfl w_378 w_379 w_380 w_20 w_381 ⟨rfl, by decide, by decide, by decide +kernel⟩ (by decide) (by decide) dL_does_39 rfl)) ?_
  refine hcons (hsnd_g (hk_goto dL_does_42 rfl)) ?_
  refine hcons (hsnd_g (hk_iload_n dL_does_45 rfl rfl)) ?_
  refine hcons (hsnd_g (hk_iconst dL_does_46 rfl rfl)) ?_
  refine hcons (hsnd_g (hk_icmp_ne dL_does_47 rfl rfl)) ?_
  refine hcons (hsnd_g (hk_aload_n dL_does_50 rfl rfl)) ?_
  refine hcons (hsnd_g (hk_iload_n dL_does_51 rfl rfl)) ?_
  refine hcons (hsnd_g (hk_invokestatic M_L_ordered hok_L_does (by decide) w_382 w_383 w_19 w_384 ⟨by decide, by decide, by decide +kernel⟩ (by decide) (by decide) dL_does_52 rfl)) ?_
  refine hcons (hsnd_g (hk_goto dL_does_55 rfl)) ?_
  refine hcons (hsnd_g (hk_iload_n dL_does_58 rfl rfl)) ?_
  refine hcons (hsnd_g (hk_iconst dL_does_59 rfl rfl)) ?_
  refine hcons (hsnd_g (hk_icmp_ne dL_does_60 rfl rfl)) ?_
  refine hcons (hsnd_g (hk_aload_n dL_does_63 rfl rfl)) ?_
  refine hcons (hsnd_g (hk_iload_n dL_does_64 rfl rfl)) ?_
  refine hcons (hsnd_g (hk_invokevirtual M_X4_ban hok_L_does (by decide) (C := RX4) (T := TX4) (nf := 8) rfl w_389 w_390 w_391 w_20 w_392 ⟨rfl, by decide, by decide, by decide +kernel⟩ (by decide) (by decide) dL_does_65 rfl)) ?_
  refine hcons (hsnd_g (hk_if_eq dL_does_68 rfl rfl)) ?_
  refine hcons (hsnd_g (hk_iconst dL_does_71 rfl rfl)) ?_
  refine hcons (hsnd_g (hk_goto dL_does_72 rfl)) ?_
  refine hcons (hsnd_g (hk_iconst dL_does_75 rfl rfl)) ?_
  refine hcons (hsnd_g (hk_goto dL_does_76 rfl)) ?_
  refine hcons (hsnd_g (hk_iload_n dL_does_79 rfl rfl)) ?_
  refine hcons (hsnd_g (hk_iconst dL_does_80 rfl rfl)) ?_
  refine hcons (hsnd_g (hk_icmp_ne dL_does_81 rfl rfl)) ?_
  refine hcons (hsnd_g (hk_aload_n dL_does_84 rfl rfl)) ?_
  refine hcons (hsnd_g (hk_iload_n dL_does_85 rfl rfl)) ?_
  refine hcons (hsnd_g (hk_invokevirtual M_X4_die hok_L_does (by decide) (C := RX4) (T := TX4) (nf := 8) rfl w_393 w_394 w_395 w_20 w_396 ⟨rfl, by decide, by decide, by decide +kernel⟩ (by decide) (by decide) dL_does_86 rfl)) ?_
  refine hcons (hsnd_g (hk_goto dL_does_89 rfl)) ?_
  refine hcons (hsnd_g (hk_iload_n dL_does_92 rfl rfl)) ?_
  refine hcons (hsnd_g (hk_bipush dL_does_93 rfl rfl)) ?_
  refine hcons (hsnd_g (hk_icmp_ne dL_does_95 rfl rfl)) ?_
  refine hcons (hsnd_g (hk_aload_n dL_does_98 rfl rfl)) ?_
  refine hcons (hsnd_g (hk_iload_n dL_does_99 rfl rfl)) ?_
  refine hcons (hsnd_g (hk_iload_n dL_does_100 rfl rfl)) ?_
  refine hcons (hsnd_g (hk_iload dL_does_101 rfl)) ?_
  refine hcons (hsnd_g (hk_invokestatic M_L_dispensed hok_L_does (by decide) w_410 w_411 w_19 w_412 ⟨by decide, by decide, by decide +kernel⟩ (by decide) (by decide) dL_does_103 rfl)) ?_
  refine hcons (hsnd_g (hk_goto dL_does_106 rfl)) ?_
  refine hcons (hsnd_g (hk_iload_n dL_does_109 rfl rfl)) ?_
  refine hcons (hsnd_g (hk_bipush dL_does_110 rfl rfl)) ?_
  refine hcons (hsnd_g (hk_icmp_ne dL_does_112 rfl rfl)) ?_
  refine hcons (hsnd_g (hk_aload_n dL_does_115 rfl rfl)) ?_
  refine hcons (hsnd_g (hk_iload_n dL_does_116 rfl rfl)) ?_
  refine hcons (hsnd_g (hk_iload_n dL_does_117 rfl rfl)) ?_
  refine hcons (hsnd_g (hk_iload dL_does_118 rfl)) ?_
  refine hcons (hsnd_g (hk_invokestatic M_L_given hok_L_does (by decide) w_439 w_440 w_19 w_441 ⟨by decide, by decide, by decide +kernel⟩ (by decide) (by decide) dL_does_120 rfl)) ?_
  refine hcons (hsnd_g (hk_goto dL_does_123 rfl)) ?_
  refine hcons (hsnd_g (hk_iload_n dL_does_126 rfl rfl)) ?_
  refine hcons (hsnd_g (hk_bipush dL_does_127 rfl rfl)) ?_
  refine hcons (hsnd_g (hk_icmp_ne dL_does_129 rfl rfl)) ?_
  refine hcons (hsnd_g (hk_aload_n dL_does_132 rfl rfl)) ?_
  refine hcons (hsnd_g (hk_iload_n dL_does_133 rfl rfl)) ?_
  refine hcons (hsnd_g (hk_invokevirtual M_X4_error hok_L_does (by decide) (C := RX4) (T := TX4) (nf := 8) rfl w_449 w_450 w_451 w_20 w_452 ⟨rfl, by decide, by decide, by decide +kernel⟩ (by decide) (by decide) dL_does_134 rfl)) ?_
  refine hcons (hsnd_g (hk_if_eq dL_does_137 rfl rfl)) ?_
  refine hcons (hsnd_g (hk_iconst dL_does_140 rfl rfl)) ?_
  refine hcons (hsnd_g (hk_goto dL_does_141 rfl)) ?_
  refine hcons (hsnd_g (hk_iconst dL_does_144 rfl rfl)) ?_
  refine hcons (hsnd_g (hk_goto dL_does_145 rfl)) ?_
  refine hcons (hsnd_g (hk_iload_n dL_does_148 rfl rfl)) ?_
  refine hcons (hsnd_g (hk_bipush dL_does_149 rfl rfl)) ?_
  refine hcons (hsnd_g (hk_icmp_ne dL_does_151 rfl rfl)) ?_
  refine hcons (hsnd_g (hk_aload_n dL_does_154 rfl rfl)) ?_
  refine hcons (hsnd_g (hk_iload_n dL_does_155 rfl rfl)) ?_
  refine hcons (hsnd_g (hk_iload_n dL_does_156 rfl rfl)) ?_
  refine hcons (hsnd_g (hk_iload dL_does_157 rfl)) ?_
  refine hcons (hsnd_g (hk_iload dL_does_159 rfl)) ?_
  refine hcons (hk_invokevirtualG M_X4_vow hok_L_does (by decide) (C := RX4) (T := TX4) (nf := 8) rfl w_453 w_454 w_455 w_20 w_456 ⟨rfl, by decide, by decide, by decide +kernel⟩ (by decide) (by decide) dL_does_161 rfl) ?_
  refine hcons (hsnd_g (hk_goto dL_does_164 rfl)) ?_
  refine hcons (hsnd_g (hk_iload_n dL_does_167 rfl rfl)) ?_
  refine hcons (hsnd_g (hk_bipush dL_does_168 rfl rfl)) ?_
  refine hcons (hsnd_g (hk_icmp_ne dL_does_170 rfl rfl)) ?_
  refine hcons (hsnd_g (hk_aload_n dL_does_173 rfl rfl)) ?_
  refine hcons (hsnd_g (hk_iload_n dL_does_174 rfl rfl)) ?_
  refine hcons (hsnd_g (hk_invokestatic M_L_healed hok_L_does (by decide) w_499 w_500 w_19 w_501 ⟨by decide, by decide, by decide +kernel⟩ (by decide) (by decide) dL_does_175 rfl)) ?_
  refine hcons (hsnd_g (hk_goto dL_does_178 rfl)) ?_
  refine hcons (hsnd_g (hk_iload_n dL_does_181 rfl rfl)) ?_
  refine hcons (hsnd_g (hk_bipush dL_does_182 rfl rfl)) ?_
  refine hcons (hsnd_g (hk_icmp_ne dL_does_184 rfl rfl)) ?_
  refine hcons (hsnd_g (hk_aload_n dL_does_187 rfl rfl)) ?_
  refine hcons (hsnd_g (hk_iload_n dL_does_188 rfl rfl)) ?_
  refine hcons (hsnd_g (hk_invokestatic M_L_graced hok_L_does (by decide) w_522 w_523 w_19 w_524 ⟨by decide, by decide, by decide +kernel⟩ (by decide) (by decide) dL_does_189 rfl)) ?_
  refine hcons (hsnd_g (hk_goto dL_does_192 rfl)) ?_
  refine hcons (hsnd_g (hk_iload_n dL_does_195 rfl rfl)) ?_
  refine hcons (hsnd_g (hk_bipush dL_does_196 rfl rfl)) ?_
  refine hcons (hsnd_g (hk_icmp_ne dL_does_198 rfl rfl)) ?_
  refine hcons (hsnd_g (hk_aload_n dL_does_201 rfl rfl)) ?_
  refine hcons (hsnd_g (hk_iload_n dL_does_202 rfl rfl)) ?_
  refine hcons (hsnd_g (hk_invokevirtual M_X4_documents hok_L_does (by decide) (C := RX4) (T := TX4) (nf := 8) rfl w_538 w_539 w_540 w_20 w_541 ⟨rfl, by decide, by decide, by decide +kernel⟩ (by decide) (by decide) dL_does_203 rfl)) ?_
  refine hcons (hsnd_g (hk_goto dL_does_206 rfl)) ?_
  refine hcons (hsnd_g (hk_iload_n dL_does_209 rfl rfl)) ?_
  refine hcons (hsnd_g (hk_bipush dL_does_210 rfl rfl)) ?_
  refine hcons (hsnd_g (hk_icmp_ne dL_does_212 rfl rfl)) ?_
  refine hcons (hsnd_g (hk_aload_n dL_does_215 rfl rfl)) ?_
  refine hcons (hsnd_g (hk_iload_n dL_does_216 rfl rfl)) ?_
  refine hcons (hsnd_g (hk_iload_n dL_does_217 rfl rfl)) ?_
  refine hcons (hsnd_g (hk_iload dL_does_218 rfl)) ?_
  refine hcons (hsnd_g (hk_iload dL_does_220 rfl)) ?_
  refine hcons (hsnd_g (hk_iconst dL_does_222 rfl rfl)) ?_
  refine hcons (hsnd_g (hk_icmp_ne dL_does_223 rfl rfl)) ?_
  refine hcons (hsnd_g (hk_iconst dL_does_226 rfl rfl)) ?_
  refine hcons (hsnd_g (hk_goto dL_does_227 rfl)) ?_
  refine hcons (hsnd_g (hk_iconst dL_does_230 rfl rfl)) ?_
  refine hcons (hk_invokevirtualG M_X4_cause hok_L_does (by decide) (C := RX4) (T := TX4) (nf := 8) rfl w_546 w_547 w_548 w_20 w_549 ⟨rfl, by decide, by decide, by decide +kernel⟩ (by decide) (by decide) dL_does_231 rfl) ?_
  refine hcons (hsnd_g (hk_goto dL_does_234 rfl)) ?_
  refine hcons (hsnd_g (hk_iload_n dL_does_237 rfl rfl)) ?_
  refine hcons (hsnd_g (hk_bipush dL_does_238 rfl rfl)) ?_
  refine hcons (hsnd_g (hk_icmp_ne dL_does_240 rfl rfl)) ?_
  refine hcons (hsnd_g (hk_aload_n dL_does_243 rfl rfl)) ?_
  refine hcons (hsnd_g (hk_iload_n dL_does_244 rfl rfl)) ?_
  refine hcons (hsnd_g (hk_iload_n dL_does_245 rfl rfl)) ?_
  refine hcons (hsnd_g (hk_invokevirtual M_X4_doubt hok_L_does (by decide) (C := RX4) (T := TX4) (nf := 8) rfl w_596 w_597 w_598 w_20 w_599 ⟨rfl, by decide, by decide, by decide +kernel⟩ (by decide) (by decide) dL_does_246 rfl)) ?_
  refine hcons (hsnd_g (hk_goto dL_does_249 rfl)) ?_
  refine hcons (hsnd_g (hk_iload_n dL_does_252 rfl rfl)) ?_
  refine hcons (hsnd_g (hk_bipush dL_does_253 rfl rfl)) ?_
  refine hcons (hsnd_g (hk_icmp_ne dL_does_255 rfl rfl)) ?_
  refine hcons (hsnd_g (hk_aload_n dL_does_258 rfl rfl)) ?_
  refine hcons (hsnd_g (hk_iload_n dL_does_259 rfl rfl)) ?_
  refine hcons (hsnd_g (hk_iload_n dL_does_260 rfl rfl)) ?_
  refine hcons (hsnd_g (hk_iload dL_does_261 rfl)) ?_
  refine hcons (hsnd_g (hk_invokevirtual M_X4_proof hok_L_does (by decide) (C := RX4) (T := TX4) (nf := 8) rfl w_604 w_605 w_606 w_20 w_607 ⟨rfl, by decide, by decide, by decide +kernel⟩ (by decide) (by decide) dL_does_263 rfl)) ?_
  refine hcons (hsnd_g (hk_goto dL_does_266 rfl)) ?_
  refine hcons (hsnd_g (hk_iload_n dL_does_269 rfl rfl)) ?_
  refine hcons (hsnd_g (hk_bipush dL_does_270 rfl rfl)) ?_
  refine hcons (hsnd_g (hk_icmp_ne dL_does_272 rfl rfl)) ?_
  refine hcons (hsnd_g (hk_aload_n dL_does_275 rfl rfl)) ?_
  refine hcons (hsnd_g (hk_iload_n dL_does_276 rfl rfl)) ?_
  refine hcons (hsnd_g (hk_invokevirtual M_X4_publish hok_L_does (by decide) (C := RX4) (T := TX4) (nf := 8) rfl w_608 w_609 w_610 w_20 w_611 ⟨rfl, by decide, by decide, by decide +kernel⟩ (by decide) (by decide) dL_does_277 rfl)) ?_
  refine hcons (hsnd_g (hk_goto dL_does_280 rfl)) ?_
  refine hcons (hsnd_g (hk_iload_n dL_does_283 rfl rfl)) ?_
  refine hcons (hsnd_g (hk_bipush dL_does_284 rfl rfl)) ?_
  refine hcons (hsnd_g (hk_icmp_ne dL_does_286 rfl rfl)) ?_
  refine hcons (hsnd_g (hk_aload_n dL_does_289 rfl rfl)) ?_
  refine hcons (hsnd_g (hk_iload_n dL_does_290 rfl rfl)) ?_
  refine hcons (hsnd_g (hk_iload_n dL_does_291 rfl rfl)) ?_
  refine hcons (hsnd_g (hk_iload dL_does_292 rfl)) ?_
  refine hcons (hsnd_g (hk_invokevirtual M_X4_vote hok_L_does (by decide) (C := RX4) (T := TX4) (nf := 8) rfl w_616 w_617 w_618 w_20 w_619 ⟨rfl, by decide, by decide, by decide +kernel⟩ (by decide) (by decide) dL_does_294 rfl)) ?_
  refine hcons (hsnd_g (hk_goto dL_does_297 rfl)) ?_
  refine hcons (hsnd_g (hk_iload_n dL_does_300 rfl rfl)) ?_
  refine hcons (hsnd_g (hk_bipush dL_does_301 rfl rfl)) ?_
  refine hcons (hsnd_g (hk_icmp_ne dL_does_303 rfl rfl)) ?_
  refine hcons (hsnd_g (hk_aload_n dL_does_306 rfl rfl)) ?_
  refine hcons (hsnd_g (hk_iload_n dL_does_307 rfl rfl)) ?_
  refine hcons (hsnd_g (hk_invokevirtual M_X4_sentence hok_L_does (by decide) (C := RX4) (T := TX4) (nf := 8) rfl w_624 w_625 w_626 w_20 w_627 ⟨rfl, by decide, by decide, by decide +kernel⟩ (by decide) (by decide) dL_does_308 rfl)) ?_
  refine hcons (hsnd_g (hk_goto dL_does_311 rfl)) ?_
  refine hcons (hsnd_g (hk_iload_n dL_does_314 rfl rfl)) ?_
  refine hcons (hsnd_g (hk_bipush dL_does_315 rfl rfl)) ?_
  refine hcons (hsnd_g (hk_icmp_ne dL_does_317 rfl rfl)) ?_
  refine hcons (hsnd_g (hk_aload_n dL_does_320 rfl rfl)) ?_
  refine hcons (hsnd_g (hk_iload_n dL_does_321 rfl rfl)) ?_
  refine hcons (hsnd_g (hk_invokestatic M_L_appealed hok_L_does (by decide) w_655 w_656 w_19 w_657 ⟨by decide, by decide, by decide +kernel⟩ (by decide) (by decide) dL_does_322 rfl)) ?_
  refine hcons (hsnd_g (hk_goto dL_does_325 rfl)) ?_
  refine hcons (hsnd_g (hk_iload_n dL_does_328 rfl rfl)) ?_
  refine hcons (hsnd_g (hk_bipush dL_does_329 rfl rfl)) ?_
  refine hcons (hsnd_g (hk_icmp_ne dL_does_331 rfl rfl)) ?_
  refine hcons (hsnd_g (hk_aload_n dL_does_334 rfl rfl)) ?_
  refine hcons (hsnd_g (hk_iload_n dL_does_335 rfl rfl)) ?_
  refine hcons (hsnd_g (hk_invokevirtual M_X4_pass hok_L_does (by decide) (C := RX4) (T := TX4) (nf := 8) rfl w_663 w_664 w_665 w_20 w_666 ⟨rfl, by decide, by decide, by decide +kernel⟩ (by decide) (by decide) dL_does_336 rfl)) ?_
  refine hcons (hsnd_g (hk_goto dL_does_339 rfl)) ?_
  refine hcons (hsnd_g (hk_iload_n dL_does_342 rfl rfl)) ?_
  refine hcons (hsnd_g (hk_bipush dL_does_343 rfl rfl)) ?_
  refine hcons (hsnd_g (hk_icmp_ne dL_does_345 rfl rfl)) ?_
  refine hcons (hsnd_g (hk_aload_n dL_does_348 rfl rfl)) ?_
  refine hcons (hsnd_g (hk_iload_n dL_does_349 rfl rfl)) ?_
  refine hcons (hsnd_g (hk_iload_n dL_does_350 rfl rfl)) ?_
  refine hcons (hsnd_g (hk_invokevirtual M_X4_vowOf hok_L_does (by decide) (C := RX4) (T := TX4) (nf := 8) rfl w_667 w_668 w_669 w_20 w_670 ⟨rfl, by decide, by decide, by decide +kernel⟩ (by decide) (by decide) dL_does_351 rfl)) ?_
  refine hcons (hsnd_g (hk_goto dL_does_354 rfl)) ?_
  refine hcons (hsnd_g (hk_iload_n dL_does_357 rfl rfl)) ?_
  refine hcons (hsnd_g (hk_bipush dL_does_358 rfl rfl)) ?_
  refine hcons (hsnd_g (hk_icmp_ne dL_does_360 rfl rfl)) ?_
  refine hcons (hsnd_g (hk_aload_n dL_does_363 rfl rfl)) ?_
  refine hcons (hsnd_g (hk_iload_n dL_does_364 rfl rfl)) ?_
  refine hcons (hsnd_g (hk_iload_n dL_does_365 rfl rfl)) ?_
  refine hcons (hsnd_g (hk_invokevirtual M_X4_causeOf hok_L_does (by decide) (C := RX4) (T := TX4) (nf := 8) rfl w_671 w_672 w_673 w_20 w_674 ⟨rfl, by decide, by decide, by decide +kernel⟩ (by decide) (by decide) dL_does_366 rfl)) ?_
  refine hcons (hsnd_g (hk_goto dL_does_369 rfl)) ?_
  refine hcons (hsnd_g (hk_aload_n dL_does_372 rfl rfl)) ?_
  refine hcons (hsnd_g (hk_iload_n dL_does_373 rfl rfl)) ?_
  refine hcons (hsnd_g (hk_iload_n dL_does_374 rfl rfl)) ?_
  refine hcons (hsnd_g (hk_invokevirtual M_X4_bound hok_L_does (by decide) (C := RX4) (T := TX4) (nf := 8) rfl w_675 w_676 w_677 w_20 w_678 ⟨rfl, by decide, by decide, by decide +kernel⟩ (by decide) (by decide) dL_does_375 rfl)) ?_
  refine hcons (hsnd_g (hk_ireturn rfl dL_does_378)) ?_
  refine hcons (hsnd_g (hk_ldc w_683 dL_does_381 rfl)) ?_
  refine hcons (hsnd_g (hk_ireturn rfl dL_does_383)) ?_
  refine hcons (hsnd_g (hk_ldc w_684 dL_does_386 rfl)) ?_
  refine hcons (hsnd_g (hk_ireturn rfl dL_does_388)) ?_
  refine hcons (hsnd_g (hk_ldc w_685 dL_does_391 rfl)) ?_
  refine hcons (hsnd_g (hk_ireturn rfl dL_does_393)) ?_
  exact fun _ h => nomatch h
def doK (w a b c d : Int32) (s : Sg) (N : Nt) : Prop := (w = 0 ∧ sp_X4_person [aR 1 0, aI a, aI b, aI c, aI d] s (doI N) (xN N)) ∨ (w = 1 ∧ sp_X4_rite [aR 1 0, aI a, aI b] s (doI N) (xN N)) ∨ (w = 2 ∧ sp_X4_home [aR 1 0, aI a, aI b] s (doI N) (xN N)) ∨ (w = 3 ∧ sp_L_ordered [aR 1 0, aI a] s (doI N) (xN N)) ∨ (w = 4 ∧ sp_X4_ban [aR 1 0, aI a] s (doZ N) (xN N)) ∨ (w = 5 ∧ sp_X4_die [aR 1 0, aI a] s (doI N) (xN N)) ∨ (w = 6 ∧ sp_L_dispensed [aR 1 0, aI a, aI b, aI c] s (doI N) (xN N)) ∨ (w = 7 ∧ sp_L_given [aR 1 0, aI a, aI b, aI c] s (doI N) (xN N)) ∨ (w = 8 ∧ sp_X4_error [aR 1 0, aI a] s (doZ N) (xN N)) ∨ (w = 9 ∧ sp_X4_vow [aR 1 0, aI a, aI b, aI c, aI d] s (doI N) (xN N)) ∨ (w = 10 ∧ sp_L_healed [aR 1 0, aI a] s (doI N) (xN N)) ∨ (w = 11 ∧ sp_L_graced [aR 1 0, aI a] s (doI N) (xN N)) ∨ (w = 12 ∧ sp_X4_documents [aR 1 0, aI a] s (doI N) (xN N)) ∨ (w = 13 ∧ ((d = 1 ∧ sp_X4_cause [aR 1 0, aI a, aI b, aI c, aI 1] s (doI N) (xN N)) ∨ (¬ d = 1 ∧ sp_X4_cause [aR 1 0, aI a, aI b, aI c, aI 0] s (doI N) (xN N)))) ∨ (w = 14 ∧ sp_X4_doubt [aR 1 0, aI a, aI b] s (doI N) (xN N)) ∨ (w = 15 ∧ sp_X4_proof [aR 1 0, aI a, aI b, aI c] s (doI N) (xN N)) ∨ (w = 16 ∧ sp_X4_publish [aR 1 0, aI a] s (doI N) (xN N)) ∨ (w = 17 ∧ sp_X4_vote [aR 1 0, aI a, aI b, aI c] s (doI N) (xN N)) ∨ (w = 18 ∧ sp_X4_sentence [aR 1 0, aI a] s (doI N) (xN N)) ∨ (w = 19 ∧ sp_L_appealed [aR 1 0, aI a] s (doI N) (xN N)) ∨ (w = 20 ∧ sp_X4_pass [aR 1 0, aI a] s (doI N) (xN N)) ∨ (w = 21 ∧ sp_X4_vowOf [aR 1 0, aI a, aI b] s (doI N) (xN N)) ∨ (w = 22 ∧ sp_X4_causeOf [aR 1 0, aI a, aI b] s (doI N) (xN N)) ∨ (w = 23 ∧ sp_X4_bound [aR 1 0, aI a, aI b] s (doI N) (xN N))
def sp_L_does : Spc := fun av s N _ => match av with
  | [.inl (.inr (1, 0)), .inl (.inl w), .inl (.inl a), .inl (.inl b), .inl (.inl c), .inl (.inl d)] => doK w a b c d s N
  | _ => False
theorem do_0 {a b c d : Int32} {s : Sg} {N : Nt} {X : Xt} (h : sp_X4_person [aR 1 0, aI a, aI b, aI c, aI d] s (doI N) (xN N)) : sp_L_does [aR 1 0, aI 0, aI a, aI b, aI c, aI d] s N X := Or.inl ⟨rfl, h⟩
theorem do_1 {a b c d : Int32} {s : Sg} {N : Nt} {X : Xt} (h : sp_X4_rite [aR 1 0, aI a, aI b] s (doI N) (xN N)) : sp_L_does [aR 1 0, aI 1, aI a, aI b, aI c, aI d] s N X := Or.inr (Or.inl ⟨rfl, h⟩)
theorem do_2 {a b c d : Int32} {s : Sg} {N : Nt} {X : Xt} (h : sp_X4_home [aR 1 0, aI a, aI b] s (doI N) (xN N)) : sp_L_does [aR 1 0, aI 2, aI a, aI b, aI c, aI d] s N X := Or.inr (Or.inr (Or.inl ⟨rfl, h⟩))
theorem do_3 {a b c d : Int32} {s : Sg} {N : Nt} {X : Xt} (h : sp_L_ordered [aR 1 0, aI a] s (doI N) (xN N)) : sp_L_does [aR 1 0, aI 3, aI a, aI b, aI c, aI d] s N X := Or.inr (Or.inr (Or.inr (Or.inl ⟨rfl, h⟩)))
theorem do_4 {a b c d : Int32} {s : Sg} {N : Nt} {X : Xt} (h : sp_X4_ban [aR 1 0, aI a] s (doZ N) (xN N)) : sp_L_does [aR 1 0, aI 4, aI a, aI b, aI c, aI d] s N X := Or.inr (Or.inr (Or.inr (Or.inr (Or.inl ⟨rfl, h⟩))))
theorem do_5 {a b c d : Int32} {s : Sg} {N : Nt} {X : Xt} (h : sp_X4_die [aR 1 0, aI a] s (doI N) (xN N)) : sp_L_does [aR 1 0, aI 5, aI a, aI b, aI c, aI d] s N X := Or.inr (Or.inr (Or.inr (Or.inr (Or.inr (Or.inl ⟨rfl, h⟩)))))
theorem do_6 {a b c d : Int32} {s : Sg} {N : Nt} {X : Xt} (h : sp_L_dispensed [aR 1 0, aI a, aI b, aI c] s (doI N) (xN N)) : sp_L_does [aR 1 0, aI 6, aI a, aI b, aI c, aI d] s N X := Or.inr (Or.inr (Or.inr (Or.inr (Or.inr (Or.inr (Or.inl ⟨rfl, h⟩))))))
theorem do_7 {a b c d : Int32} {s : Sg} {N : Nt} {X : Xt} (h : sp_L_given [aR 1 0, aI a, aI b, aI c] s (doI N) (xN N)) : sp_L_does [aR 1 0, aI 7, aI a, aI b, aI c, aI d] s N X := Or.inr (Or.inr (Or.inr (Or.inr (Or.inr (Or.inr (Or.inr (Or.inl ⟨rfl, h⟩)))))))
theorem do_8 {a b c d : Int32} {s : Sg} {N : Nt} {X : Xt} (h : sp_X4_error [aR 1 0, aI a] s (doZ N) (xN N)) : sp_L_does [aR 1 0, aI 8, aI a, aI b, aI c, aI d] s N X := Or.inr (Or.inr (Or.inr (Or.inr (Or.inr (Or.inr (Or.inr (Or.inr (Or.inl ⟨rfl, h⟩))))))))
theorem do_9 {a b c d : Int32} {s : Sg} {N : Nt} {X : Xt} (h : sp_X4_vow [aR 1 0, aI a, aI b, aI c, aI d] s (doI N) (xN N)) : sp_L_does [aR 1 0, aI 9, aI a, aI b, aI c, aI d] s N X := Or.inr (Or.inr (Or.inr (Or.inr (Or.inr (Or.inr (Or.inr (Or.inr (Or.inr (Or.inl ⟨rfl, h⟩)))))))))
theorem do_10 {a b c d : Int32} {s : Sg} {N : Nt} {X : Xt} (h : sp_L_healed [aR 1 0, aI a] s (doI N) (xN N)) : sp_L_does [aR 1 0, aI 10, aI a, aI b, aI c, aI d] s N X := Or.inr (Or.inr (Or.inr (Or.inr (Or.inr (Or.inr (Or.inr (Or.inr (Or.inr (Or.inr (Or.inl ⟨rfl, h⟩))))))))))
theorem do_11 {a b c d : Int32} {s : Sg} {N : Nt} {X : Xt} (h : sp_L_graced [aR 1 0, aI a] s (doI N) (xN N)) : sp_L_does [aR 1 0, aI 11, aI a, aI b, aI c, aI d] s N X := Or.inr (Or.inr (Or.inr (Or.inr (Or.inr (Or.inr (Or.inr (Or.inr (Or.inr (Or.inr (Or.inr (Or.inl ⟨rfl, h⟩)))))))))))
theorem do_12 {a b c d : Int32} {s : Sg} {N : Nt} {X : Xt} (h : sp_X4_documents [aR 1 0, aI a] s (doI N) (xN N)) : sp_L_does [aR 1 0, aI 12, aI a, aI b, aI c, aI d] s N X := Or.inr (Or.inr (Or.inr (Or.inr (Or.inr (Or.inr (Or.inr (Or.inr (Or.inr (Or.inr (Or.inr (Or.inr (Or.inl ⟨rfl, h⟩))))))))))))
theorem do_13 {a b c d : Int32} {s : Sg} {N : Nt} {X : Xt} (h : ((d = 1 ∧ sp_X4_cause [aR 1 0, aI a, aI b, aI c, aI 1] s (doI N) (xN N)) ∨ (¬ d = 1 ∧ sp_X4_cause [aR 1 0, aI a, aI b, aI c, aI 0] s (doI N) (xN N)))) : sp_L_does [aR 1 0, aI 13, aI a, aI b, aI c, aI d] s N X := Or.inr (Or.inr (Or.inr (Or.inr (Or.inr (Or.inr (Or.inr (Or.inr (Or.inr (Or.inr (Or.inr (Or.inr (Or.inr (Or.inl ⟨rfl, h⟩)))))))))))))
theorem do_14 {a b c d : Int32} {s : Sg} {N : Nt} {X : Xt} (h : sp_X4_doubt [aR 1 0, aI a, aI b] s (doI N) (xN N)) : sp_L_does [aR 1 0, aI 14, aI a, aI b, aI c, aI d] s N X := Or.inr (Or.inr (Or.inr (Or.inr (Or.inr (Or.inr (Or.inr (Or.inr (Or.inr (Or.inr (Or.inr (Or.inr (Or.inr (Or.inr (Or.inl ⟨rfl, h⟩))))))))))))))
theorem do_15 {a b c d : Int32} {s : Sg} {N : Nt} {X : Xt} (h : sp_X4_proof [aR 1 0, aI a, aI b, aI c] s (doI N) (xN N)) : sp_L_does [aR 1 0, aI 15, aI a, aI b, aI c, aI d] s N X := Or.inr (Or.inr (Or.inr (Or.inr (Or.inr (Or.inr (Or.inr (Or.inr (Or.inr (Or.inr (Or.inr (Or.inr (Or.inr (Or.inr (Or.inr (Or.inl ⟨rfl, h⟩)))))))))))))))
theorem do_16 {a b c d : Int32} {s : Sg} {N : Nt} {X : Xt} (h : sp_X4_publish [aR 1 0, aI a] s (doI N) (xN N)) : sp_L_does [aR 1 0, aI 16, aI a, aI b, aI c, aI d] s N X := Or.inr (Or.inr (Or.inr (Or.inr (Or.inr (Or.inr (Or.inr (Or.inr (Or.inr (Or.inr (Or.inr (Or.inr (Or.inr (Or.inr (Or.inr (Or.inr (Or.inl ⟨rfl, h⟩))))))))))))))))
theorem do_17 {a b c d : Int32} {s : Sg} {N : Nt} {X : Xt} (h : sp_X4_vote [aR 1 0, aI a, aI b, aI c] s (doI N) (xN N)) : sp_L_does [aR 1 0, aI 17, aI a, aI b, aI c, aI d] s N X := Or.inr (Or.inr (Or.inr (Or.inr (Or.inr (Or.inr (Or.inr (Or.inr (Or.inr (Or.inr (Or.inr (Or.inr (Or.inr (Or.inr (Or.inr (Or.inr (Or.inr (Or.inl ⟨rfl, h⟩)))))))))))))))))
theorem do_18 {a b c d : Int32} {s : Sg} {N : Nt} {X : Xt} (h : sp_X4_sentence [aR 1 0, aI a] s (doI N) (xN N)) : sp_L_does [aR 1 0, aI 18, aI a, aI b, aI c, aI d] s N X := Or.inr (Or.inr (Or.inr (Or.inr (Or.inr (Or.inr (Or.inr (Or.inr (Or.inr (Or.inr (Or.inr (Or.inr (Or.inr (Or.inr (Or.inr (Or.inr (Or.inr (Or.inr (Or.inl ⟨rfl, h⟩))))))))))))))))))
theorem do_19 {a b c d : Int32} {s : Sg} {N : Nt} {X : Xt} (h : sp_L_appealed [aR 1 0, aI a] s (doI N) (xN N)) : sp_L_does [aR 1 0, aI 19, aI a, aI b, aI c, aI d] s N X := Or.inr (Or.inr (Or.inr (Or.inr (Or.inr (Or.inr (Or.inr (Or.inr (Or.inr (Or.inr (Or.inr (Or.inr (Or.inr (Or.inr (Or.inr (Or.inr (Or.inr (Or.inr (Or.inr (Or.inl ⟨rfl, h⟩)))))))))))))))))))
theorem do_20 {a b c d : Int32} {s : Sg} {N : Nt} {X : Xt} (h : sp_X4_pass [aR 1 0, aI a] s (doI N) (xN N)) : sp_L_does [aR 1 0, aI 20, aI a, aI b, aI c, aI d] s N X := Or.inr (Or.inr (Or.inr (Or.inr (Or.inr (Or.inr (Or.inr (Or.inr (Or.inr (Or.inr (Or.inr (Or.inr (Or.inr (Or.inr (Or.inr (Or.inr (Or.inr (Or.inr (Or.inr (Or.inr (Or.inl ⟨rfl, h⟩))))))))))))))))))))
theorem do_21 {a b c d : Int32} {s : Sg} {N : Nt} {X : Xt} (h : sp_X4_vowOf [aR 1 0, aI a, aI b] s (doI N) (xN N)) : sp_L_does [aR 1 0, aI 21, aI a, aI b, aI c, aI d] s N X := Or.inr (Or.inr (Or.inr (Or.inr (Or.inr (Or.inr (Or.inr (Or.inr (Or.inr (Or.inr (Or.inr (Or.inr (Or.inr (Or.inr (Or.inr (Or.inr (Or.inr (Or.inr (Or.inr (Or.inr (Or.inr (Or.inl ⟨rfl, h⟩)))))))))))))))))))))
theorem do_22 {a b c d : Int32} {s : Sg} {N : Nt} {X : Xt} (h : sp_X4_causeOf [aR 1 0, aI a, aI b] s (doI N) (xN N)) : sp_L_does [aR 1 0, aI 22, aI a, aI b, aI c, aI d] s N X := Or.inr (Or.inr (Or.inr (Or.inr (Or.inr (Or.inr (Or.inr (Or.inr (Or.inr (Or.inr (Or.inr (Or.inr (Or.inr (Or.inr (Or.inr (Or.inr (Or.inr (Or.inr (Or.inr (Or.inr (Or.inr (Or.inr (Or.inl ⟨rfl, h⟩))))))))))))))))))))))
theorem do_23 {a b c d : Int32} {s : Sg} {N : Nt} {X : Xt} (h : sp_X4_bound [aR 1 0, aI a, aI b] s (doI N) (xN N)) : sp_L_does [aR 1 0, aI 23, aI a, aI b, aI c, aI d] s N X := Or.inr (Or.inr (Or.inr (Or.inr (Or.inr (Or.inr (Or.inr (Or.inr (Or.inr (Or.inr (Or.inr (Or.inr (Or.inr (Or.inr (Or.inr (Or.inr (Or.inr (Or.inr (Or.inr (Or.inr (Or.inr (Or.inr (Or.inr (⟨rfl, h⟩)))))))))))))))))))))))
set_option maxRecDepth 20000 in
set_option maxHeartbeats 4000000 in
theorem M_L_does : HMet yL_does cL_does 7 (some .int) (hTab 378 hs_L_does) 12 16 sp_L_does := by
  refine HMet.mk (own := RL) (by decide) rfl [0, 1, 2, 3, 4, 5, 6] rfl tok_L_does 120 ?_
  intro av s0 N h
  unfold sp_L_does at h
  split at h
  rotate_left
  · exact h.elim
  unfold doK at h
  rename_i w a b c d
  rcases h with ⟨rfl, h⟩ | ⟨rfl, h⟩ | ⟨rfl, h⟩ | ⟨rfl, h⟩ | ⟨rfl, h⟩ | ⟨rfl, h⟩ | ⟨rfl, h⟩ | ⟨rfl, h⟩ | ⟨rfl, h⟩ | ⟨rfl, h⟩ | ⟨rfl, h⟩ | ⟨rfl, h⟩ | ⟨rfl, h⟩ | ⟨rfl, h⟩ | ⟨rfl, h⟩ | ⟨rfl, h⟩ | ⟨rfl, h⟩ | ⟨rfl, h⟩ | ⟨rfl, h⟩ | ⟨rfl, h⟩ | ⟨rfl, h⟩ | ⟨rfl, h⟩ | ⟨rfl, h⟩ | ⟨rfl, h⟩
  · repeat' (first | apply And.intro | (intro q; exact absurd q (by decide)) | (intro q; exact absurd (by decide) q) | intro _)
    all_goals first | (exact trivial) | decide | (exact (rfl : (0 : Nat) = 0)) | (exact Nat.le_of_ble_eq_true rfl) | skip
    refine ⟨doI N, xN N, h, ?_, ?_⟩
    · intro r s1 hN
      unfold doI at hN
      split at hN
      · exact ⟨Nat.le_of_ble_eq_true rfl, hN⟩
      · exact hN.elim
    · intro x s1 hX1
      unfold xN at hX1
      split at hX1
      · exact ⟨Nat.le_of_ble_eq_true rfl, hX1⟩
      · exact ⟨Nat.le_of_ble_eq_true rfl, hX1⟩
      · exact ⟨Nat.le_of_ble_eq_true rfl, hX1⟩
      · exact hX1.elim
  · repeat' (first | apply And.intro | (intro q; exact absurd q (by decide)) | (intro q; exact absurd (by decide) q) | intro _)
    all_goals first | (exact trivial) | decide | (exact (rfl : (0 : Nat) = 0)) | (exact Nat.le_of_ble_eq_true rfl) | skip
    refine ⟨doI N, xN N, h, ?_, ?_⟩
    · intro r s1 hN
      unfold doI at hN
      split at hN
      · exact ⟨Nat.le_of_ble_eq_true rfl, hN⟩
      · exact hN.elim
    · intro x s1 hX1
      unfold xN at hX1
      split at hX1
      · exact ⟨Nat.le_of_ble_eq_true rfl, hX1⟩
      · exact ⟨Nat.le_of_ble_eq_true rfl, hX1⟩
      · exact ⟨Nat.le_of_ble_eq_true rfl, hX1⟩
      · exact hX1.elim
  · repeat' (first | apply And.intro | (intro q; exact absurd q (by decide)) | (intro q; exact absurd (by decide) q) | intro _)
    all_goals first | (exact trivial) | decide | (exact (rfl : (0 : Nat) = 0)) | (exact Nat.le_of_ble_eq_true rfl) | skip
    refine ⟨doI N, xN N, h, ?_, ?_⟩
    · intro r s1 hN
      unfold doI at hN
      split at hN
      · exact ⟨Nat.le_of_ble_eq_true rfl, hN⟩
      · exact hN.elim
    · intro x s1 hX1
      unfold xN at hX1
      split at hX1
      · exact ⟨Nat.le_of_ble_eq_true rfl, hX1⟩
      · exact ⟨Nat.le_of_ble_eq_true rfl, hX1⟩
      · exact ⟨Nat.le_of_ble_eq_true rfl, hX1⟩
      · exact hX1.elim
  · repeat' (first | apply And.intro | (intro q; exact absurd q (by decide)) | (intro q; exact absurd (by decide) q) | intro _)
    all_goals first | (exact trivial) | decide | (exact (rfl : (0 : Nat) = 0)) | (exact Nat.le_of_ble_eq_true rfl) | skip
    refine ⟨doI N, xN N, h, ?_, ?_⟩
    · intro r s1 hN
      unfold doI at hN
      split at hN
      · exact ⟨Nat.le_of_ble_eq_true rfl, hN⟩
      · exact hN.elim
    · intro x s1 hX1
      unfold xN at hX1
      split at hX1
      · exact ⟨Nat.le_of_ble_eq_true rfl, hX1⟩
      · exact ⟨Nat.le_of_ble_eq_true rfl, hX1⟩
      · exact ⟨Nat.le_of_ble_eq_true rfl, hX1⟩
      · exact hX1.elim
  · repeat' (first | apply And.intro | (intro q; exact absurd q (by decide)) | (intro q; exact absurd (by decide) q) | intro _)
    all_goals first | (exact trivial) | decide | (exact (rfl : (0 : Nat) = 0)) | (exact Nat.le_of_ble_eq_true rfl) | skip
    refine ⟨doZ N, xN N, h, ?_, ?_⟩
    · intro r s1 hN
      unfold doZ at hN
      split at hN
      · exact ⟨fun q => ⟨Nat.le_of_ble_eq_true rfl, hN.2 q⟩, fun q => ⟨Nat.le_of_ble_eq_true rfl, hN.1 q⟩⟩
      · exact hN.elim
    · intro x s1 hX1
      unfold xN at hX1
      split at hX1
      · exact ⟨Nat.le_of_ble_eq_true rfl, hX1⟩
      · exact ⟨Nat.le_of_ble_eq_true rfl, hX1⟩
      · exact ⟨Nat.le_of_ble_eq_true rfl, hX1⟩
      · exact hX1.elim
  · repeat' (first | apply And.intro | (intro q; exact absurd q (by decide)) | (intro q; exact absurd (by decide) q) | intro _)
    all_goals first | (exact trivial) | decide | (exact (rfl : (0 : Nat) = 0)) | (exact Nat.le_of_ble_eq_true rfl) | skip
    refine ⟨doI N, xN N, h, ?_, ?_⟩
    · intro r s1 hN
      unfold doI at hN
      split at hN
      · exact ⟨Nat.le_of_ble_eq_true rfl, hN⟩
      · exact hN.elim
    · intro x s1 hX1
      unfold xN at hX1
      split at hX1
      · exact ⟨Nat.le_of_ble_eq_true rfl, hX1⟩
      · exact ⟨Nat.le_of_ble_eq_true rfl, hX1⟩
      · exact ⟨Nat.le_of_ble_eq_true rfl, hX1⟩
      · exact hX1.elim
  · repeat' (first | apply And.intro | (intro q; exact absurd q (by decide)) | (intro q; exact absurd (by decide) q) | intro _)
    all_goals first | (exact trivial) | decide | (exact (rfl : (0 : Nat) = 0)) | (exact Nat.le_of_ble_eq_true rfl) | skip
    refine ⟨doI N, xN N, h, ?_, ?_⟩
    · intro r s1 hN
      unfold doI at hN
      split at hN
      · exact ⟨Nat.le_of_ble_eq_true rfl, hN⟩
      · exact hN.elim
    · intro x s1 hX1
      unfold xN at hX1
      split at hX1
      · exact ⟨Nat.le_of_ble_eq_true rfl, hX1⟩
      · exact ⟨Nat.le_of_ble_eq_true rfl, hX1⟩
      · exact ⟨Nat.le_of_ble_eq_true rfl, hX1⟩
      · exact hX1.elim
  · repeat' (first | apply And.intro | (intro q; exact absurd q (by decide)) | (intro q; exact absurd (by decide) q) | intro _)
    all_goals first | (exact trivial) | decide | (exact (rfl : (0 : Nat) = 0)) | (exact Nat.le_of_ble_eq_true rfl) | skip
    refine ⟨doI N, xN N, h, ?_, ?_⟩
    · intro r s1 hN
      unfold doI at hN
      split at hN
      · exact ⟨Nat.le_of_ble_eq_true rfl, hN⟩
      · exact hN.elim
    · intro x s1 hX1
      unfold xN at hX1
      split at hX1
      · exact ⟨Nat.le_of_ble_eq_true rfl, hX1⟩
      · exact ⟨Nat.le_of_ble_eq_true rfl, hX1⟩
      · exact ⟨Nat.le_of_ble_eq_true rfl, hX1⟩
      · exact hX1.elim
  · repeat' (first | apply And.intro | (intro q; exact absurd q (by decide)) | (intro q; exact absurd (by decide) q) | intro _)
    all_goals first | (exact trivial) | decide | (exact (rfl : (0 : Nat) = 0)) | (exact Nat.le_of_ble_eq_true rfl) | skip
    refine ⟨doZ N, xN N, h, ?_, ?_⟩
    · intro r s1 hN
      unfold doZ at hN
      split at hN
      · exact ⟨fun q => ⟨Nat.le_of_ble_eq_true rfl, hN.2 q⟩, fun q => ⟨Nat.le_of_ble_eq_true rfl, hN.1 q⟩⟩
      · exact hN.elim
    · intro x s1 hX1
      unfold xN at hX1
      split at hX1
      · exact ⟨Nat.le_of_ble_eq_true rfl, hX1⟩
      · exact ⟨Nat.le_of_ble_eq_true rfl, hX1⟩
      · exact ⟨Nat.le_of_ble_eq_true rfl, hX1⟩
      · exact hX1.elim
  · repeat' (first | apply And.intro | (intro q; exact absurd q (by decide)) | (intro q; exact absurd (by decide) q) | intro _)
    all_goals first | (exact trivial) | decide | (exact (rfl : (0 : Nat) = 0)) | (exact Nat.le_of_ble_eq_true rfl) | skip
    refine ⟨doI N, xN N, h, ?_, ?_⟩
    · intro r s1 hN
      unfold doI at hN
      split at hN
      · exact ⟨Nat.le_of_ble_eq_true rfl, hN⟩
      · exact hN.elim
    · intro x s1 hX1
      unfold xN at hX1
      split at hX1
      · exact ⟨Nat.le_of_ble_eq_true rfl, hX1⟩
      · exact ⟨Nat.le_of_ble_eq_true rfl, hX1⟩
      · exact ⟨Nat.le_of_ble_eq_true rfl, hX1⟩
      · exact hX1.elim
  · repeat' (first | apply And.intro | (intro q; exact absurd q (by decide)) | (intro q; exact absurd (by decide) q) | intro _)
    all_goals first | (exact trivial) | decide | (exact (rfl : (0 : Nat) = 0)) | (exact Nat.le_of_ble_eq_true rfl) | skip
    refine ⟨doI N, xN N, h, ?_, ?_⟩
    · intro r s1 hN
      unfold doI at hN
      split at hN
      · exact ⟨Nat.le_of_ble_eq_true rfl, hN⟩
      · exact hN.elim
    · intro x s1 hX1
      unfold xN at hX1
      split at hX1
      · exact ⟨Nat.le_of_ble_eq_true rfl, hX1⟩
      · exact ⟨Nat.le_of_ble_eq_true rfl, hX1⟩
      · exact ⟨Nat.le_of_ble_eq_true rfl, hX1⟩
      · exact hX1.elim
  · repeat' (first | apply And.intro | (intro q; exact absurd q (by decide)) | (intro q; exact absurd (by decide) q) | intro _)
    all_goals first | (exact trivial) | decide | (exact (rfl : (0 : Nat) = 0)) | (exact Nat.le_of_ble_eq_true rfl) | skip
    refine ⟨doI N, xN N, h, ?_, ?_⟩
    · intro r s1 hN
      unfold doI at hN
      split at hN
      · exact ⟨Nat.le_of_ble_eq_true rfl, hN⟩
      · exact hN.elim
    · intro x s1 hX1
      unfold xN at hX1
      split at hX1
      · exact ⟨Nat.le_of_ble_eq_true rfl, hX1⟩
      · exact ⟨Nat.le_of_ble_eq_true rfl, hX1⟩
      · exact ⟨Nat.le_of_ble_eq_true rfl, hX1⟩
      · exact hX1.elim
  · repeat' (first | apply And.intro | (intro q; exact absurd q (by decide)) | (intro q; exact absurd (by decide) q) | intro _)
    all_goals first | (exact trivial) | decide | (exact (rfl : (0 : Nat) = 0)) | (exact Nat.le_of_ble_eq_true rfl) | skip
    refine ⟨doI N, xN N, h, ?_, ?_⟩
    · intro r s1 hN
      unfold doI at hN
      split at hN
      · exact ⟨Nat.le_of_ble_eq_true rfl, hN⟩
      · exact hN.elim
    · intro x s1 hX1
      unfold xN at hX1
      split at hX1
      · exact ⟨Nat.le_of_ble_eq_true rfl, hX1⟩
      · exact ⟨Nat.le_of_ble_eq_true rfl, hX1⟩
      · exact ⟨Nat.le_of_ble_eq_true rfl, hX1⟩
      · exact hX1.elim
  · rcases h with ⟨hd, h⟩ | ⟨hd, h⟩
    · repeat' (first | apply And.intro | (intro q; exact absurd q (by decide)) | (intro q; exact absurd (by decide) q) | (intro q; exact absurd hd q) | intro _)
      all_goals first | (exact trivial) | decide | (exact (rfl : (0 : Nat) = 0)) | (exact Nat.le_of_ble_eq_true rfl) | skip
      refine ⟨doI N, xN N, h, ?_, ?_⟩
      · intro r s1 hN
        unfold doI at hN
        split at hN
        · exact ⟨Nat.le_of_ble_eq_true rfl, hN⟩
        · exact hN.elim
      · intro x s1 hX1
        unfold xN at hX1
        split at hX1
        · exact ⟨Nat.le_of_ble_eq_true rfl, hX1⟩
        · exact ⟨Nat.le_of_ble_eq_true rfl, hX1⟩
        · exact ⟨Nat.le_of_ble_eq_true rfl, hX1⟩
        · exact hX1.elim
    · repeat' (first | apply And.intro | (intro q; exact absurd q (by decide)) | (intro q; exact absurd (by decide) q) | (intro q; exact absurd hd q) | intro _)
      all_goals first | (exact trivial) | decide | (exact (rfl : (0 : Nat) = 0)) | (exact Nat.le_of_ble_eq_true rfl) | skip
      refine ⟨doI N, xN N, h, ?_, ?_⟩
      · intro r s1 hN
        unfold doI at hN
        split at hN
        · exact ⟨Nat.le_of_ble_eq_true rfl, hN⟩
        · exact hN.elim
      · intro x s1 hX1
        unfold xN at hX1
        split at hX1
        · exact ⟨Nat.le_of_ble_eq_true rfl, hX1⟩
        · exact ⟨Nat.le_of_ble_eq_true rfl, hX1⟩
        · exact ⟨Nat.le_of_ble_eq_true rfl, hX1⟩
        · exact hX1.elim
  · repeat' (first | apply And.intro | (intro q; exact absurd q (by decide)) | (intro q; exact absurd (by decide) q) | intro _)
    all_goals first | (exact trivial) | decide | (exact (rfl : (0 : Nat) = 0)) | (exact Nat.le_of_ble_eq_true rfl) | skip
    refine ⟨doI N, xN N, h, ?_, ?_⟩
    · intro r s1 hN
      unfold doI at hN
      split at hN
      · exact ⟨Nat.le_of_ble_eq_true rfl, hN⟩
      · exact hN.elim
    · intro x s1 hX1
      unfold xN at hX1
      split at hX1
      · exact ⟨Nat.le_of_ble_eq_true rfl, hX1⟩
      · exact ⟨Nat.le_of_ble_eq_true rfl, hX1⟩
      · exact ⟨Nat.le_of_ble_eq_true rfl, hX1⟩
      · exact hX1.elim
  · repeat' (first | apply And.intro | (intro q; exact absurd q (by decide)) | (intro q; exact absurd (by decide) q) | intro _)
    all_goals first | (exact trivial) | decide | (exact (rfl : (0 : Nat) = 0)) | (exact Nat.le_of_ble_eq_true rfl) | skip
    refine ⟨doI N, xN N, h, ?_, ?_⟩
    · intro r s1 hN
      unfold doI at hN
      split at hN
      · exact ⟨Nat.le_of_ble_eq_true rfl, hN⟩
      · exact hN.elim
    · intro x s1 hX1
      unfold xN at hX1
      split at hX1
      · exact ⟨Nat.le_of_ble_eq_true rfl, hX1⟩
      · exact ⟨Nat.le_of_ble_eq_true rfl, hX1⟩
      · exact ⟨Nat.le_of_ble_eq_true rfl, hX1⟩
      · exact hX1.elim
  · repeat' (first | apply And.intro | (intro q; exact absurd q (by decide)) | (intro q; exact absurd (by decide) q) | intro _)
    all_goals first | (exact trivial) | decide | (exact (rfl : (0 : Nat) = 0)) | (exact Nat.le_of_ble_eq_true rfl) | skip
    refine ⟨doI N, xN N, h, ?_, ?_⟩
    · intro r s1 hN
      unfold doI at hN
      split at hN
      · exact ⟨Nat.le_of_ble_eq_true rfl, hN⟩
      · exact hN.elim
    · intro x s1 hX1
      unfold xN at hX1
      split at hX1
      · exact ⟨Nat.le_of_ble_eq_true rfl, hX1⟩
      · exact ⟨Nat.le_of_ble_eq_true rfl, hX1⟩
      · exact ⟨Nat.le_of_ble_eq_true rfl, hX1⟩
      · exact hX1.elim
  · repeat' (first | apply And.intro | (intro q; exact absurd q (by decide)) | (intro q; exact absurd (by decide) q) | intro _)
    all_goals first | (exact trivial) | decide | (exact (rfl : (0 : Nat) = 0)) | (exact Nat.le_of_ble_eq_true rfl) | skip
    refine ⟨doI N, xN N, h, ?_, ?_⟩
    · intro r s1 hN
      unfold doI at hN
      split at hN
      · exact ⟨Nat.le_of_ble_eq_true rfl, hN⟩
      · exact hN.elim
    · intro x s1 hX1
      unfold xN at hX1
      split at hX1
      · exact ⟨Nat.le_of_ble_eq_true rfl, hX1⟩
      · exact ⟨Nat.le_of_ble_eq_true rfl, hX1⟩
      · exact ⟨Nat.le_of_ble_eq_true rfl, hX1⟩
      · exact hX1.elim
  · repeat' (first | apply And.intro | (intro q; exact absurd q (by decide)) | (intro q; exact absurd (by decide) q) | intro _)
    all_goals first | (exact trivial) | decide | (exact (rfl : (0 : Nat) = 0)) | (exact Nat.le_of_ble_eq_true rfl) | skip
    refine ⟨doI N, xN N, h, ?_, ?_⟩
    · intro r s1 hN
      unfold doI at hN
      split at hN
      · exact ⟨Nat.le_of_ble_eq_true rfl, hN⟩
      · exact hN.elim
    · intro x s1 hX1
      unfold xN at hX1
      split at hX1
      · exact ⟨Nat.le_of_ble_eq_true rfl, hX1⟩
      · exact ⟨Nat.le_of_ble_eq_true rfl, hX1⟩
      · exact ⟨Nat.le_of_ble_eq_true rfl, hX1⟩
      · exact hX1.elim
  · repeat' (first | apply And.intro | (intro q; exact absurd q (by decide)) | (intro q; exact absurd (by decide) q) | intro _)
    all_goals first | (exact trivial) | decide | (exact (rfl : (0 : Nat) = 0)) | (exact Nat.le_of_ble_eq_true rfl) | skip
    refine ⟨doI N, xN N, h, ?_, ?_⟩
    · intro r s1 hN
      unfold doI at hN
      split at hN
      · exact ⟨Nat.le_of_ble_eq_true rfl, hN⟩
      · exact hN.elim
    · intro x s1 hX1
      unfold xN at hX1
      split at hX1
      · exact ⟨Nat.le_of_ble_eq_true rfl, hX1⟩
      · exact ⟨Nat.le_of_ble_eq_true rfl, hX1⟩
      · exact ⟨Nat.le_of_ble_eq_true rfl, hX1⟩
      · exact hX1.elim
  · repeat' (first | apply And.intro | (intro q; exact absurd q (by decide)) | (intro q; exact absurd (by decide) q) | intro _)
    all_goals first | (exact trivial) | decide | (exact (rfl : (0 : Nat) = 0)) | (exact Nat.le_of_ble_eq_true rfl) | skip
    refine ⟨doI N, xN N, h, ?_, ?_⟩
    · intro r s1 hN
      unfold doI at hN
      split at hN
      · exact ⟨Nat.le_of_ble_eq_true rfl, hN⟩
      · exact hN.elim
    · intro x s1 hX1
      unfold xN at hX1
      split at hX1
      · exact ⟨Nat.le_of_ble_eq_true rfl, hX1⟩
      · exact ⟨Nat.le_of_ble_eq_true rfl, hX1⟩
      · exact ⟨Nat.le_of_ble_eq_true rfl, hX1⟩
      · exact hX1.elim
  · repeat' (first | apply And.intro | (intro q; exact absurd q (by decide)) | (intro q; exact absurd (by decide) q) | intro _)
    all_goals first | (exact trivial) | decide | (exact (rfl : (0 : Nat) = 0)) | (exact Nat.le_of_ble_eq_true rfl) | skip
    refine ⟨doI N, xN N, h, ?_, ?_⟩
    · intro r s1 hN
      unfold doI at hN
      split at hN
      · exact ⟨Nat.le_of_ble_eq_true rfl, hN⟩
      · exact hN.elim
    · intro x s1 hX1
      unfold xN at hX1
      split at hX1
      · exact ⟨Nat.le_of_ble_eq_true rfl, hX1⟩
      · exact ⟨Nat.le_of_ble_eq_true rfl, hX1⟩
      · exact ⟨Nat.le_of_ble_eq_true rfl, hX1⟩
      · exact hX1.elim
  · repeat' (first | apply And.intro | (intro q; exact absurd q (by decide)) | (intro q; exact absurd (by decide) q) | intro _)
    all_goals first | (exact trivial) | decide | (exact (rfl : (0 : Nat) = 0)) | (exact Nat.le_of_ble_eq_true rfl) | skip
    refine ⟨doI N, xN N, h, ?_, ?_⟩
    · intro r s1 hN
      unfold doI at hN
      split at hN
      · exact ⟨Nat.le_of_ble_eq_true rfl, hN⟩
      · exact hN.elim
    · intro x s1 hX1
      unfold xN at hX1
      split at hX1
      · exact ⟨Nat.le_of_ble_eq_true rfl, hX1⟩
      · exact ⟨Nat.le_of_ble_eq_true rfl, hX1⟩
      · exact ⟨Nat.le_of_ble_eq_true rfl, hX1⟩
      · exact hX1.elim
  · repeat' (first | apply And.intro | (intro q; exact absurd q (by decide)) | (intro q; exact absurd (by decide) q) | intro _)
    all_goals first | (exact trivial) | decide | (exact (rfl : (0 : Nat) = 0)) | (exact Nat.le_of_ble_eq_true rfl) | skip
    refine ⟨doI N, xN N, h, ?_, ?_⟩
    · intro r s1 hN
      unfold doI at hN
      split at hN
      · exact ⟨Nat.le_of_ble_eq_true rfl, hN⟩
      · exact hN.elim
    · intro x s1 hX1
      unfold xN at hX1
      split at hX1
      · exact ⟨Nat.le_of_ble_eq_true rfl, hX1⟩
      · exact ⟨Nat.le_of_ble_eq_true rfl, hX1⟩
      · exact ⟨Nat.le_of_ble_eq_true rfl, hX1⟩
      · exact hX1.elim

