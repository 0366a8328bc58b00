theorem wm_498 : Cond.instantiable RHL 4 ∈ wALL := List.mem_filter.mpr ⟨List.mem_append_right _ (List.mem_of_getElem? (i := 14) (by decide +kernel)), rfl⟩
theorem wm_499 : Cond.instantiable RMO 5 ∈ wALL := List.mem_filter.mpr ⟨List.mem_append_right _ (List.mem_of_getElem? (i := 564) (by decide +kernel)), rfl⟩
theorem wm_500 : Cond.classLink RLA 8 RHL ∈ wALL := List.mem_filter.mpr ⟨List.mem_append_right _ (List.mem_of_getElem? (i := 13) (by decide +kernel)), rfl⟩
set_option maxRecDepth 100000 in
theorem wm_501 : Cond.code yHL_init bHL_init 1 none ∈ wALL := List.mem_filter.mpr ⟨List.mem_append_right _ (List.mem_of_getElem? (i := 17) (by rfl)), rfl⟩
theorem wm_502 : Cond.methodLink RLA 15 yHL_init ∈ wALL := List.mem_filter.mpr ⟨List.mem_append_right _ (List.mem_of_getElem? (i := 15) (by decide +kernel)), rfl⟩
theorem wm_503 : Cond.instanceMethod yHL_init ∈ wALL := List.mem_filter.mpr ⟨List.mem_append_right _ (List.mem_of_getElem? (i := 16) (by decide +kernel)), rfl⟩
theorem wm_504 : Cond.classLink RLA 16 RMO ∈ wALL := List.mem_filter.mpr ⟨List.mem_append_right _ (List.mem_of_getElem? (i := 563) (by decide +kernel)), rfl⟩
set_option maxRecDepth 100000 in
theorem wm_505 : Cond.code yMO_init bMO_init 1 none ∈ wALL := List.mem_filter.mpr ⟨List.mem_append_right _ (List.mem_of_getElem? (i := 567) (by rfl)), rfl⟩
theorem wm_506 : Cond.methodLink RLA 18 yMO_init ∈ wALL := List.mem_filter.mpr ⟨List.mem_append_right _ (List.mem_of_getElem? (i := 565) (by decide +kernel)), rfl⟩
theorem wm_507 : Cond.instanceMethod yMO_init ∈ wALL := List.mem_filter.mpr ⟨List.mem_append_right _ (List.mem_of_getElem? (i := 566) (by decide +kernel)), rfl⟩
theorem wm_508 : Cond.methodLink RLA 19 yHL_account ∈ wALL := List.mem_filter.mpr ⟨List.mem_append_right _ (List.mem_of_getElem? (i := 180) (by decide +kernel)), rfl⟩
theorem wm_509 : Cond.instanceMethod yHL_account ∈ wALL := List.mem_filter.mpr ⟨List.mem_append_right _ (List.mem_of_getElem? (i := 181) (by decide +kernel)), rfl⟩
theorem wm_510 : Cond.selects RHL yHL_account yHL_account ∈ wALL := List.mem_filter.mpr ⟨List.mem_append_right _ (List.mem_of_getElem? (i := 182) (by decide +kernel)), rfl⟩
theorem wm_511 : Cond.methodLink RLA 22 yMO_account ∈ wALL := List.mem_filter.mpr ⟨List.mem_append_right _ (List.mem_of_getElem? (i := 585) (by decide +kernel)), rfl⟩
theorem wm_512 : Cond.instanceMethod yMO_account ∈ wALL := List.mem_filter.mpr ⟨List.mem_append_right _ (List.mem_of_getElem? (i := 586) (by decide +kernel)), rfl⟩
theorem wm_513 : Cond.selects RMO yMO_account yMO_account ∈ wALL := List.mem_filter.mpr ⟨List.mem_append_right _ (List.mem_of_getElem? (i := 587) (by decide +kernel)), rfl⟩
theorem wm_514 : Cond.constantLong RLA 23 4294967295 ∈ wALL := List.mem_filter.mpr ⟨List.mem_append_right _ (List.mem_of_getElem? (i := 767) (by decide +kernel)), rfl⟩
theorem wm_515 : Cond.methodLink RLA 25 yHL_entry ∈ wALL := List.mem_filter.mpr ⟨List.mem_append_right _ (List.mem_of_getElem? (i := 189) (by decide +kernel)), rfl⟩
theorem wm_516 : Cond.instanceMethod yHL_entry ∈ wALL := List.mem_filter.mpr ⟨List.mem_append_right _ (List.mem_of_getElem? (i := 190) (by decide +kernel)), rfl⟩
theorem wm_517 : Cond.selects RHL yHL_entry yHL_entry ∈ wALL := List.mem_filter.mpr ⟨List.mem_append_right _ (List.mem_of_getElem? (i := 191) (by decide +kernel)), rfl⟩
theorem wm_518 : Cond.methodLink RLA 29 yMO_entry ∈ wALL := List.mem_filter.mpr ⟨List.mem_append_right _ (List.mem_of_getElem? (i := 590) (by decide +kernel)), rfl⟩
theorem wm_519 : Cond.instanceMethod yMO_entry ∈ wALL := List.mem_filter.mpr ⟨List.mem_append_right _ (List.mem_of_getElem? (i := 591) (by decide +kernel)), rfl⟩
theorem wm_520 : Cond.selects RMO yMO_entry yMO_entry ∈ wALL := List.mem_filter.mpr ⟨List.mem_append_right _ (List.mem_of_getElem? (i := 592) (by decide +kernel)), rfl⟩
theorem wm_521 : Cond.methodLink RLA 30 yHL_row ∈ wALL := List.mem_filter.mpr ⟨List.mem_append_right _ (List.mem_of_getElem? (i := 210) (by decide +kernel)), rfl⟩
theorem wm_522 : Cond.instanceMethod yHL_row ∈ wALL := List.mem_filter.mpr ⟨List.mem_append_right _ (List.mem_of_getElem? (i := 211) (by decide +kernel)), rfl⟩
theorem wm_523 : Cond.selects RHL yHL_row yHL_row ∈ wALL := List.mem_filter.mpr ⟨List.mem_append_right _ (List.mem_of_getElem? (i := 212) (by decide +kernel)), rfl⟩
theorem wm_524 : Cond.methodLink RLA 34 yMO_row ∈ wALL := List.mem_filter.mpr ⟨List.mem_append_right _ (List.mem_of_getElem? (i := 611) (by decide +kernel)), rfl⟩
theorem wm_525 : Cond.instanceMethod yMO_row ∈ wALL := List.mem_filter.mpr ⟨List.mem_append_right _ (List.mem_of_getElem? (i := 612) (by decide +kernel)), rfl⟩
theorem wm_526 : Cond.selects RMO yMO_row yMO_row ∈ wALL := List.mem_filter.mpr ⟨List.mem_append_right _ (List.mem_of_getElem? (i := 613) (by decide +kernel)), rfl⟩
theorem wm_527 : Cond.methodLink RLA 35 yLA_close ∈ wALL := List.mem_filter.mpr ⟨List.mem_append_right _ (List.mem_of_getElem? (i := 480) (by decide +kernel)), rfl⟩
theorem wm_528 : Cond.static yLA_close ∈ wALL := List.mem_filter.mpr ⟨List.mem_append_right _ (List.mem_of_getElem? (i := 481) (by decide +kernel)), rfl⟩
set_option maxRecDepth 100000 in
theorem wm_529 : Cond.codeWith yLA_close bLA_close 4 (some .int) hhLA_close ∈ wALL := List.mem_filter.mpr ⟨List.mem_append_right _ (List.mem_of_getElem? (i := 482) (by rfl)), rfl⟩
theorem wm_530 : Cond.methodLink RLA 40 yMO_close ∈ wALL := List.mem_filter.mpr ⟨List.mem_append_right _ (List.mem_of_getElem? (i := 630) (by decide +kernel)), rfl⟩
theorem wm_531 : Cond.instanceMethod yMO_close ∈ wALL := List.mem_filter.mpr ⟨List.mem_append_right _ (List.mem_of_getElem? (i := 631) (by decide +kernel)), rfl⟩
theorem wm_532 : Cond.selects RMO yMO_close yMO_close ∈ wALL := List.mem_filter.mpr ⟨List.mem_append_right _ (List.mem_of_getElem? (i := 632) (by decide +kernel)), rfl⟩
theorem wm_533 : Cond.methodLink RLA 41 yHL_balance ∈ wALL := List.mem_filter.mpr ⟨List.mem_append_right _ (List.mem_of_getElem? (i := 229) (by decide +kernel)), rfl⟩
theorem wm_534 : Cond.instanceMethod yHL_balance ∈ wALL := List.mem_filter.mpr ⟨List.mem_append_right _ (List.mem_of_getElem? (i := 230) (by decide +kernel)), rfl⟩
theorem wm_535 : Cond.selects RHL yHL_balance yHL_balance ∈ wALL := List.mem_filter.mpr ⟨List.mem_append_right _ (List.mem_of_getElem? (i := 231) (by decide +kernel)), rfl⟩
theorem wm_536 : Cond.methodLink RLA 45 yMO_balance ∈ wALL := List.mem_filter.mpr ⟨List.mem_append_right _ (List.mem_of_getElem? (i := 638) (by decide +kernel)), rfl⟩
theorem wm_537 : Cond.instanceMethod yMO_balance ∈ wALL := List.mem_filter.mpr ⟨List.mem_append_right _ (List.mem_of_getElem? (i := 639) (by decide +kernel)), rfl⟩
theorem wm_538 : Cond.selects RMO yMO_balance yMO_balance ∈ wALL := List.mem_filter.mpr ⟨List.mem_append_right _ (List.mem_of_getElem? (i := 640) (by decide +kernel)), rfl⟩
theorem wm_539 : Cond.methodLink RLA 46 yHL_payment ∈ wALL := List.mem_filter.mpr ⟨List.mem_append_right _ (List.mem_of_getElem? (i := 242) (by decide +kernel)), rfl⟩
theorem wm_540 : Cond.instanceMethod yHL_payment ∈ wALL := List.mem_filter.mpr ⟨List.mem_append_right _ (List.mem_of_getElem? (i := 243) (by decide +kernel)), rfl⟩
theorem wm_541 : Cond.selects RHL yHL_payment yHL_payment ∈ wALL := List.mem_filter.mpr ⟨List.mem_append_right _ (List.mem_of_getElem? (i := 244) (by decide +kernel)), rfl⟩
theorem wm_542 : Cond.methodLink RLA 50 yMO_payment ∈ wALL := List.mem_filter.mpr ⟨List.mem_append_right _ (List.mem_of_getElem? (i := 642) (by decide +kernel)), rfl⟩
theorem wm_543 : Cond.instanceMethod yMO_payment ∈ wALL := List.mem_filter.mpr ⟨List.mem_append_right _ (List.mem_of_getElem? (i := 643) (by decide +kernel)), rfl⟩
theorem wm_544 : Cond.selects RMO yMO_payment yMO_payment ∈ wALL := List.mem_filter.mpr ⟨List.mem_append_right _ (List.mem_of_getElem? (i := 644) (by decide +kernel)), rfl⟩
theorem wm_545 : Cond.methodLink RLA 51 yHL_item ∈ wALL := List.mem_filter.mpr ⟨List.mem_append_right _ (List.mem_of_getElem? (i := 275) (by decide +kernel)), rfl⟩
theorem wm_546 : Cond.instanceMethod yHL_item ∈ wALL := List.mem_filter.mpr ⟨List.mem_append_right _ (List.mem_of_getElem? (i := 276) (by decide +kernel)), rfl⟩
theorem wm_547 : Cond.selects RHL yHL_item yHL_item ∈ wALL := List.mem_filter.mpr ⟨List.mem_append_right _ (List.mem_of_getElem? (i := 277) (by decide +kernel)), rfl⟩
theorem wm_548 : Cond.methodLink RLA 55 yMO_item ∈ wALL := List.mem_filter.mpr ⟨List.mem_append_right _ (List.mem_of_getElem? (i := 663) (by decide +kernel)), rfl⟩
theorem wm_549 : Cond.instanceMethod yMO_item ∈ wALL := List.mem_filter.mpr ⟨List.mem_append_right _ (List.mem_of_getElem? (i := 664) (by decide +kernel)), rfl⟩
theorem wm_550 : Cond.selects RMO yMO_item yMO_item ∈ wALL := List.mem_filter.mpr ⟨List.mem_append_right _ (List.mem_of_getElem? (i := 665) (by decide +kernel)), rfl⟩
theorem wm_551 : Cond.methodLink RLA 56 yHL_opened ∈ wALL := List.mem_filter.mpr ⟨List.mem_append_right _ (List.mem_of_getElem? (i := 284) (by decide +kernel)), rfl⟩
theorem wm_552 : Cond.instanceMethod yHL_opened ∈ wALL := List.mem_filter.mpr ⟨List.mem_append_right _ (List.mem_of_getElem? (i := 285) (by decide +kernel)), rfl⟩
theorem wm_553 : Cond.selects RHL yHL_opened yHL_opened ∈ wALL := List.mem_filter.mpr ⟨List.mem_append_right _ (List.mem_of_getElem? (i := 286) (by decide +kernel)), rfl⟩
theorem wm_554 : Cond.methodLink RLA 60 yMO_opened ∈ wALL := List.mem_filter.mpr ⟨List.mem_append_right _ (List.mem_of_getElem? (i := 668) (by decide +kernel)), rfl⟩
theorem wm_555 : Cond.instanceMethod yMO_opened ∈ wALL := List.mem_filter.mpr ⟨List.mem_append_right _ (List.mem_of_getElem? (i := 669) (by decide +kernel)), rfl⟩
theorem wm_556 : Cond.selects RMO yMO_opened yMO_opened ∈ wALL := List.mem_filter.mpr ⟨List.mem_append_right _ (List.mem_of_getElem? (i := 670) (by decide +kernel)), rfl⟩
theorem wm_557 : Cond.methodLink RLA 61 yHL_dun ∈ wALL := List.mem_filter.mpr ⟨List.mem_append_right _ (List.mem_of_getElem? (i := 295) (by decide +kernel)), rfl⟩
theorem wm_558 : Cond.instanceMethod yHL_dun ∈ wALL := List.mem_filter.mpr ⟨List.mem_append_right _ (List.mem_of_getElem? (i := 296) (by decide +kernel)), rfl⟩
theorem wm_559 : Cond.selects RHL yHL_dun yHL_dun ∈ wALL := List.mem_filter.mpr ⟨List.mem_append_right _ (List.mem_of_getElem? (i := 297) (by decide +kernel)), rfl⟩
theorem wm_560 : Cond.methodLink RLA 65 yMO_dun ∈ wALL := List.mem_filter.mpr ⟨List.mem_append_right _ (List.mem_of_getElem? (i := 676) (by decide +kernel)), rfl⟩
theorem wm_561 : Cond.instanceMethod yMO_dun ∈ wALL := List.mem_filter.mpr ⟨List.mem_append_right _ (List.mem_of_getElem? (i := 677) (by decide +kernel)), rfl⟩
theorem wm_562 : Cond.selects RMO yMO_dun yMO_dun ∈ wALL := List.mem_filter.mpr ⟨List.mem_append_right _ (List.mem_of_getElem? (i := 678) (by decide +kernel)), rfl⟩
theorem wm_563 : Cond.methodLink RLA 66 yHL_hardship ∈ wALL := List.mem_filter.mpr ⟨List.mem_append_right _ (List.mem_of_getElem? (i := 321) (by decide +kernel)), rfl⟩
theorem wm_564 : Cond.instanceMethod yHL_hardship ∈ wALL := List.mem_filter.mpr ⟨List.mem_append_right _ (List.mem_of_getElem? (i := 322) (by decide +kernel)), rfl⟩
theorem wm_565 : Cond.selects RHL yHL_hardship yHL_hardship ∈ wALL := List.mem_filter.mpr ⟨List.mem_append_right _ (List.mem_of_getElem? (i := 323) (by decide +kernel)), rfl⟩
theorem wm_566 : Cond.methodLink RLA 70 yMO_hardship ∈ wALL := List.mem_filter.mpr ⟨List.mem_append_right _ (List.mem_of_getElem? (i := 687) (by decide +kernel)), rfl⟩
theorem wm_567 : Cond.instanceMethod yMO_hardship ∈ wALL := List.mem_filter.mpr ⟨List.mem_append_right _ (List.mem_of_getElem? (i := 688) (by decide +kernel)), rfl⟩
theorem wm_568 : Cond.selects RMO yMO_hardship yMO_hardship ∈ wALL := List.mem_filter.mpr ⟨List.mem_append_right _ (List.mem_of_getElem? (i := 689) (by decide +kernel)), rfl⟩
theorem wm_569 : Cond.methodLink RLA 71 yHL_instal ∈ wALL := List.mem_filter.mpr ⟨List.mem_append_right _ (List.mem_of_getElem? (i := 325) (by decide +kernel)), rfl⟩
theorem wm_570 : Cond.instanceMethod yHL_instal ∈ wALL := List.mem_filter.mpr ⟨List.mem_append_right _ (List.mem_of_getElem? (i := 326) (by decide +kernel)), rfl⟩
theorem wm_571 : Cond.selects RHL yHL_instal yHL_instal ∈ wALL := List.mem_filter.mpr ⟨List.mem_append_right _ (List.mem_of_getElem? (i := 327) (by decide +kernel)), rfl⟩
theorem wm_572 : Cond.methodLink RLA 74 yMO_instal ∈ wALL := List.mem_filter.mpr ⟨List.mem_append_right _ (List.mem_of_getElem? (i := 691) (by decide +kernel)), rfl⟩
theorem wm_573 : Cond.instanceMethod yMO_instal ∈ wALL := List.mem_filter.mpr ⟨List.mem_append_right _ (List.mem_of_getElem? (i := 692) (by decide +kernel)), rfl⟩
theorem wm_574 : Cond.selects RMO yMO_instal yMO_instal ∈ wALL := List.mem_filter.mpr ⟨List.mem_append_right _ (List.mem_of_getElem? (i := 693) (by decide +kernel)), rfl⟩
theorem wm_575 : Cond.methodLink RLA 75 yHL_due ∈ wALL := List.mem_filter.mpr ⟨List.mem_append_right _ (List.mem_of_getElem? (i := 337) (by decide +kernel)), rfl⟩
theorem wm_576 : Cond.instanceMethod yHL_due ∈ wALL := List.mem_filter.mpr ⟨List.mem_append_right _ (List.mem_of_getElem? (i := 338) (by decide +kernel)), rfl⟩
theorem wm_577 : Cond.selects RHL yHL_due yHL_due ∈ wALL := List.mem_filter.mpr ⟨List.mem_append_right _ (List.mem_of_getElem? (i := 339) (by decide +kernel)), rfl⟩
theorem wm_578 : Cond.methodLink RLA 78 yMO_due ∈ wALL := List.mem_filter.mpr ⟨List.mem_append_right _ (List.mem_of_getElem? (i := 700) (by decide +kernel)), rfl⟩
theorem wm_579 : Cond.instanceMethod yMO_due ∈ wALL := List.mem_filter.mpr ⟨List.mem_append_right _ (List.mem_of_getElem? (i := 701) (by decide +kernel)), rfl⟩
theorem wm_580 : Cond.selects RMO yMO_due yMO_due ∈ wALL := List.mem_filter.mpr ⟨List.mem_append_right _ (List.mem_of_getElem? (i := 702) (by decide +kernel)), rfl⟩
theorem wm_581 : Cond.methodLink RLA 79 yHL_move ∈ wALL := List.mem_filter.mpr ⟨List.mem_append_right _ (List.mem_of_getElem? (i := 346) (by decide +kernel)), rfl⟩
theorem wm_582 : Cond.instanceMethod yHL_move ∈ wALL := List.mem_filter.mpr ⟨List.mem_append_right _ (List.mem_of_getElem? (i := 347) (by decide +kernel)), rfl⟩
theorem wm_583 : Cond.selects RHL yHL_move yHL_move ∈ wALL := List.mem_filter.mpr ⟨List.mem_append_right _ (List.mem_of_getElem? (i := 348) (by decide +kernel)), rfl⟩
theorem wm_584 : Cond.methodLink RLA 82 yMO_move ∈ wALL := List.mem_filter.mpr ⟨List.mem_append_right _ (List.mem_of_getElem? (i := 704) (by decide +kernel)), rfl⟩
theorem wm_585 : Cond.instanceMethod yMO_move ∈ wALL := List.mem_filter.mpr ⟨List.mem_append_right _ (List.mem_of_getElem? (i := 705) (by decide +kernel)), rfl⟩
theorem wm_586 : Cond.selects RMO yMO_move yMO_move ∈ wALL := List.mem_filter.mpr ⟨List.mem_append_right _ (List.mem_of_getElem? (i := 706) (by decide +kernel)), rfl⟩
theorem wm_587 : Cond.methodLink RLA 83 yHL_share ∈ wALL := List.mem_filter.mpr ⟨List.mem_append_right _ (List.mem_of_getElem? (i := 354) (by decide +kernel)), rfl⟩
theorem wm_588 : Cond.instanceMethod yHL_share ∈ wALL := List.mem_filter.mpr ⟨List.mem_append_right _ (List.mem_of_getElem? (i := 355) (by decide +kernel)), rfl⟩
theorem wm_589 : Cond.selects RHL yHL_share yHL_share ∈ wALL := List.mem_filter.mpr ⟨List.mem_append_right _ (List.mem_of_getElem? (i := 356) (by decide +kernel)), rfl⟩
theorem wm_590 : Cond.methodLink RLA 87 yMO_share ∈ wALL := List.mem_filter.mpr ⟨List.mem_append_right _ (List.mem_of_getElem? (i := 712) (by decide +kernel)), rfl⟩
theorem wm_591 : Cond.instanceMethod yMO_share ∈ wALL := List.mem_filter.mpr ⟨List.mem_append_right _ (List.mem_of_getElem? (i := 713) (by decide +kernel)), rfl⟩
theorem wm_592 : Cond.selects RMO yMO_share yMO_share ∈ wALL := List.mem_filter.mpr ⟨List.mem_append_right _ (List.mem_of_getElem? (i := 714) (by decide +kernel)), rfl⟩
theorem wm_593 : Cond.methodLink RLA 88 yHL_batch ∈ wALL := List.mem_filter.mpr ⟨List.mem_append_right _ (List.mem_of_getElem? (i := 376) (by decide +kernel)), rfl⟩
theorem wm_594 : Cond.instanceMethod yHL_batch ∈ wALL := List.mem_filter.mpr ⟨List.mem_append_right _ (List.mem_of_getElem? (i := 377) (by decide +kernel)), rfl⟩
theorem wm_595 : Cond.selects RHL yHL_batch yHL_batch ∈ wALL := List.mem_filter.mpr ⟨List.mem_append_right _ (List.mem_of_getElem? (i := 378) (by decide +kernel)), rfl⟩
theorem wm_596 : Cond.methodLink RLA 92 yMO_batch ∈ wALL := List.mem_filter.mpr ⟨List.mem_append_right _ (List.mem_of_getElem? (i := 722) (by decide +kernel)), rfl⟩
theorem wm_597 : Cond.instanceMethod yMO_batch ∈ wALL := List.mem_filter.mpr ⟨List.mem_append_right _ (List.mem_of_getElem? (i := 723) (by decide +kernel)), rfl⟩
theorem wm_598 : Cond.selects RMO yMO_batch yMO_batch ∈ wALL := List.mem_filter.mpr ⟨List.mem_append_right _ (List.mem_of_getElem? (i := 724) (by decide +kernel)), rfl⟩
theorem wm_599 : Cond.methodLink RLA 93 yHL_endBatch ∈ wALL := List.mem_filter.mpr ⟨List.mem_append_right _ (List.mem_of_getElem? (i := 411) (by decide +kernel)), rfl⟩
theorem wm_600 : Cond.instanceMethod yHL_endBatch ∈ wALL := List.mem_filter.mpr ⟨List.mem_append_right _ (List.mem_of_getElem? (i := 412) (by decide +kernel)), rfl⟩
theorem wm_601 : Cond.selects RHL yHL_endBatch yHL_endBatch ∈ wALL := List.mem_filter.mpr ⟨List.mem_append_right _ (List.mem_of_getElem? (i := 413) (by decide +kernel)), rfl⟩
theorem wm_602 : Cond.methodLink RLA 97 yMO_endBatch ∈ wALL := List.mem_filter.mpr ⟨List.mem_append_right _ (List.mem_of_getElem? (i := 726) (by decide +kernel)), rfl⟩
theorem wm_603 : Cond.instanceMethod yMO_endBatch ∈ wALL := List.mem_filter.mpr ⟨List.mem_append_right _ (List.mem_of_getElem? (i := 727) (by decide +kernel)), rfl⟩
theorem wm_604 : Cond.selects RMO yMO_endBatch yMO_endBatch ∈ wALL := List.mem_filter.mpr ⟨List.mem_append_right _ (List.mem_of_getElem? (i := 728) (by decide +kernel)), rfl⟩
theorem wm_605 : Cond.methodLink RLA 98 yHL_closeMonth ∈ wALL := List.mem_filter.mpr ⟨List.mem_append_right _ (List.mem_of_getElem? (i := 415) (by decide +kernel)), rfl⟩
theorem wm_606 : Cond.instanceMethod yHL_closeMonth ∈ wALL := List.mem_filter.mpr ⟨List.mem_append_right _ (List.mem_of_getElem? (i := 416) (by decide +kernel)), rfl⟩
theorem wm_607 : Cond.selects RHL yHL_closeMonth yHL_closeMonth ∈ wALL := List.mem_filter.mpr ⟨List.mem_append_right _ (List.mem_of_getElem? (i := 417) (by decide +kernel)), rfl⟩
theorem wm_608 : Cond.methodLink RLA 102 yMO_closeMonth ∈ wALL := List.mem_filter.mpr ⟨List.mem_append_right _ (List.mem_of_getElem? (i := 730) (by decide +kernel)), rfl⟩
theorem wm_609 : Cond.instanceMethod yMO_closeMonth ∈ wALL := List.mem_filter.mpr ⟨List.mem_append_right _ (List.mem_of_getElem? (i := 731) (by decide +kernel)), rfl⟩
theorem wm_610 : Cond.selects RMO yMO_closeMonth yMO_closeMonth ∈ wALL := List.mem_filter.mpr ⟨List.mem_append_right _ (List.mem_of_getElem? (i := 732) (by decide +kernel)), rfl⟩
theorem wm_611 : Cond.methodLink RLA 103 yHL_reverse ∈ wALL := List.mem_filter.mpr ⟨List.mem_append_right _ (List.mem_of_getElem? (i := 419) (by decide +kernel)), rfl⟩
theorem wm_612 : Cond.instanceMethod yHL_reverse ∈ wALL := List.mem_filter.mpr ⟨List.mem_append_right _ (List.mem_of_getElem? (i := 420) (by decide +kernel)), rfl⟩
theorem wm_613 : Cond.selects RHL yHL_reverse yHL_reverse ∈ wALL := List.mem_filter.mpr ⟨List.mem_append_right _ (List.mem_of_getElem? (i := 421) (by decide +kernel)), rfl⟩
theorem wm_614 : Cond.methodLink RLA 106 yMO_reverse ∈ wALL := List.mem_filter.mpr ⟨List.mem_append_right _ (List.mem_of_getElem? (i := 735) (by decide +kernel)), rfl⟩
theorem wm_615 : Cond.instanceMethod yMO_reverse ∈ wALL := List.mem_filter.mpr ⟨List.mem_append_right _ (List.mem_of_getElem? (i := 736) (by decide +kernel)), rfl⟩
theorem wm_616 : Cond.selects RMO yMO_reverse yMO_reverse ∈ wALL := List.mem_filter.mpr ⟨List.mem_append_right _ (List.mem_of_getElem? (i := 737) (by decide +kernel)), rfl⟩
theorem wm_617 : Cond.methodLink RLA 107 yHL_interest ∈ wALL := List.mem_filter.mpr ⟨List.mem_append_right _ (List.mem_of_getElem? (i := 436) (by decide +kernel)), rfl⟩
theorem wm_618 : Cond.instanceMethod yHL_interest ∈ wALL := List.mem_filter.mpr ⟨List.mem_append_right _ (List.mem_of_getElem? (i := 437) (by decide +kernel)), rfl⟩
theorem wm_619 : Cond.selects RHL yHL_interest yHL_interest ∈ wALL := List.mem_filter.mpr ⟨List.mem_append_right _ (List.mem_of_getElem? (i := 438) (by decide +kernel)), rfl⟩
theorem wm_620 : Cond.methodLink RLA 111 yMO_interest ∈ wALL := List.mem_filter.mpr ⟨List.mem_append_right _ (List.mem_of_getElem? (i := 743) (by decide +kernel)), rfl⟩
theorem wm_621 : Cond.instanceMethod yMO_interest ∈ wALL := List.mem_filter.mpr ⟨List.mem_append_right _ (List.mem_of_getElem? (i := 744) (by decide +kernel)), rfl⟩
theorem wm_622 : Cond.selects RMO yMO_interest yMO_interest ∈ wALL := List.mem_filter.mpr ⟨List.mem_append_right _ (List.mem_of_getElem? (i := 745) (by decide +kernel)), rfl⟩
theorem wm_623 : Cond.methodLink RLA 112 yHL_rate ∈ wALL := List.mem_filter.mpr ⟨List.mem_append_right _ (List.mem_of_getElem? (i := 446) (by decide +kernel)), rfl⟩
theorem wm_624 : Cond.instanceMethod yHL_rate ∈ wALL := List.mem_filter.mpr ⟨List.mem_append_right _ (List.mem_of_getElem? (i := 447) (by decide +kernel)), rfl⟩
theorem wm_625 : Cond.selects RHL yHL_rate yHL_rate ∈ wALL := List.mem_filter.mpr ⟨List.mem_append_right _ (List.mem_of_getElem? (i := 448) (by decide +kernel)), rfl⟩
theorem wm_626 : Cond.methodLink RLA 116 yMO_rate ∈ wALL := List.mem_filter.mpr ⟨List.mem_append_right _ (List.mem_of_getElem? (i := 749) (by decide +kernel)), rfl⟩
theorem wm_627 : Cond.instanceMethod yMO_rate ∈ wALL := List.mem_filter.mpr ⟨List.mem_append_right _ (List.mem_of_getElem? (i := 750) (by decide +kernel)), rfl⟩
theorem wm_628 : Cond.selects RMO yMO_rate yMO_rate ∈ wALL := List.mem_filter.mpr ⟨List.mem_append_right _ (List.mem_of_getElem? (i := 751) (by decide +kernel)), rfl⟩
theorem wm_629 : Cond.methodLink RLA 117 yHL_statement ∈ wALL := List.mem_filter.mpr ⟨List.mem_append_right _ (List.mem_of_getElem? (i := 451) (by decide +kernel)), rfl⟩
theorem wm_630 : Cond.instanceMethod yHL_statement ∈ wALL := List.mem_filter.mpr ⟨List.mem_append_right _ (List.mem_of_getElem? (i := 452) (by decide +kernel)), rfl⟩
theorem wm_631 : Cond.selects RHL yHL_statement yHL_statement ∈ wALL := List.mem_filter.mpr ⟨List.mem_append_right _ (List.mem_of_getElem? (i := 453) (by decide +kernel)), rfl⟩
theorem wm_632 : Cond.methodLink RLA 121 yMO_statement ∈ wALL := List.mem_filter.mpr ⟨List.mem_append_right _ (List.mem_of_getElem? (i := 754) (by decide +kernel)), rfl⟩
theorem wm_633 : Cond.instanceMethod yMO_statement ∈ wALL := List.mem_filter.mpr ⟨List.mem_append_right _ (List.mem_of_getElem? (i := 755) (by decide +kernel)), rfl⟩
theorem wm_634 : Cond.selects RMO yMO_statement yMO_statement ∈ wALL := List.mem_filter.mpr ⟨List.mem_append_right _ (List.mem_of_getElem? (i := 756) (by decide +kernel)), rfl⟩
theorem wm_635 : Cond.methodLink RLA 122 yHL_tax ∈ wALL := List.mem_filter.mpr ⟨List.mem_append_right _ (List.mem_of_getElem? (i := 463) (by decide +kernel)), rfl⟩
theorem wm_636 : Cond.instanceMethod yHL_tax ∈ wALL := List.mem_filter.mpr ⟨List.mem_append_right _ (List.mem_of_getElem? (i := 464) (by decide +kernel)), rfl⟩
theorem wm_637 : Cond.selects RHL yHL_tax yHL_tax ∈ wALL := List.mem_filter.mpr ⟨List.mem_append_right _ (List.mem_of_getElem? (i := 465) (by decide +kernel)), rfl⟩
theorem wm_638 : Cond.methodLink RLA 126 yMO_tax ∈ wALL := List.mem_filter.mpr ⟨List.mem_append_right _ (List.mem_of_getElem? (i := 758) (by decide +kernel)), rfl⟩
theorem wm_639 : Cond.instanceMethod yMO_tax ∈ wALL := List.mem_filter.mpr ⟨List.mem_append_right _ (List.mem_of_getElem? (i := 759) (by decide +kernel)), rfl⟩
theorem wm_640 : Cond.selects RMO yMO_tax yMO_tax ∈ wALL := List.mem_filter.mpr ⟨List.mem_append_right _ (List.mem_of_getElem? (i := 760) (by decide +kernel)), rfl⟩
theorem wm_641 : Cond.methodLink RLA 127 yHL_found ∈ wALL := List.mem_filter.mpr ⟨List.mem_append_right _ (List.mem_of_getElem? (i := 476) (by decide +kernel)), rfl⟩
theorem wm_642 : Cond.instanceMethod yHL_found ∈ wALL := List.mem_filter.mpr ⟨List.mem_append_right _ (List.mem_of_getElem? (i := 477) (by decide +kernel)), rfl⟩
theorem wm_643 : Cond.selects RHL yHL_found yHL_found ∈ wALL := List.mem_filter.mpr ⟨List.mem_append_right _ (List.mem_of_getElem? (i := 478) (by decide +kernel)), rfl⟩
theorem wm_644 : Cond.methodLink RLA 130 yMO_found ∈ wALL := List.mem_filter.mpr ⟨List.mem_append_right _ (List.mem_of_getElem? (i := 763) (by decide +kernel)), rfl⟩
theorem wm_645 : Cond.instanceMethod yMO_found ∈ wALL := List.mem_filter.mpr ⟨List.mem_append_right _ (List.mem_of_getElem? (i := 764) (by decide +kernel)), rfl⟩
theorem wm_646 : Cond.selects RMO yMO_found yMO_found ∈ wALL := List.mem_filter.mpr ⟨List.mem_append_right _ (List.mem_of_getElem? (i := 765) (by decide +kernel)), rfl⟩
theorem wm_647 : Cond.methodLink RLA 7 yHL_close ∈ wALL := List.mem_filter.mpr ⟨List.mem_append_right _ (List.mem_of_getElem? (i := 484) (by decide +kernel)), rfl⟩
theorem wm_648 : Cond.initialized RLA ∈ wALL := List.mem_filter.mpr ⟨List.mem_append_right _ (List.mem_of_getElem? (i := 0) (by decide +kernel)), rfl⟩
theorem wm_649 : Cond.instanceMethod yHL_close ∈ wALL := List.mem_filter.mpr ⟨List.mem_append_right _ (List.mem_of_getElem? (i := 485) (by decide +kernel)), rfl⟩
theorem wm_650 : Cond.selects RHL yHL_close yHL_close ∈ wALL := List.mem_filter.mpr ⟨List.mem_append_right _ (List.mem_of_getElem? (i := 486) (by decide +kernel)), rfl⟩
theorem wm_651 : Cond.classLink RHL 73 IAE ∈ wALL := List.mem_filter.mpr ⟨List.mem_append_right _ (List.mem_of_getElem? (i := 492) (by decide +kernel)), rfl⟩
theorem wm_652 : Cond.initialized IAE ∈ wALL := List.mem_filter.mpr ⟨List.mem_append_right _ (List.mem_of_getElem? (i := 10) (by decide +kernel)), rfl⟩
theorem wm_653 : Cond.instantiable IAE 6 ∈ wALL := List.mem_filter.mpr ⟨List.mem_append_right _ (List.mem_of_getElem? (i := 493) (by decide +kernel)), rfl⟩
theorem wm_654 : Cond.classLink RLA 13 IAE ∈ wALL := List.mem_filter.mpr ⟨List.mem_append_right _ (List.mem_of_getElem? (i := 483) (by decide +kernel)), rfl⟩
