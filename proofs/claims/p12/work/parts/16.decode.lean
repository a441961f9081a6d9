theorem dL_law_437 : decode cL_law 437 = .ok (.iadd, 1) := dz_96 (n := 416) (r := 21) hz_L_law_416 rfl
theorem dL_law_438 : decode cL_law 438 = .ok (.iaload, 1) := dz_46 (n := 416) (r := 22) hz_L_law_416 rfl
theorem dL_law_439 : decode cL_law 439 = .ok (.invokevirtual 46, 3) := dz_182 (n := 416) (r := 23) hz_L_law_416 rfl rfl
theorem dL_law_442 : decode cL_law 442 = .ok (.pop, 1) := dz_87 (n := 416) (r := 26) hz_L_law_416 rfl
theorem dL_law_443 : decode cL_law 443 = .ok (.aload_n 2, 1) := dz_44 (n := 416) (r := 27) hz_L_law_416 rfl
theorem dL_law_444 : decode cL_law 444 = .ok (.aload_n 0, 1) := dz_42 (n := 416) (r := 28) hz_L_law_416 rfl
theorem dL_law_445 : decode cL_law 445 = .ok (.iload_n 3, 1) := dz_29 (n := 416) (r := 29) hz_L_law_416 rfl
theorem dL_law_446 : decode cL_law 446 = .ok (.iconst 1, 1) := dz_4 (n := 416) (r := 30) hz_L_law_416 rfl
theorem dL_law_447 : decode cL_law 447 = .ok (.iadd, 1) := dz_96 (n := 416) (r := 31) hz_L_law_416 rfl
theorem hz_L_law_448 : (cL_law.data.toList.drop 448).take 40 = [46, 182, 0, 50, 87, 167, 3, 68, 43, 42, 29, 4, 96, 46, 182, 0, 51, 87, 44, 42, 29, 4, 96, 46, 182, 0, 54, 87, 167, 3, 45, 43, 182, 0, 55, 87, 44, 182, 0, 58] := by decide +kernel
theorem dL_law_448 : decode cL_law 448 = .ok (.iaload, 1) := dz_46 (n := 448) (r := 0) hz_L_law_448 rfl
theorem dL_law_449 : decode cL_law 449 = .ok (.invokevirtual 50, 3) := dz_182 (n := 448) (r := 1) hz_L_law_448 rfl rfl
theorem dL_law_452 : decode cL_law 452 = .ok (.pop, 1) := dz_87 (n := 448) (r := 4) hz_L_law_448 rfl
theorem dL_law_453 : decode cL_law 453 = .ok (.goto 836, 3) := dz_167 (n := 448) (r := 5) hz_L_law_448 rfl (by decide +kernel)
theorem dL_law_456 : decode cL_law 456 = .ok (.aload_n 1, 1) := dz_43 (n := 448) (r := 8) hz_L_law_448 rfl
theorem dL_law_457 : decode cL_law 457 = .ok (.aload_n 0, 1) := dz_42 (n := 448) (r := 9) hz_L_law_448 rfl
theorem dL_law_458 : decode cL_law 458 = .ok (.iload_n 3, 1) := dz_29 (n := 448) (r := 10) hz_L_law_448 rfl
theorem dL_law_459 : decode cL_law 459 = .ok (.iconst 1, 1) := dz_4 (n := 448) (r := 11) hz_L_law_448 rfl
theorem dL_law_460 : decode cL_law 460 = .ok (.iadd, 1) := dz_96 (n := 448) (r := 12) hz_L_law_448 rfl
theorem dL_law_461 : decode cL_law 461 = .ok (.iaload, 1) := dz_46 (n := 448) (r := 13) hz_L_law_448 rfl
theorem dL_law_462 : decode cL_law 462 = .ok (.invokevirtual 51, 3) := dz_182 (n := 448) (r := 14) hz_L_law_448 rfl rfl
theorem dL_law_465 : decode cL_law 465 = .ok (.pop, 1) := dz_87 (n := 448) (r := 17) hz_L_law_448 rfl
theorem dL_law_466 : decode cL_law 466 = .ok (.aload_n 2, 1) := dz_44 (n := 448) (r := 18) hz_L_law_448 rfl
theorem dL_law_467 : decode cL_law 467 = .ok (.aload_n 0, 1) := dz_42 (n := 448) (r := 19) hz_L_law_448 rfl
theorem dL_law_468 : decode cL_law 468 = .ok (.iload_n 3, 1) := dz_29 (n := 448) (r := 20) hz_L_law_448 rfl
theorem dL_law_469 : decode cL_law 469 = .ok (.iconst 1, 1) := dz_4 (n := 448) (r := 21) hz_L_law_448 rfl
theorem dL_law_470 : decode cL_law 470 = .ok (.iadd, 1) := dz_96 (n := 448) (r := 22) hz_L_law_448 rfl
theorem dL_law_471 : decode cL_law 471 = .ok (.iaload, 1) := dz_46 (n := 448) (r := 23) hz_L_law_448 rfl
theorem dL_law_472 : decode cL_law 472 = .ok (.invokevirtual 54, 3) := dz_182 (n := 448) (r := 24) hz_L_law_448 rfl rfl
theorem dL_law_475 : decode cL_law 475 = .ok (.pop, 1) := dz_87 (n := 448) (r := 27) hz_L_law_448 rfl
theorem dL_law_476 : decode cL_law 476 = .ok (.goto 813, 3) := dz_167 (n := 448) (r := 28) hz_L_law_448 rfl (by decide +kernel)
theorem dL_law_479 : decode cL_law 479 = .ok (.aload_n 1, 1) := dz_43 (n := 448) (r := 31) hz_L_law_448 rfl
theorem hz_L_law_480 : (cL_law.data.toList.drop 480).take 40 = [182, 0, 55, 87, 44, 182, 0, 58, 87, 167, 3, 32, 43, 182, 0, 59, 44, 182, 0, 63, 159, 3, 21, 3, 172, 43, 42, 29, 4, 96, 46, 42, 29, 5, 96, 46, 182, 0, 64, 87] := by decide +kernel
theorem dL_law_480 : decode cL_law 480 = .ok (.invokevirtual 55, 3) := dz_182 (n := 480) (r := 0) hz_L_law_480 rfl rfl
theorem dL_law_483 : decode cL_law 483 = .ok (.pop, 1) := dz_87 (n := 480) (r := 3) hz_L_law_480 rfl
theorem dL_law_484 : decode cL_law 484 = .ok (.aload_n 2, 1) := dz_44 (n := 480) (r := 4) hz_L_law_480 rfl
theorem dL_law_485 : decode cL_law 485 = .ok (.invokevirtual 58, 3) := dz_182 (n := 480) (r := 5) hz_L_law_480 rfl rfl
theorem dL_law_488 : decode cL_law 488 = .ok (.pop, 1) := dz_87 (n := 480) (r := 8) hz_L_law_480 rfl
theorem dL_law_489 : decode cL_law 489 = .ok (.goto 800, 3) := dz_167 (n := 480) (r := 9) hz_L_law_480 rfl (by decide +kernel)
theorem dL_law_492 : decode cL_law 492 = .ok (.aload_n 1, 1) := dz_43 (n := 480) (r := 12) hz_L_law_480 rfl
theorem dL_law_493 : decode cL_law 493 = .ok (.invokevirtual 59, 3) := dz_182 (n := 480) (r := 13) hz_L_law_480 rfl rfl
theorem dL_law_496 : decode cL_law 496 = .ok (.aload_n 2, 1) := dz_44 (n := 480) (r := 16) hz_L_law_480 rfl
theorem dL_law_497 : decode cL_law 497 = .ok (.invokevirtual 63, 3) := dz_182 (n := 480) (r := 17) hz_L_law_480 rfl rfl
theorem dL_law_500 : decode cL_law 500 = .ok (.if_icmp .eq 789, 3) := dz_159 (n := 480) (r := 20) hz_L_law_480 rfl (by decide +kernel)
theorem dL_law_503 : decode cL_law 503 = .ok (.iconst 0, 1) := dz_3 (n := 480) (r := 23) hz_L_law_480 rfl
theorem dL_law_504 : decode cL_law 504 = .ok (.ireturn, 1) := dz_172 (n := 480) (r := 24) hz_L_law_480 rfl
theorem dL_law_505 : decode cL_law 505 = .ok (.aload_n 1, 1) := dz_43 (n := 480) (r := 25) hz_L_law_480 rfl
theorem dL_law_506 : decode cL_law 506 = .ok (.aload_n 0, 1) := dz_42 (n := 480) (r := 26) hz_L_law_480 rfl
theorem dL_law_507 : decode cL_law 507 = .ok (.iload_n 3, 1) := dz_29 (n := 480) (r := 27) hz_L_law_480 rfl
theorem dL_law_508 : decode cL_law 508 = .ok (.iconst 1, 1) := dz_4 (n := 480) (r := 28) hz_L_law_480 rfl
theorem dL_law_509 : decode cL_law 509 = .ok (.iadd, 1) := dz_96 (n := 480) (r := 29) hz_L_law_480 rfl
theorem dL_law_510 : decode cL_law 510 = .ok (.iaload, 1) := dz_46 (n := 480) (r := 30) hz_L_law_480 rfl
theorem dL_law_511 : decode cL_law 511 = .ok (.aload_n 0, 1) := dz_42 (n := 480) (r := 31) hz_L_law_480 rfl
theorem hz_L_law_512 : (cL_law.data.toList.drop 512).take 40 = [29, 5, 96, 46, 182, 0, 64, 87, 44, 42, 29, 4, 96, 46, 42, 29, 5, 96, 46, 182, 0, 68, 87, 167, 2, 242, 43, 42, 29, 4, 96, 46, 42, 29, 5, 96, 46, 182, 0, 69] := by decide +kernel
theorem dL_law_512 : decode cL_law 512 = .ok (.iload_n 3, 1) := dz_29 (n := 512) (r := 0) hz_L_law_512 rfl
theorem dL_law_513 : decode cL_law 513 = .ok (.iconst 2, 1) := dz_5 (n := 512) (r := 1) hz_L_law_512 rfl
theorem dL_law_514 : decode cL_law 514 = .ok (.iadd, 1) := dz_96 (n := 512) (r := 2) hz_L_law_512 rfl
theorem dL_law_515 : decode cL_law 515 = .ok (.iaload, 1) := dz_46 (n := 512) (r := 3) hz_L_law_512 rfl
theorem dL_law_516 : decode cL_law 516 = .ok (.invokevirtual 64, 3) := dz_182 (n := 512) (r := 4) hz_L_law_512 rfl rfl
theorem dL_law_519 : decode cL_law 519 = .ok (.pop, 1) := dz_87 (n := 512) (r := 7) hz_L_law_512 rfl
theorem dL_law_520 : decode cL_law 520 = .ok (.aload_n 2, 1) := dz_44 (n := 512) (r := 8) hz_L_law_512 rfl
theorem dL_law_521 : decode cL_law 521 = .ok (.aload_n 0, 1) := dz_42 (n := 512) (r := 9) hz_L_law_512 rfl
theorem dL_law_522 : decode cL_law 522 = .ok (.iload_n 3, 1) := dz_29 (n := 512) (r := 10) hz_L_law_512 rfl
theorem dL_law_523 : decode cL_law 523 = .ok (.iconst 1, 1) := dz_4 (n := 512) (r := 11) hz_L_law_512 rfl
theorem dL_law_524 : decode cL_law 524 = .ok (.iadd, 1) := dz_96 (n := 512) (r := 12) hz_L_law_512 rfl
theorem dL_law_525 : decode cL_law 525 = .ok (.iaload, 1) := dz_46 (n := 512) (r := 13) hz_L_law_512 rfl
theorem dL_law_526 : decode cL_law 526 = .ok (.aload_n 0, 1) := dz_42 (n := 512) (r := 14) hz_L_law_512 rfl
theorem dL_law_527 : decode cL_law 527 = .ok (.iload_n 3, 1) := dz_29 (n := 512) (r := 15) hz_L_law_512 rfl
theorem dL_law_528 : decode cL_law 528 = .ok (.iconst 2, 1) := dz_5 (n := 512) (r := 16) hz_L_law_512 rfl
theorem dL_law_529 : decode cL_law 529 = .ok (.iadd, 1) := dz_96 (n := 512) (r := 17) hz_L_law_512 rfl
theorem dL_law_530 : decode cL_law 530 = .ok (.iaload, 1) := dz_46 (n := 512) (r := 18) hz_L_law_512 rfl
theorem dL_law_531 : decode cL_law 531 = .ok (.invokevirtual 68, 3) := dz_182 (n := 512) (r := 19) hz_L_law_512 rfl rfl
theorem dL_law_534 : decode cL_law 534 = .ok (.pop, 1) := dz_87 (n := 512) (r := 22) hz_L_law_512 rfl
theorem dL_law_535 : decode cL_law 535 = .ok (.goto 754, 3) := dz_167 (n := 512) (r := 23) hz_L_law_512 rfl (by decide +kernel)
theorem dL_law_538 : decode cL_law 538 = .ok (.aload_n 1, 1) := dz_43 (n := 512) (r := 26) hz_L_law_512 rfl
theorem dL_law_539 : decode cL_law 539 = .ok (.aload_n 0, 1) := dz_42 (n := 512) (r := 27) hz_L_law_512 rfl
theorem dL_law_540 : decode cL_law 540 = .ok (.iload_n 3, 1) := dz_29 (n := 512) (r := 28) hz_L_law_512 rfl
theorem dL_law_541 : decode cL_law 541 = .ok (.iconst 1, 1) := dz_4 (n := 512) (r := 29) hz_L_law_512 rfl
theorem dL_law_542 : decode cL_law 542 = .ok (.iadd, 1) := dz_96 (n := 512) (r := 30) hz_L_law_512 rfl
theorem dL_law_543 : decode cL_law 543 = .ok (.iaload, 1) := dz_46 (n := 512) (r := 31) hz_L_law_512 rfl
theorem hz_L_law_544 : (cL_law.data.toList.drop 544).take 40 = [42, 29, 5, 96, 46, 182, 0, 69, 87, 44, 42, 29, 4, 96, 46, 42, 29, 5, 96, 46, 182, 0, 72, 87, 167, 2, 209, 43, 42, 29, 4, 96, 46, 42, 29, 5, 96, 46, 182, 0] := by decide +kernel
theorem dL_law_544 : decode cL_law 544 = .ok (.aload_n 0, 1) := dz_42 (n := 544) (r := 0) hz_L_law_544 rfl
theorem dL_law_545 : decode cL_law 545 = .ok (.iload_n 3, 1) := dz_29 (n := 544) (r := 1) hz_L_law_544 rfl
theorem dL_law_546 : decode cL_law 546 = .ok (.iconst 2, 1) := dz_5 (n := 544) (r := 2) hz_L_law_544 rfl
theorem dL_law_547 : decode cL_law 547 = .ok (.iadd, 1) := dz_96 (n := 544) (r := 3) hz_L_law_544 rfl
theorem dL_law_548 : decode cL_law 548 = .ok (.iaload, 1) := dz_46 (n := 544) (r := 4) hz_L_law_544 rfl
theorem dL_law_549 : decode cL_law 549 = .ok (.invokevirtual 69, 3) := dz_182 (n := 544) (r := 5) hz_L_law_544 rfl rfl
theorem dL_law_552 : decode cL_law 552 = .ok (.pop, 1) := dz_87 (n := 544) (r := 8) hz_L_law_544 rfl
theorem dL_law_553 : decode cL_law 553 = .ok (.aload_n 2, 1) := dz_44 (n := 544) (r := 9) hz_L_law_544 rfl
theorem dL_law_554 : decode cL_law 554 = .ok (.aload_n 0, 1) := dz_42 (n := 544) (r := 10) hz_L_law_544 rfl
theorem dL_law_555 : decode cL_law 555 = .ok (.iload_n 3, 1) := dz_29 (n := 544) (r := 11) hz_L_law_544 rfl
theorem dL_law_556 : decode cL_law 556 = .ok (.iconst 1, 1) := dz_4 (n := 544) (r := 12) hz_L_law_544 rfl
theorem dL_law_557 : decode cL_law 557 = .ok (.iadd, 1) := dz_96 (n := 544) (r := 13) hz_L_law_544 rfl
theorem dL_law_558 : decode cL_law 558 = .ok (.iaload, 1) := dz_46 (n := 544) (r := 14) hz_L_law_544 rfl
theorem dL_law_559 : decode cL_law 559 = .ok (.aload_n 0, 1) := dz_42 (n := 544) (r := 15) hz_L_law_544 rfl
theorem dL_law_560 : decode cL_law 560 = .ok (.iload_n 3, 1) := dz_29 (n := 544) (r := 16) hz_L_law_544 rfl
theorem dL_law_561 : decode cL_law 561 = .ok (.iconst 2, 1) := dz_5 (n := 544) (r := 17) hz_L_law_544 rfl
theorem dL_law_562 : decode cL_law 562 = .ok (.iadd, 1) := dz_96 (n := 544) (r := 18) hz_L_law_544 rfl
theorem dL_law_563 : decode cL_law 563 = .ok (.iaload, 1) := dz_46 (n := 544) (r := 19) hz_L_law_544 rfl
theorem dL_law_564 : decode cL_law 564 = .ok (.invokevirtual 72, 3) := dz_182 (n := 544) (r := 20) hz_L_law_544 rfl rfl
theorem dL_law_567 : decode cL_law 567 = .ok (.pop, 1) := dz_87 (n := 544) (r := 23) hz_L_law_544 rfl
theorem dL_law_568 : decode cL_law 568 = .ok (.goto 721, 3) := dz_167 (n := 544) (r := 24) hz_L_law_544 rfl (by decide +kernel)
theorem dL_law_571 : decode cL_law 571 = .ok (.aload_n 1, 1) := dz_43 (n := 544) (r := 27) hz_L_law_544 rfl
theorem dL_law_572 : decode cL_law 572 = .ok (.aload_n 0, 1) := dz_42 (n := 544) (r := 28) hz_L_law_544 rfl
theorem dL_law_573 : decode cL_law 573 = .ok (.iload_n 3, 1) := dz_29 (n := 544) (r := 29) hz_L_law_544 rfl
theorem dL_law_574 : decode cL_law 574 = .ok (.iconst 1, 1) := dz_4 (n := 544) (r := 30) hz_L_law_544 rfl
theorem dL_law_575 : decode cL_law 575 = .ok (.iadd, 1) := dz_96 (n := 544) (r := 31) hz_L_law_544 rfl
theorem hz_L_law_576 : (cL_law.data.toList.drop 576).take 40 = [46, 42, 29, 5, 96, 46, 182, 0, 73, 87, 44, 42, 29, 4, 96, 46, 42, 29, 5, 96, 46, 182, 0, 76, 87, 167, 2, 176, 43, 42, 29, 4, 96, 46, 182, 0, 77, 87, 44, 42] := by decide +kernel
theorem dL_law_576 : decode cL_law 576 = .ok (.iaload, 1) := dz_46 (n := 576) (r := 0) hz_L_law_576 rfl
theorem dL_law_577 : decode cL_law 577 = .ok (.aload_n 0, 1) := dz_42 (n := 576) (r := 1) hz_L_law_576 rfl
theorem dL_law_578 : decode cL_law 578 = .ok (.iload_n 3, 1) := dz_29 (n := 576) (r := 2) hz_L_law_576 rfl
theorem dL_law_579 : decode cL_law 579 = .ok (.iconst 2, 1) := dz_5 (n := 576) (r := 3) hz_L_law_576 rfl
theorem dL_law_580 : decode cL_law 580 = .ok (.iadd, 1) := dz_96 (n := 576) (r := 4) hz_L_law_576 rfl
theorem dL_law_581 : decode cL_law 581 = .ok (.iaload, 1) := dz_46 (n := 576) (r := 5) hz_L_law_576 rfl
theorem dL_law_582 : decode cL_law 582 = .ok (.invokevirtual 73, 3) := dz_182 (n := 576) (r := 6) hz_L_law_576 rfl rfl
theorem dL_law_585 : decode cL_law 585 = .ok (.pop, 1) := dz_87 (n := 576) (r := 9) hz_L_law_576 rfl
theorem dL_law_586 : decode cL_law 586 = .ok (.aload_n 2, 1) := dz_44 (n := 576) (r := 10) hz_L_law_576 rfl
theorem dL_law_587 : decode cL_law 587 = .ok (.aload_n 0, 1) := dz_42 (n := 576) (r := 11) hz_L_law_576 rfl
theorem dL_law_588 : decode cL_law 588 = .ok (.iload_n 3, 1) := dz_29 (n := 576) (r := 12) hz_L_law_576 rfl
theorem dL_law_589 : decode cL_law 589 = .ok (.iconst 1, 1) := dz_4 (n := 576) (r := 13) hz_L_law_576 rfl
theorem dL_law_590 : decode cL_law 590 = .ok (.iadd, 1) := dz_96 (n := 576) (r := 14) hz_L_law_576 rfl
theorem dL_law_591 : decode cL_law 591 = .ok (.iaload, 1) := dz_46 (n := 576) (r := 15) hz_L_law_576 rfl
theorem dL_law_592 : decode cL_law 592 = .ok (.aload_n 0, 1) := dz_42 (n := 576) (r := 16) hz_L_law_576 rfl
theorem dL_law_593 : decode cL_law 593 = .ok (.iload_n 3, 1) := dz_29 (n := 576) (r := 17) hz_L_law_576 rfl
theorem dL_law_594 : decode cL_law 594 = .ok (.iconst 2, 1) := dz_5 (n := 576) (r := 18) hz_L_law_576 rfl
theorem dL_law_595 : decode cL_law 595 = .ok (.iadd, 1) := dz_96 (n := 576) (r := 19) hz_L_law_576 rfl
theorem dL_law_596 : decode cL_law 596 = .ok (.iaload, 1) := dz_46 (n := 576) (r := 20) hz_L_law_576 rfl
theorem dL_law_597 : decode cL_law 597 = .ok (.invokevirtual 76, 3) := dz_182 (n := 576) (r := 21) hz_L_law_576 rfl rfl
theorem dL_law_600 : decode cL_law 600 = .ok (.pop, 1) := dz_87 (n := 576) (r := 24) hz_L_law_576 rfl
theorem dL_law_601 : decode cL_law 601 = .ok (.goto 688, 3) := dz_167 (n := 576) (r := 25) hz_L_law_576 rfl (by decide +kernel)
theorem dL_law_604 : decode cL_law 604 = .ok (.aload_n 1, 1) := dz_43 (n := 576) (r := 28) hz_L_law_576 rfl
theorem dL_law_605 : decode cL_law 605 = .ok (.aload_n 0, 1) := dz_42 (n := 576) (r := 29) hz_L_law_576 rfl
theorem dL_law_606 : decode cL_law 606 = .ok (.iload_n 3, 1) := dz_29 (n := 576) (r := 30) hz_L_law_576 rfl
theorem dL_law_607 : decode cL_law 607 = .ok (.iconst 1, 1) := dz_4 (n := 576) (r := 31) hz_L_law_576 rfl
theorem hz_L_law_608 : (cL_law.data.toList.drop 608).take 40 = [96, 46, 182, 0, 77, 87, 44, 42, 29, 4, 96, 46, 182, 0, 80, 87, 167, 2, 153, 43, 42, 29, 4, 96, 46, 182, 0, 81, 87, 44, 42, 29, 4, 96, 46, 182, 0, 84, 87, 167] := by decide +kernel
theorem dL_law_608 : decode cL_law 608 = .ok (.iadd, 1) := dz_96 (n := 608) (r := 0) hz_L_law_608 rfl
theorem dL_law_609 : decode cL_law 609 = .ok (.iaload, 1) := dz_46 (n := 608) (r := 1) hz_L_law_608 rfl
theorem dL_law_610 : decode cL_law 610 = .ok (.invokevirtual 77, 3) := dz_182 (n := 608) (r := 2) hz_L_law_608 rfl rfl
theorem dL_law_613 : decode cL_law 613 = .ok (.pop, 1) := dz_87 (n := 608) (r := 5) hz_L_law_608 rfl
theorem dL_law_614 : decode cL_law 614 = .ok (.aload_n 2, 1) := dz_44 (n := 608) (r := 6) hz_L_law_608 rfl
theorem dL_law_615 : decode cL_law 615 = .ok (.aload_n 0, 1) := dz_42 (n := 608) (r := 7) hz_L_law_608 rfl
theorem dL_law_616 : decode cL_law 616 = .ok (.iload_n 3, 1) := dz_29 (n := 608) (r := 8) hz_L_law_608 rfl
theorem dL_law_617 : decode cL_law 617 = .ok (.iconst 1, 1) := dz_4 (n := 608) (r := 9) hz_L_law_608 rfl
theorem dL_law_618 : decode cL_law 618 = .ok (.iadd, 1) := dz_96 (n := 608) (r := 10) hz_L_law_608 rfl
theorem dL_law_619 : decode cL_law 619 = .ok (.iaload, 1) := dz_46 (n := 608) (r := 11) hz_L_law_608 rfl
theorem dL_law_620 : decode cL_law 620 = .ok (.invokevirtual 80, 3) := dz_182 (n := 608) (r := 12) hz_L_law_608 rfl rfl
theorem dL_law_623 : decode cL_law 623 = .ok (.pop, 1) := dz_87 (n := 608) (r := 15) hz_L_law_608 rfl
theorem dL_law_624 : decode cL_law 624 = .ok (.goto 665, 3) := dz_167 (n := 608) (r := 16) hz_L_law_608 rfl (by decide +kernel)
theorem dL_law_627 : decode cL_law 627 = .ok (.aload_n 1, 1) := dz_43 (n := 608) (r := 19) hz_L_law_608 rfl
theorem dL_law_628 : decode cL_law 628 = .ok (.aload_n 0, 1) := dz_42 (n := 608) (r := 20) hz_L_law_608 rfl
theorem dL_law_629 : decode cL_law 629 = .ok (.iload_n 3, 1) := dz_29 (n := 608) (r := 21) hz_L_law_608 rfl
theorem dL_law_630 : decode cL_law 630 = .ok (.iconst 1, 1) := dz_4 (n := 608) (r := 22) hz_L_law_608 rfl
theorem dL_law_631 : decode cL_law 631 = .ok (.iadd, 1) := dz_96 (n := 608) (r := 23) hz_L_law_608 rfl
theorem dL_law_632 : decode cL_law 632 = .ok (.iaload, 1) := dz_46 (n := 608) (r := 24) hz_L_law_608 rfl
theorem dL_law_633 : decode cL_law 633 = .ok (.invokevirtual 81, 3) := dz_182 (n := 608) (r := 25) hz_L_law_608 rfl rfl
theorem dL_law_636 : decode cL_law 636 = .ok (.pop, 1) := dz_87 (n := 608) (r := 28) hz_L_law_608 rfl
theorem dL_law_637 : decode cL_law 637 = .ok (.aload_n 2, 1) := dz_44 (n := 608) (r := 29) hz_L_law_608 rfl
theorem dL_law_638 : decode cL_law 638 = .ok (.aload_n 0, 1) := dz_42 (n := 608) (r := 30) hz_L_law_608 rfl
theorem dL_law_639 : decode cL_law 639 = .ok (.iload_n 3, 1) := dz_29 (n := 608) (r := 31) hz_L_law_608 rfl
theorem hz_L_law_640 : (cL_law.data.toList.drop 640).take 40 = [4, 96, 46, 182, 0, 84, 87, 167, 2, 130, 43, 42, 29, 4, 96, 46, 42, 29, 5, 96, 46, 42, 29, 6, 96, 46, 42, 29, 7, 96, 46, 182, 0, 85, 87, 44, 42, 29, 4, 96] := by decide +kernel
theorem dL_law_640 : decode cL_law 640 = .ok (.iconst 1, 1) := dz_4 (n := 640) (r := 0) hz_L_law_640 rfl
theorem dL_law_641 : decode cL_law 641 = .ok (.iadd, 1) := dz_96 (n := 640) (r := 1) hz_L_law_640 rfl
theorem dL_law_642 : decode cL_law 642 = .ok (.iaload, 1) := dz_46 (n := 640) (r := 2) hz_L_law_640 rfl
theorem dL_law_643 : decode cL_law 643 = .ok (.invokevirtual 84, 3) := dz_182 (n := 640) (r := 3) hz_L_law_640 rfl rfl
theorem dL_law_646 : decode cL_law 646 = .ok (.pop, 1) := dz_87 (n := 640) (r := 6) hz_L_law_640 rfl
theorem dL_law_647 : decode cL_law 647 = .ok (.goto 642, 3) := dz_167 (n := 640) (r := 7) hz_L_law_640 rfl (by decide +kernel)
theorem dL_law_650 : decode cL_law 650 = .ok (.aload_n 1, 1) := dz_43 (n := 640) (r := 10) hz_L_law_640 rfl
theorem dL_law_651 : decode cL_law 651 = .ok (.aload_n 0, 1) := dz_42 (n := 640) (r := 11) hz_L_law_640 rfl
theorem dL_law_652 : decode cL_law 652 = .ok (.iload_n 3, 1) := dz_29 (n := 640) (r := 12) hz_L_law_640 rfl
theorem dL_law_653 : decode cL_law 653 = .ok (.iconst 1, 1) := dz_4 (n := 640) (r := 13) hz_L_law_640 rfl
theorem dL_law_654 : decode cL_law 654 = .ok (.iadd, 1) := dz_96 (n := 640) (r := 14) hz_L_law_640 rfl
theorem dL_law_655 : decode cL_law 655 = .ok (.iaload, 1) := dz_46 (n := 640) (r := 15) hz_L_law_640 rfl
theorem dL_law_656 : decode cL_law 656 = .ok (.aload_n 0, 1) := dz_42 (n := 640) (r := 16) hz_L_law_640 rfl
theorem dL_law_657 : decode cL_law 657 = .ok (.iload_n 3, 1) := dz_29 (n := 640) (r := 17) hz_L_law_640 rfl
theorem dL_law_658 : decode cL_law 658 = .ok (.iconst 2, 1) := dz_5 (n := 640) (r := 18) hz_L_law_640 rfl
theorem dL_law_659 : decode cL_law 659 = .ok (.iadd, 1) := dz_96 (n := 640) (r := 19) hz_L_law_640 rfl
theorem dL_law_660 : decode cL_law 660 = .ok (.iaload, 1) := dz_46 (n := 640) (r := 20) hz_L_law_640 rfl
theorem dL_law_661 : decode cL_law 661 = .ok (.aload_n 0, 1) := dz_42 (n := 640) (r := 21) hz_L_law_640 rfl
theorem dL_law_662 : decode cL_law 662 = .ok (.iload_n 3, 1) := dz_29 (n := 640) (r := 22) hz_L_law_640 rfl
theorem dL_law_663 : decode cL_law 663 = .ok (.iconst 3, 1) := dz_6 (n := 640) (r := 23) hz_L_law_640 rfl
theorem dL_law_664 : decode cL_law 664 = .ok (.iadd, 1) := dz_96 (n := 640) (r := 24) hz_L_law_640 rfl
theorem dL_law_665 : decode cL_law 665 = .ok (.iaload, 1) := dz_46 (n := 640) (r := 25) hz_L_law_640 rfl
theorem dL_law_666 : decode cL_law 666 = .ok (.aload_n 0, 1) := dz_42 (n := 640) (r := 26) hz_L_law_640 rfl
theorem dL_law_667 : decode cL_law 667 = .ok (.iload_n 3, 1) := dz_29 (n := 640) (r := 27) hz_L_law_640 rfl
theorem dL_law_668 : decode cL_law 668 = .ok (.iconst 4, 1) := dz_7 (n := 640) (r := 28) hz_L_law_640 rfl
theorem dL_law_669 : decode cL_law 669 = .ok (.iadd, 1) := dz_96 (n := 640) (r := 29) hz_L_law_640 rfl
theorem dL_law_670 : decode cL_law 670 = .ok (.iaload, 1) := dz_46 (n := 640) (r := 30) hz_L_law_640 rfl
theorem dL_law_671 : decode cL_law 671 = .ok (.invokevirtual 85, 3) := dz_182 (n := 640) (r := 31) hz_L_law_640 rfl rfl
theorem hz_L_law_672 : (cL_law.data.toList.drop 672).take 40 = [0, 85, 87, 44, 42, 29, 4, 96, 46, 42, 29, 5, 96, 46, 42, 29, 6, 96, 46, 42, 29, 7, 96, 46, 182, 0, 89, 87, 167, 2, 77, 43, 42, 29, 4, 96, 46, 42, 29, 5] := by decide +kernel
theorem dL_law_674 : decode cL_law 674 = .ok (.pop, 1) := dz_87 (n := 672) (r := 2) hz_L_law_672 rfl
theorem dL_law_675 : decode cL_law 675 = .ok (.aload_n 2, 1) := dz_44 (n := 672) (r := 3) hz_L_law_672 rfl
theorem dL_law_676 : decode cL_law 676 = .ok (.aload_n 0, 1) := dz_42 (n := 672) (r := 4) hz_L_law_672 rfl
theorem dL_law_677 : decode cL_law 677 = .ok (.iload_n 3, 1) := dz_29 (n := 672) (r := 5) hz_L_law_672 rfl
theorem dL_law_678 : decode cL_law 678 = .ok (.iconst 1, 1) := dz_4 (n := 672) (r := 6) hz_L_law_672 rfl
theorem dL_law_679 : decode cL_law 679 = .ok (.iadd, 1) := dz_96 (n := 672) (r := 7) hz_L_law_672 rfl
theorem dL_law_680 : decode cL_law 680 = .ok (.iaload, 1) := dz_46 (n := 672) (r := 8) hz_L_law_672 rfl
theorem dL_law_681 : decode cL_law 681 = .ok (.aload_n 0, 1) := dz_42 (n := 672) (r := 9) hz_L_law_672 rfl
theorem dL_law_682 : decode cL_law 682 = .ok (.iload_n 3, 1) := dz_29 (n := 672) (r := 10) hz_L_law_672 rfl
theorem dL_law_683 : decode cL_law 683 = .ok (.iconst 2, 1) := dz_5 (n := 672) (r := 11) hz_L_law_672 rfl
theorem dL_law_684 : decode cL_law 684 = .ok (.iadd, 1) := dz_96 (n := 672) (r := 12) hz_L_law_672 rfl
theorem dL_law_685 : decode cL_law 685 = .ok (.iaload, 1) := dz_46 (n := 672) (r := 13) hz_L_law_672 rfl
theorem dL_law_686 : decode cL_law 686 = .ok (.aload_n 0, 1) := dz_42 (n := 672) (r := 14) hz_L_law_672 rfl
theorem dL_law_687 : decode cL_law 687 = .ok (.iload_n 3, 1) := dz_29 (n := 672) (r := 15) hz_L_law_672 rfl
theorem dL_law_688 : decode cL_law 688 = .ok (.iconst 3, 1) := dz_6 (n := 672) (r := 16) hz_L_law_672 rfl
theorem dL_law_689 : decode cL_law 689 = .ok (.iadd, 1) := dz_96 (n := 672) (r := 17) hz_L_law_672 rfl
theorem dL_law_690 : decode cL_law 690 = .ok (.iaload, 1) := dz_46 (n := 672) (r := 18) hz_L_law_672 rfl
theorem dL_law_691 : decode cL_law 691 = .ok (.aload_n 0, 1) := dz_42 (n := 672) (r := 19) hz_L_law_672 rfl
theorem dL_law_692 : decode cL_law 692 = .ok (.iload_n 3, 1) := dz_29 (n := 672) (r := 20) hz_L_law_672 rfl
theorem dL_law_693 : decode cL_law 693 = .ok (.iconst 4, 1) := dz_7 (n := 672) (r := 21) hz_L_law_672 rfl
theorem dL_law_694 : decode cL_law 694 = .ok (.iadd, 1) := dz_96 (n := 672) (r := 22) hz_L_law_672 rfl
theorem dL_law_695 : decode cL_law 695 = .ok (.iaload, 1) := dz_46 (n := 672) (r := 23) hz_L_law_672 rfl
theorem dL_law_696 : decode cL_law 696 = .ok (.invokevirtual 89, 3) := dz_182 (n := 672) (r := 24) hz_L_law_672 rfl rfl
theorem dL_law_699 : decode cL_law 699 = .ok (.pop, 1) := dz_87 (n := 672) (r := 27) hz_L_law_672 rfl
theorem dL_law_700 : decode cL_law 700 = .ok (.goto 589, 3) := dz_167 (n := 672) (r := 28) hz_L_law_672 rfl (by decide +kernel)
theorem dL_law_703 : decode cL_law 703 = .ok (.aload_n 1, 1) := dz_43 (n := 672) (r := 31) hz_L_law_672 rfl
theorem hz_L_law_704 : (cL_law.data.toList.drop 704).take 40 = [42, 29, 4, 96, 46, 42, 29, 5, 96, 46, 182, 0, 90, 87, 44, 42, 29, 4, 96, 46, 42, 29, 5, 96, 46, 182, 0, 93, 87, 167, 2, 44, 43, 42, 29, 4, 96, 46, 182, 0] := by decide +kernel
theorem dL_law_704 : decode cL_law 704 = .ok (.aload_n 0, 1) := dz_42 (n := 704) (r := 0) hz_L_law_704 rfl
theorem dL_law_705 : decode cL_law 705 = .ok (.iload_n 3, 1) := dz_29 (n := 704) (r := 1) hz_L_law_704 rfl
theorem dL_law_706 : decode cL_law 706 = .ok (.iconst 1, 1) := dz_4 (n := 704) (r := 2) hz_L_law_704 rfl
theorem dL_law_707 : decode cL_law 707 = .ok (.iadd, 1) := dz_96 (n := 704) (r := 3) hz_L_law_704 rfl
theorem dL_law_708 : decode cL_law 708 = .ok (.iaload, 1) := dz_46 (n := 704) (r := 4) hz_L_law_704 rfl
theorem dL_law_709 : decode cL_law 709 = .ok (.aload_n 0, 1) := dz_42 (n := 704) (r := 5) hz_L_law_704 rfl
theorem dL_law_710 : decode cL_law 710 = .ok (.iload_n 3, 1) := dz_29 (n := 704) (r := 6) hz_L_law_704 rfl
theorem dL_law_711 : decode cL_law 711 = .ok (.iconst 2, 1) := dz_5 (n := 704) (r := 7) hz_L_law_704 rfl
theorem dL_law_712 : decode cL_law 712 = .ok (.iadd, 1) := dz_96 (n := 704) (r := 8) hz_L_law_704 rfl
theorem dL_law_713 : decode cL_law 713 = .ok (.iaload, 1) := dz_46 (n := 704) (r := 9) hz_L_law_704 rfl
theorem dL_law_714 : decode cL_law 714 = .ok (.invokevirtual 90, 3) := dz_182 (n := 704) (r := 10) hz_L_law_704 rfl rfl
theorem dL_law_717 : decode cL_law 717 = .ok (.pop, 1) := dz_87 (n := 704) (r := 13) hz_L_law_704 rfl
theorem dL_law_718 : decode cL_law 718 = .ok (.aload_n 2, 1) := dz_44 (n := 704) (r := 14) hz_L_law_704 rfl
theorem dL_law_719 : decode cL_law 719 = .ok (.aload_n 0, 1) := dz_42 (n := 704) (r := 15) hz_L_law_704 rfl
theorem dL_law_720 : decode cL_law 720 = .ok (.iload_n 3, 1) := dz_29 (n := 704) (r := 16) hz_L_law_704 rfl
theorem dL_law_721 : decode cL_law 721 = .ok (.iconst 1, 1) := dz_4 (n := 704) (r := 17) hz_L_law_704 rfl
theorem dL_law_722 : decode cL_law 722 = .ok (.iadd, 1) := dz_96 (n := 704) (r := 18) hz_L_law_704 rfl
theorem dL_law_723 : decode cL_law 723 = .ok (.iaload, 1) := dz_46 (n := 704) (r := 19) hz_L_law_704 rfl
theorem dL_law_724 : decode cL_law 724 = .ok (.aload_n 0, 1) := dz_42 (n := 704) (r := 20) hz_L_law_704 rfl
theorem dL_law_725 : decode cL_law 725 = .ok (.iload_n 3, 1) := dz_29 (n := 704) (r := 21) hz_L_law_704 rfl
theorem dL_law_726 : decode cL_law 726 = .ok (.iconst 2, 1) := dz_5 (n := 704) (r := 22) hz_L_law_704 rfl
theorem dL_law_727 : decode cL_law 727 = .ok (.iadd, 1) := dz_96 (n := 704) (r := 23) hz_L_law_704 rfl
theorem dL_law_728 : decode cL_law 728 = .ok (.iaload, 1) := dz_46 (n := 704) (r := 24) hz_L_law_704 rfl
theorem dL_law_729 : decode cL_law 729 = .ok (.invokevirtual 93, 3) := dz_182 (n := 704) (r := 25) hz_L_law_704 rfl rfl
theorem dL_law_732 : decode cL_law 732 = .ok (.pop, 1) := dz_87 (n := 704) (r := 28) hz_L_law_704 rfl
theorem dL_law_733 : decode cL_law 733 = .ok (.goto 556, 3) := dz_167 (n := 704) (r := 29) hz_L_law_704 rfl (by decide +kernel)
theorem hz_L_law_736 : (cL_law.data.toList.drop 736).take 40 = [43, 42, 29, 4, 96, 46, 182, 0, 94, 87, 44, 42, 29, 4, 96, 46, 182, 0, 97, 87, 167, 2, 21, 43, 42, 29, 4, 96, 46, 42, 29, 5, 96, 46, 42, 29, 6, 96, 46, 182] := by decide +kernel
theorem dL_law_736 : decode cL_law 736 = .ok (.aload_n 1, 1) := dz_43 (n := 736) (r := 0) hz_L_law_736 rfl
theorem dL_law_737 : decode cL_law 737 = .ok (.aload_n 0, 1) := dz_42 (n := 736) (r := 1) hz_L_law_736 rfl
theorem dL_law_738 : decode cL_law 738 = .ok (.iload_n 3, 1) := dz_29 (n := 736) (r := 2) hz_L_law_736 rfl
theorem dL_law_739 : decode cL_law 739 = .ok (.iconst 1, 1) := dz_4 (n := 736) (r := 3) hz_L_law_736 rfl
theorem dL_law_740 : decode cL_law 740 = .ok (.iadd, 1) := dz_96 (n := 736) (r := 4) hz_L_law_736 rfl
theorem dL_law_741 : decode cL_law 741 = .ok (.iaload, 1) := dz_46 (n := 736) (r := 5) hz_L_law_736 rfl
theorem dL_law_742 : decode cL_law 742 = .ok (.invokevirtual 94, 3) := dz_182 (n := 736) (r := 6) hz_L_law_736 rfl rfl
theorem dL_law_745 : decode cL_law 745 = .ok (.pop, 1) := dz_87 (n := 736) (r := 9) hz_L_law_736 rfl
theorem dL_law_746 : decode cL_law 746 = .ok (.aload_n 2, 1) := dz_44 (n := 736) (r := 10) hz_L_law_736 rfl
theorem dL_law_747 : decode cL_law 747 = .ok (.aload_n 0, 1) := dz_42 (n := 736) (r := 11) hz_L_law_736 rfl
theorem dL_law_748 : decode cL_law 748 = .ok (.iload_n 3, 1) := dz_29 (n := 736) (r := 12) hz_L_law_736 rfl
theorem dL_law_749 : decode cL_law 749 = .ok (.iconst 1, 1) := dz_4 (n := 736) (r := 13) hz_L_law_736 rfl
theorem dL_law_750 : decode cL_law 750 = .ok (.iadd, 1) := dz_96 (n := 736) (r := 14) hz_L_law_736 rfl
theorem dL_law_751 : decode cL_law 751 = .ok (.iaload, 1) := dz_46 (n := 736) (r := 15) hz_L_law_736 rfl
theorem dL_law_752 : decode cL_law 752 = .ok (.invokevirtual 97, 3) := dz_182 (n := 736) (r := 16) hz_L_law_736 rfl rfl
theorem dL_law_755 : decode cL_law 755 = .ok (.pop, 1) := dz_87 (n := 736) (r := 19) hz_L_law_736 rfl
theorem dL_law_756 : decode cL_law 756 = .ok (.goto 533, 3) := dz_167 (n := 736) (r := 20) hz_L_law_736 rfl (by decide +kernel)
theorem dL_law_759 : decode cL_law 759 = .ok (.aload_n 1, 1) := dz_43 (n := 736) (r := 23) hz_L_law_736 rfl
theorem dL_law_760 : decode cL_law 760 = .ok (.aload_n 0, 1) := dz_42 (n := 736) (r := 24) hz_L_law_736 rfl
theorem dL_law_761 : decode cL_law 761 = .ok (.iload_n 3, 1) := dz_29 (n := 736) (r := 25) hz_L_law_736 rfl
theorem dL_law_762 : decode cL_law 762 = .ok (.iconst 1, 1) := dz_4 (n := 736) (r := 26) hz_L_law_736 rfl
theorem dL_law_763 : decode cL_law 763 = .ok (.iadd, 1) := dz_96 (n := 736) (r := 27) hz_L_law_736 rfl
theorem dL_law_764 : decode cL_law 764 = .ok (.iaload, 1) := dz_46 (n := 736) (r := 28) hz_L_law_736 rfl
theorem dL_law_765 : decode cL_law 765 = .ok (.aload_n 0, 1) := dz_42 (n := 736) (r := 29) hz_L_law_736 rfl
theorem dL_law_766 : decode cL_law 766 = .ok (.iload_n 3, 1) := dz_29 (n := 736) (r := 30) hz_L_law_736 rfl
theorem dL_law_767 : decode cL_law 767 = .ok (.iconst 2, 1) := dz_5 (n := 736) (r := 31) hz_L_law_736 rfl
theorem hz_L_law_768 : (cL_law.data.toList.drop 768).take 40 = [96, 46, 42, 29, 6, 96, 46, 182, 0, 98, 88, 44, 42, 29, 4, 96, 46, 42, 29, 5, 96, 46, 42, 29, 6, 96, 46, 182, 0, 102, 88, 167, 1, 234, 43, 42, 29, 4, 96, 46] := by decide +kernel
theorem dL_law_768 : decode cL_law 768 = .ok (.iadd, 1) := dz_96 (n := 768) (r := 0) hz_L_law_768 rfl
theorem dL_law_769 : decode cL_law 769 = .ok (.iaload, 1) := dz_46 (n := 768) (r := 1) hz_L_law_768 rfl
theorem dL_law_770 : decode cL_law 770 = .ok (.aload_n 0, 1) := dz_42 (n := 768) (r := 2) hz_L_law_768 rfl
theorem dL_law_771 : decode cL_law 771 = .ok (.iload_n 3, 1) := dz_29 (n := 768) (r := 3) hz_L_law_768 rfl
theorem dL_law_772 : decode cL_law 772 = .ok (.iconst 3, 1) := dz_6 (n := 768) (r := 4) hz_L_law_768 rfl
theorem dL_law_773 : decode cL_law 773 = .ok (.iadd, 1) := dz_96 (n := 768) (r := 5) hz_L_law_768 rfl
theorem dL_law_774 : decode cL_law 774 = .ok (.iaload, 1) := dz_46 (n := 768) (r := 6) hz_L_law_768 rfl
theorem dL_law_775 : decode cL_law 775 = .ok (.invokevirtual 98, 3) := dz_182 (n := 768) (r := 7) hz_L_law_768 rfl rfl
theorem dL_law_778 : decode cL_law 778 = .ok (.pop2, 1) := dz_88 (n := 768) (r := 10) hz_L_law_768 rfl
theorem dL_law_779 : decode cL_law 779 = .ok (.aload_n 2, 1) := dz_44 (n := 768) (r := 11) hz_L_law_768 rfl
theorem dL_law_780 : decode cL_law 780 = .ok (.aload_n 0, 1) := dz_42 (n := 768) (r := 12) hz_L_law_768 rfl
theorem dL_law_781 : decode cL_law 781 = .ok (.iload_n 3, 1) := dz_29 (n := 768) (r := 13) hz_L_law_768 rfl
theorem dL_law_782 : decode cL_law 782 = .ok (.iconst 1, 1) := dz_4 (n := 768) (r := 14) hz_L_law_768 rfl
theorem dL_law_783 : decode cL_law 783 = .ok (.iadd, 1) := dz_96 (n := 768) (r := 15) hz_L_law_768 rfl
theorem dL_law_784 : decode cL_law 784 = .ok (.iaload, 1) := dz_46 (n := 768) (r := 16) hz_L_law_768 rfl
theorem dL_law_785 : decode cL_law 785 = .ok (.aload_n 0, 1) := dz_42 (n := 768) (r := 17) hz_L_law_768 rfl
theorem dL_law_786 : decode cL_law 786 = .ok (.iload_n 3, 1) := dz_29 (n := 768) (r := 18) hz_L_law_768 rfl
theorem dL_law_787 : decode cL_law 787 = .ok (.iconst 2, 1) := dz_5 (n := 768) (r := 19) hz_L_law_768 rfl
theorem dL_law_788 : decode cL_law 788 = .ok (.iadd, 1) := dz_96 (n := 768) (r := 20) hz_L_law_768 rfl
theorem dL_law_789 : decode cL_law 789 = .ok (.iaload, 1) := dz_46 (n := 768) (r := 21) hz_L_law_768 rfl
theorem dL_law_790 : decode cL_law 790 = .ok (.aload_n 0, 1) := dz_42 (n := 768) (r := 22) hz_L_law_768 rfl
theorem dL_law_791 : decode cL_law 791 = .ok (.iload_n 3, 1) := dz_29 (n := 768) (r := 23) hz_L_law_768 rfl
theorem dL_law_792 : decode cL_law 792 = .ok (.iconst 3, 1) := dz_6 (n := 768) (r := 24) hz_L_law_768 rfl
theorem dL_law_793 : decode cL_law 793 = .ok (.iadd, 1) := dz_96 (n := 768) (r := 25) hz_L_law_768 rfl
theorem dL_law_794 : decode cL_law 794 = .ok (.iaload, 1) := dz_46 (n := 768) (r := 26) hz_L_law_768 rfl
theorem dL_law_795 : decode cL_law 795 = .ok (.invokevirtual 102, 3) := dz_182 (n := 768) (r := 27) hz_L_law_768 rfl rfl
theorem dL_law_798 : decode cL_law 798 = .ok (.pop2, 1) := dz_88 (n := 768) (r := 30) hz_L_law_768 rfl
theorem dL_law_799 : decode cL_law 799 = .ok (.goto 490, 3) := dz_167 (n := 768) (r := 31) hz_L_law_768 rfl (by decide +kernel)
theorem hz_L_law_800 : (cL_law.data.toList.drop 800).take 40 = [1, 234, 43, 42, 29, 4, 96, 46, 42, 29, 5, 96, 46, 182, 0, 103, 87, 44, 42, 29, 4, 96, 46, 42, 29, 5, 96, 46, 182, 0, 106, 87, 167, 1, 201, 43, 42, 29, 4, 96] := by decide +kernel
theorem dL_law_802 : decode cL_law 802 = .ok (.aload_n 1, 1) := dz_43 (n := 800) (r := 2) hz_L_law_800 rfl
theorem dL_law_803 : decode cL_law 803 = .ok (.aload_n 0, 1) := dz_42 (n := 800) (r := 3) hz_L_law_800 rfl
theorem dL_law_804 : decode cL_law 804 = .ok (.iload_n 3, 1) := dz_29 (n := 800) (r := 4) hz_L_law_800 rfl
theorem dL_law_805 : decode cL_law 805 = .ok (.iconst 1, 1) := dz_4 (n := 800) (r := 5) hz_L_law_800 rfl
theorem dL_law_806 : decode cL_law 806 = .ok (.iadd, 1) := dz_96 (n := 800) (r := 6) hz_L_law_800 rfl
theorem dL_law_807 : decode cL_law 807 = .ok (.iaload, 1) := dz_46 (n := 800) (r := 7) hz_L_law_800 rfl
theorem dL_law_808 : decode cL_law 808 = .ok (.aload_n 0, 1) := dz_42 (n := 800) (r := 8) hz_L_law_800 rfl
theorem dL_law_809 : decode cL_law 809 = .ok (.iload_n 3, 1) := dz_29 (n := 800) (r := 9) hz_L_law_800 rfl
theorem dL_law_810 : decode cL_law 810 = .ok (.iconst 2, 1) := dz_5 (n := 800) (r := 10) hz_L_law_800 rfl
theorem dL_law_811 : decode cL_law 811 = .ok (.iadd, 1) := dz_96 (n := 800) (r := 11) hz_L_law_800 rfl
theorem dL_law_812 : decode cL_law 812 = .ok (.iaload, 1) := dz_46 (n := 800) (r := 12) hz_L_law_800 rfl
theorem dL_law_813 : decode cL_law 813 = .ok (.invokevirtual 103, 3) := dz_182 (n := 800) (r := 13) hz_L_law_800 rfl rfl
theorem dL_law_816 : decode cL_law 816 = .ok (.pop, 1) := dz_87 (n := 800) (r := 16) hz_L_law_800 rfl
theorem dL_law_817 : decode cL_law 817 = .ok (.aload_n 2, 1) := dz_44 (n := 800) (r := 17) hz_L_law_800 rfl
theorem dL_law_818 : decode cL_law 818 = .ok (.aload_n 0, 1) := dz_42 (n := 800) (r := 18) hz_L_law_800 rfl
theorem dL_law_819 : decode cL_law 819 = .ok (.iload_n 3, 1) := dz_29 (n := 800) (r := 19) hz_L_law_800 rfl
theorem dL_law_820 : decode cL_law 820 = .ok (.iconst 1, 1) := dz_4 (n := 800) (r := 20) hz_L_law_800 rfl
theorem dL_law_821 : decode cL_law 821 = .ok (.iadd, 1) := dz_96 (n := 800) (r := 21) hz_L_law_800 rfl
theorem dL_law_822 : decode cL_law 822 = .ok (.iaload, 1) := dz_46 (n := 800) (r := 22) hz_L_law_800 rfl
theorem dL_law_823 : decode cL_law 823 = .ok (.aload_n 0, 1) := dz_42 (n := 800) (r := 23) hz_L_law_800 rfl
theorem dL_law_824 : decode cL_law 824 = .ok (.iload_n 3, 1) := dz_29 (n := 800) (r := 24) hz_L_law_800 rfl
theorem dL_law_825 : decode cL_law 825 = .ok (.iconst 2, 1) := dz_5 (n := 800) (r := 25) hz_L_law_800 rfl
theorem dL_law_826 : decode cL_law 826 = .ok (.iadd, 1) := dz_96 (n := 800) (r := 26) hz_L_law_800 rfl
theorem dL_law_827 : decode cL_law 827 = .ok (.iaload, 1) := dz_46 (n := 800) (r := 27) hz_L_law_800 rfl
theorem dL_law_828 : decode cL_law 828 = .ok (.invokevirtual 106, 3) := dz_182 (n := 800) (r := 28) hz_L_law_800 rfl rfl
theorem dL_law_831 : decode cL_law 831 = .ok (.pop, 1) := dz_87 (n := 800) (r := 31) hz_L_law_800 rfl
theorem hz_L_law_832 : (cL_law.data.toList.drop 832).take 40 = [167, 1, 201, 43, 42, 29, 4, 96, 46, 153, 0, 7, 4, 167, 0, 4, 3, 182, 0, 107, 87, 44, 42, 29, 4, 96, 46, 153, 0, 7, 4, 167, 0, 4, 3, 182, 0, 111, 87, 167] := by decide +kernel
theorem dL_law_832 : decode cL_law 832 = .ok (.goto 457, 3) := dz_167 (n := 832) (r := 0) hz_L_law_832 rfl (by decide +kernel)
theorem dL_law_835 : decode cL_law 835 = .ok (.aload_n 1, 1) := dz_43 (n := 832) (r := 3) hz_L_law_832 rfl
theorem dL_law_836 : decode cL_law 836 = .ok (.aload_n 0, 1) := dz_42 (n := 832) (r := 4) hz_L_law_832 rfl
theorem dL_law_837 : decode cL_law 837 = .ok (.iload_n 3, 1) := dz_29 (n := 832) (r := 5) hz_L_law_832 rfl
theorem dL_law_838 : decode cL_law 838 = .ok (.iconst 1, 1) := dz_4 (n := 832) (r := 6) hz_L_law_832 rfl
theorem dL_law_839 : decode cL_law 839 = .ok (.iadd, 1) := dz_96 (n := 832) (r := 7) hz_L_law_832 rfl
theorem dL_law_840 : decode cL_law 840 = .ok (.iaload, 1) := dz_46 (n := 832) (r := 8) hz_L_law_832 rfl
theorem dL_law_841 : decode cL_law 841 = .ok (.ifCond .eq 7, 3) := dz_153 (n := 832) (r := 9) hz_L_law_832 rfl (by decide +kernel)
theorem dL_law_844 : decode cL_law 844 = .ok (.iconst 1, 1) := dz_4 (n := 832) (r := 12) hz_L_law_832 rfl
theorem dL_law_845 : decode cL_law 845 = .ok (.goto 4, 3) := dz_167 (n := 832) (r := 13) hz_L_law_832 rfl (by decide +kernel)
theorem dL_law_848 : decode cL_law 848 = .ok (.iconst 0, 1) := dz_3 (n := 832) (r := 16) hz_L_law_832 rfl
theorem dL_law_849 : decode cL_law 849 = .ok (.invokevirtual 107, 3) := dz_182 (n := 832) (r := 17) hz_L_law_832 rfl rfl
theorem dL_law_852 : decode cL_law 852 = .ok (.pop, 1) := dz_87 (n := 832) (r := 20) hz_L_law_832 rfl
theorem dL_law_853 : decode cL_law 853 = .ok (.aload_n 2, 1) := dz_44 (n := 832) (r := 21) hz_L_law_832 rfl
theorem dL_law_854 : decode cL_law 854 = .ok (.aload_n 0, 1) := dz_42 (n := 832) (r := 22) hz_L_law_832 rfl
theorem dL_law_855 : decode cL_law 855 = .ok (.iload_n 3, 1) := dz_29 (n := 832) (r := 23) hz_L_law_832 rfl
theorem dL_law_856 : decode cL_law 856 = .ok (.iconst 1, 1) := dz_4 (n := 832) (r := 24) hz_L_law_832 rfl
theorem dL_law_857 : decode cL_law 857 = .ok (.iadd, 1) := dz_96 (n := 832) (r := 25) hz_L_law_832 rfl
theorem dL_law_858 : decode cL_law 858 = .ok (.iaload, 1) := dz_46 (n := 832) (r := 26) hz_L_law_832 rfl
theorem dL_law_859 : decode cL_law 859 = .ok (.ifCond .eq 7, 3) := dz_153 (n := 832) (r := 27) hz_L_law_832 rfl (by decide +kernel)
theorem dL_law_862 : decode cL_law 862 = .ok (.iconst 1, 1) := dz_4 (n := 832) (r := 30) hz_L_law_832 rfl
theorem dL_law_863 : decode cL_law 863 = .ok (.goto 4, 3) := dz_167 (n := 832) (r := 31) hz_L_law_832 rfl (by decide +kernel)
theorem hz_L_law_864 : (cL_law.data.toList.drop 864).take 40 = [0, 4, 3, 182, 0, 111, 87, 167, 1, 162, 43, 42, 29, 4, 96, 46, 42, 29, 5, 96, 46, 42, 29, 6, 96, 46, 182, 0, 112, 87, 44, 42, 29, 4, 96, 46, 42, 29, 5, 96] := by decide +kernel
theorem dL_law_866 : decode cL_law 866 = .ok (.iconst 0, 1) := dz_3 (n := 864) (r := 2) hz_L_law_864 rfl
theorem dL_law_867 : decode cL_law 867 = .ok (.invokevirtual 111, 3) := dz_182 (n := 864) (r := 3) hz_L_law_864 rfl rfl
theorem dL_law_870 : decode cL_law 870 = .ok (.pop, 1) := dz_87 (n := 864) (r := 6) hz_L_law_864 rfl
theorem dL_law_871 : decode cL_law 871 = .ok (.goto 418, 3) := dz_167 (n := 864) (r := 7) hz_L_law_864 rfl (by decide +kernel)
theorem dL_law_874 : decode cL_law 874 = .ok (.aload_n 1, 1) := dz_43 (n := 864) (r := 10) hz_L_law_864 rfl
theorem dL_law_875 : decode cL_law 875 = .ok (.aload_n 0, 1) := dz_42 (n := 864) (r := 11) hz_L_law_864 rfl
theorem dL_law_876 : decode cL_law 876 = .ok (.iload_n 3, 1) := dz_29 (n := 864) (r := 12) hz_L_law_864 rfl
theorem dL_law_877 : decode cL_law 877 = .ok (.iconst 1, 1) := dz_4 (n := 864) (r := 13) hz_L_law_864 rfl
theorem dL_law_878 : decode cL_law 878 = .ok (.iadd, 1) := dz_96 (n := 864) (r := 14) hz_L_law_864 rfl
theorem dL_law_879 : decode cL_law 879 = .ok (.iaload, 1) := dz_46 (n := 864) (r := 15) hz_L_law_864 rfl
theorem dL_law_880 : decode cL_law 880 = .ok (.aload_n 0, 1) := dz_42 (n := 864) (r := 16) hz_L_law_864 rfl
theorem dL_law_881 : decode cL_law 881 = .ok (.iload_n 3, 1) := dz_29 (n := 864) (r := 17) hz_L_law_864 rfl
theorem dL_law_882 : decode cL_law 882 = .ok (.iconst 2, 1) := dz_5 (n := 864) (r := 18) hz_L_law_864 rfl
theorem dL_law_883 : decode cL_law 883 = .ok (.iadd, 1) := dz_96 (n := 864) (r := 19) hz_L_law_864 rfl
theorem dL_law_884 : decode cL_law 884 = .ok (.iaload, 1) := dz_46 (n := 864) (r := 20) hz_L_law_864 rfl
theorem dL_law_885 : decode cL_law 885 = .ok (.aload_n 0, 1) := dz_42 (n := 864) (r := 21) hz_L_law_864 rfl
theorem dL_law_886 : decode cL_law 886 = .ok (.iload_n 3, 1) := dz_29 (n := 864) (r := 22) hz_L_law_864 rfl
theorem dL_law_887 : decode cL_law 887 = .ok (.iconst 3, 1) := dz_6 (n := 864) (r := 23) hz_L_law_864 rfl
theorem dL_law_888 : decode cL_law 888 = .ok (.iadd, 1) := dz_96 (n := 864) (r := 24) hz_L_law_864 rfl
theorem dL_law_889 : decode cL_law 889 = .ok (.iaload, 1) := dz_46 (n := 864) (r := 25) hz_L_law_864 rfl
theorem dL_law_890 : decode cL_law 890 = .ok (.invokevirtual 112, 3) := dz_182 (n := 864) (r := 26) hz_L_law_864 rfl rfl
theorem dL_law_893 : decode cL_law 893 = .ok (.pop, 1) := dz_87 (n := 864) (r := 29) hz_L_law_864 rfl
theorem dL_law_894 : decode cL_law 894 = .ok (.aload_n 2, 1) := dz_44 (n := 864) (r := 30) hz_L_law_864 rfl
theorem dL_law_895 : decode cL_law 895 = .ok (.aload_n 0, 1) := dz_42 (n := 864) (r := 31) hz_L_law_864 rfl
theorem hz_L_law_896 : (cL_law.data.toList.drop 896).take 40 = [29, 4, 96, 46, 42, 29, 5, 96, 46, 42, 29, 6, 96, 46, 182, 0, 116, 87, 167, 1, 119, 43, 42, 29, 4, 96, 46, 182, 0, 117, 87, 44, 42, 29, 4, 96, 46, 182, 0, 120] := by decide +kernel
theorem dL_law_896 : decode cL_law 896 = .ok (.iload_n 3, 1) := dz_29 (n := 896) (r := 0) hz_L_law_896 rfl
theorem dL_law_897 : decode cL_law 897 = .ok (.iconst 1, 1) := dz_4 (n := 896) (r := 1) hz_L_law_896 rfl
theorem dL_law_898 : decode cL_law 898 = .ok (.iadd, 1) := dz_96 (n := 896) (r := 2) hz_L_law_896 rfl
theorem dL_law_899 : decode cL_law 899 = .ok (.iaload, 1) := dz_46 (n := 896) (r := 3) hz_L_law_896 rfl
theorem dL_law_900 : decode cL_law 900 = .ok (.aload_n 0, 1) := dz_42 (n := 896) (r := 4) hz_L_law_896 rfl
theorem dL_law_901 : decode cL_law 901 = .ok (.iload_n 3, 1) := dz_29 (n := 896) (r := 5) hz_L_law_896 rfl
theorem dL_law_902 : decode cL_law 902 = .ok (.iconst 2, 1) := dz_5 (n := 896) (r := 6) hz_L_law_896 rfl
theorem dL_law_903 : decode cL_law 903 = .ok (.iadd, 1) := dz_96 (n := 896) (r := 7) hz_L_law_896 rfl
theorem dL_law_904 : decode cL_law 904 = .ok (.iaload, 1) := dz_46 (n := 896) (r := 8) hz_L_law_896 rfl
theorem dL_law_905 : decode cL_law 905 = .ok (.aload_n 0, 1) := dz_42 (n := 896) (r := 9) hz_L_law_896 rfl
theorem dL_law_906 : decode cL_law 906 = .ok (.iload_n 3, 1) := dz_29 (n := 896) (r := 10) hz_L_law_896 rfl
theorem dL_law_907 : decode cL_law 907 = .ok (.iconst 3, 1) := dz_6 (n := 896) (r := 11) hz_L_law_896 rfl
theorem dL_law_908 : decode cL_law 908 = .ok (.iadd, 1) := dz_96 (n := 896) (r := 12) hz_L_law_896 rfl
theorem dL_law_909 : decode cL_law 909 = .ok (.iaload, 1) := dz_46 (n := 896) (r := 13) hz_L_law_896 rfl
theorem dL_law_910 : decode cL_law 910 = .ok (.invokevirtual 116, 3) := dz_182 (n := 896) (r := 14) hz_L_law_896 rfl rfl
theorem dL_law_913 : decode cL_law 913 = .ok (.pop, 1) := dz_87 (n := 896) (r := 17) hz_L_law_896 rfl
theorem dL_law_914 : decode cL_law 914 = .ok (.goto 375, 3) := dz_167 (n := 896) (r := 18) hz_L_law_896 rfl (by decide +kernel)
theorem dL_law_917 : decode cL_law 917 = .ok (.aload_n 1, 1) := dz_43 (n := 896) (r := 21) hz_L_law_896 rfl
theorem dL_law_918 : decode cL_law 918 = .ok (.aload_n 0, 1) := dz_42 (n := 896) (r := 22) hz_L_law_896 rfl
theorem dL_law_919 : decode cL_law 919 = .ok (.iload_n 3, 1) := dz_29 (n := 896) (r := 23) hz_L_law_896 rfl
theorem dL_law_920 : decode cL_law 920 = .ok (.iconst 1, 1) := dz_4 (n := 896) (r := 24) hz_L_law_896 rfl
theorem dL_law_921 : decode cL_law 921 = .ok (.iadd, 1) := dz_96 (n := 896) (r := 25) hz_L_law_896 rfl
theorem dL_law_922 : decode cL_law 922 = .ok (.iaload, 1) := dz_46 (n := 896) (r := 26) hz_L_law_896 rfl
theorem dL_law_923 : decode cL_law 923 = .ok (.invokevirtual 117, 3) := dz_182 (n := 896) (r := 27) hz_L_law_896 rfl rfl
theorem dL_law_926 : decode cL_law 926 = .ok (.pop, 1) := dz_87 (n := 896) (r := 30) hz_L_law_896 rfl
theorem dL_law_927 : decode cL_law 927 = .ok (.aload_n 2, 1) := dz_44 (n := 896) (r := 31) hz_L_law_896 rfl
theorem hz_L_law_928 : (cL_law.data.toList.drop 928).take 40 = [42, 29, 4, 96, 46, 182, 0, 120, 87, 167, 1, 96, 43, 42, 29, 4, 96, 46, 182, 0, 121, 87, 44, 42, 29, 4, 96, 46, 182, 0, 124, 87, 167, 1, 73, 43, 42, 29, 4, 96] := by decide +kernel
theorem dL_law_928 : decode cL_law 928 = .ok (.aload_n 0, 1) := dz_42 (n := 928) (r := 0) hz_L_law_928 rfl
theorem dL_law_929 : decode cL_law 929 = .ok (.iload_n 3, 1) := dz_29 (n := 928) (r := 1) hz_L_law_928 rfl
theorem dL_law_930 : decode cL_law 930 = .ok (.iconst 1, 1) := dz_4 (n := 928) (r := 2) hz_L_law_928 rfl
theorem dL_law_931 : decode cL_law 931 = .ok (.iadd, 1) := dz_96 (n := 928) (r := 3) hz_L_law_928 rfl
theorem dL_law_932 : decode cL_law 932 = .ok (.iaload, 1) := dz_46 (n := 928) (r := 4) hz_L_law_928 rfl
theorem dL_law_933 : decode cL_law 933 = .ok (.invokevirtual 120, 3) := dz_182 (n := 928) (r := 5) hz_L_law_928 rfl rfl
theorem dL_law_936 : decode cL_law 936 = .ok (.pop, 1) := dz_87 (n := 928) (r := 8) hz_L_law_928 rfl
theorem dL_law_937 : decode cL_law 937 = .ok (.goto 352, 3) := dz_167 (n := 928) (r := 9) hz_L_law_928 rfl (by decide +kernel)
theorem dL_law_940 : decode cL_law 940 = .ok (.aload_n 1, 1) := dz_43 (n := 928) (r := 12) hz_L_law_928 rfl
theorem dL_law_941 : decode cL_law 941 = .ok (.aload_n 0, 1) := dz_42 (n := 928) (r := 13) hz_L_law_928 rfl
theorem dL_law_942 : decode cL_law 942 = .ok (.iload_n 3, 1) := dz_29 (n := 928) (r := 14) hz_L_law_928 rfl
theorem dL_law_943 : decode cL_law 943 = .ok (.iconst 1, 1) := dz_4 (n := 928) (r := 15) hz_L_law_928 rfl
theorem dL_law_944 : decode cL_law 944 = .ok (.iadd, 1) := dz_96 (n := 928) (r := 16) hz_L_law_928 rfl
theorem dL_law_945 : decode cL_law 945 = .ok (.iaload, 1) := dz_46 (n := 928) (r := 17) hz_L_law_928 rfl
theorem dL_law_946 : decode cL_law 946 = .ok (.invokevirtual 121, 3) := dz_182 (n := 928) (r := 18) hz_L_law_928 rfl rfl
theorem dL_law_949 : decode cL_law 949 = .ok (.pop, 1) := dz_87 (n := 928) (r := 21) hz_L_law_928 rfl
theorem dL_law_950 : decode cL_law 950 = .ok (.aload_n 2, 1) := dz_44 (n := 928) (r := 22) hz_L_law_928 rfl
theorem dL_law_951 : decode cL_law 951 = .ok (.aload_n 0, 1) := dz_42 (n := 928) (r := 23) hz_L_law_928 rfl
theorem dL_law_952 : decode cL_law 952 = .ok (.iload_n 3, 1) := dz_29 (n := 928) (r := 24) hz_L_law_928 rfl
theorem dL_law_953 : decode cL_law 953 = .ok (.iconst 1, 1) := dz_4 (n := 928) (r := 25) hz_L_law_928 rfl
theorem dL_law_954 : decode cL_law 954 = .ok (.iadd, 1) := dz_96 (n := 928) (r := 26) hz_L_law_928 rfl
theorem dL_law_955 : decode cL_law 955 = .ok (.iaload, 1) := dz_46 (n := 928) (r := 27) hz_L_law_928 rfl
theorem dL_law_956 : decode cL_law 956 = .ok (.invokevirtual 124, 3) := dz_182 (n := 928) (r := 28) hz_L_law_928 rfl rfl
theorem dL_law_959 : decode cL_law 959 = .ok (.pop, 1) := dz_87 (n := 928) (r := 31) hz_L_law_928 rfl
theorem hz_L_law_960 : (cL_law.data.toList.drop 960).take 40 = [167, 1, 73, 43, 42, 29, 4, 96, 46, 182, 0, 125, 87, 44, 42, 29, 4, 96, 46, 182, 0, 128, 87, 167, 1, 50, 43, 42, 29, 4, 96, 46, 42, 29, 5, 96, 46, 182, 0, 129] := by decide +kernel
theorem dL_law_960 : decode cL_law 960 = .ok (.goto 329, 3) := dz_167 (n := 960) (r := 0) hz_L_law_960 rfl (by decide +kernel)
theorem dL_law_963 : decode cL_law 963 = .ok (.aload_n 1, 1) := dz_43 (n := 960) (r := 3) hz_L_law_960 rfl
theorem dL_law_964 : decode cL_law 964 = .ok (.aload_n 0, 1) := dz_42 (n := 960) (r := 4) hz_L_law_960 rfl
theorem dL_law_965 : decode cL_law 965 = .ok (.iload_n 3, 1) := dz_29 (n := 960) (r := 5) hz_L_law_960 rfl
theorem dL_law_966 : decode cL_law 966 = .ok (.iconst 1, 1) := dz_4 (n := 960) (r := 6) hz_L_law_960 rfl
theorem dL_law_967 : decode cL_law 967 = .ok (.iadd, 1) := dz_96 (n := 960) (r := 7) hz_L_law_960 rfl
theorem dL_law_968 : decode cL_law 968 = .ok (.iaload, 1) := dz_46 (n := 960) (r := 8) hz_L_law_960 rfl
theorem dL_law_969 : decode cL_law 969 = .ok (.invokevirtual 125, 3) := dz_182 (n := 960) (r := 9) hz_L_law_960 rfl rfl
theorem dL_law_972 : decode cL_law 972 = .ok (.pop, 1) := dz_87 (n := 960) (r := 12) hz_L_law_960 rfl
theorem dL_law_973 : decode cL_law 973 = .ok (.aload_n 2, 1) := dz_44 (n := 960) (r := 13) hz_L_law_960 rfl
theorem dL_law_974 : decode cL_law 974 = .ok (.aload_n 0, 1) := dz_42 (n := 960) (r := 14) hz_L_law_960 rfl
theorem dL_law_975 : decode cL_law 975 = .ok (.iload_n 3, 1) := dz_29 (n := 960) (r := 15) hz_L_law_960 rfl
theorem dL_law_976 : decode cL_law 976 = .ok (.iconst 1, 1) := dz_4 (n := 960) (r := 16) hz_L_law_960 rfl
theorem dL_law_977 : decode cL_law 977 = .ok (.iadd, 1) := dz_96 (n := 960) (r := 17) hz_L_law_960 rfl
theorem dL_law_978 : decode cL_law 978 = .ok (.iaload, 1) := dz_46 (n := 960) (r := 18) hz_L_law_960 rfl
theorem dL_law_979 : decode cL_law 979 = .ok (.invokevirtual 128, 3) := dz_182 (n := 960) (r := 19) hz_L_law_960 rfl rfl
theorem dL_law_982 : decode cL_law 982 = .ok (.pop, 1) := dz_87 (n := 960) (r := 22) hz_L_law_960 rfl
theorem dL_law_983 : decode cL_law 983 = .ok (.goto 306, 3) := dz_167 (n := 960) (r := 23) hz_L_law_960 rfl (by decide +kernel)
theorem dL_law_986 : decode cL_law 986 = .ok (.aload_n 1, 1) := dz_43 (n := 960) (r := 26) hz_L_law_960 rfl
theorem dL_law_987 : decode cL_law 987 = .ok (.aload_n 0, 1) := dz_42 (n := 960) (r := 27) hz_L_law_960 rfl
theorem dL_law_988 : decode cL_law 988 = .ok (.iload_n 3, 1) := dz_29 (n := 960) (r := 28) hz_L_law_960 rfl
theorem dL_law_989 : decode cL_law 989 = .ok (.iconst 1, 1) := dz_4 (n := 960) (r := 29) hz_L_law_960 rfl
theorem dL_law_990 : decode cL_law 990 = .ok (.iadd, 1) := dz_96 (n := 960) (r := 30) hz_L_law_960 rfl
theorem dL_law_991 : decode cL_law 991 = .ok (.iaload, 1) := dz_46 (n := 960) (r := 31) hz_L_law_960 rfl
theorem hz_L_law_992 : (cL_law.data.toList.drop 992).take 40 = [42, 29, 5, 96, 46, 182, 0, 129, 87, 44, 42, 29, 4, 96, 46, 42, 29, 5, 96, 46, 182, 0, 132, 87, 167, 1, 17, 43, 42, 29, 4, 96, 46, 182, 0, 133, 87, 44, 42, 29] := by decide +kernel
theorem dL_law_992 : decode cL_law 992 = .ok (.aload_n 0, 1) := dz_42 (n := 992) (r := 0) hz_L_law_992 rfl
theorem dL_law_993 : decode cL_law 993 = .ok (.iload_n 3, 1) := dz_29 (n := 992) (r := 1) hz_L_law_992 rfl
theorem dL_law_994 : decode cL_law 994 = .ok (.iconst 2, 1) := dz_5 (n := 992) (r := 2) hz_L_law_992 rfl
theorem dL_law_995 : decode cL_law 995 = .ok (.iadd, 1) := dz_96 (n := 992) (r := 3) hz_L_law_992 rfl
theorem dL_law_996 : decode cL_law 996 = .ok (.iaload, 1) := dz_46 (n := 992) (r := 4) hz_L_law_992 rfl
theorem dL_law_997 : decode cL_law 997 = .ok (.invokevirtual 129, 3) := dz_182 (n := 992) (r := 5) hz_L_law_992 rfl rfl
theorem dL_law_1000 : decode cL_law 1000 = .ok (.pop, 1) := dz_87 (n := 992) (r := 8) hz_L_law_992 rfl
theorem dL_law_1001 : decode cL_law 1001 = .ok (.aload_n 2, 1) := dz_44 (n := 992) (r := 9) hz_L_law_992 rfl
theorem dL_law_1002 : decode cL_law 1002 = .ok (.aload_n 0, 1) := dz_42 (n := 992) (r := 10) hz_L_law_992 rfl
theorem dL_law_1003 : decode cL_law 1003 = .ok (.iload_n 3, 1) := dz_29 (n := 992) (r := 11) hz_L_law_992 rfl
theorem dL_law_1004 : decode cL_law 1004 = .ok (.iconst 1, 1) := dz_4 (n := 992) (r := 12) hz_L_law_992 rfl
theorem dL_law_1005 : decode cL_law 1005 = .ok (.iadd, 1) := dz_96 (n := 992) (r := 13) hz_L_law_992 rfl
theorem dL_law_1006 : decode cL_law 1006 = .ok (.iaload, 1) := dz_46 (n := 992) (r := 14) hz_L_law_992 rfl
theorem dL_law_1007 : decode cL_law 1007 = .ok (.aload_n 0, 1) := dz_42 (n := 992) (r := 15) hz_L_law_992 rfl
theorem dL_law_1008 : decode cL_law 1008 = .ok (.iload_n 3, 1) := dz_29 (n := 992) (r := 16) hz_L_law_992 rfl
theorem dL_law_1009 : decode cL_law 1009 = .ok (.iconst 2, 1) := dz_5 (n := 992) (r := 17) hz_L_law_992 rfl
theorem dL_law_1010 : decode cL_law 1010 = .ok (.iadd, 1) := dz_96 (n := 992) (r := 18) hz_L_law_992 rfl
theorem dL_law_1011 : decode cL_law 1011 = .ok (.iaload, 1) := dz_46 (n := 992) (r := 19) hz_L_law_992 rfl
theorem dL_law_1012 : decode cL_law 1012 = .ok (.invokevirtual 132, 3) := dz_182 (n := 992) (r := 20) hz_L_law_992 rfl rfl
theorem dL_law_1015 : decode cL_law 1015 = .ok (.pop, 1) := dz_87 (n := 992) (r := 23) hz_L_law_992 rfl
theorem dL_law_1016 : decode cL_law 1016 = .ok (.goto 273, 3) := dz_167 (n := 992) (r := 24) hz_L_law_992 rfl (by decide +kernel)
theorem dL_law_1019 : decode cL_law 1019 = .ok (.aload_n 1, 1) := dz_43 (n := 992) (r := 27) hz_L_law_992 rfl
theorem dL_law_1020 : decode cL_law 1020 = .ok (.aload_n 0, 1) := dz_42 (n := 992) (r := 28) hz_L_law_992 rfl
theorem dL_law_1021 : decode cL_law 1021 = .ok (.iload_n 3, 1) := dz_29 (n := 992) (r := 29) hz_L_law_992 rfl
theorem dL_law_1022 : decode cL_law 1022 = .ok (.iconst 1, 1) := dz_4 (n := 992) (r := 30) hz_L_law_992 rfl
theorem dL_law_1023 : decode cL_law 1023 = .ok (.iadd, 1) := dz_96 (n := 992) (r := 31) hz_L_law_992 rfl
theorem hz_L_law_1024 : (cL_law.data.toList.drop 1024).take 40 = [46, 182, 0, 133, 87, 44, 42, 29, 4, 96, 46, 182, 0, 136, 87, 167, 0, 250, 43, 42, 29, 4, 96, 46, 42, 29, 5, 96, 46, 182, 0, 137, 87, 44, 42, 29, 4, 96, 46, 42] := by decide +kernel
theorem dL_law_1024 : decode cL_law 1024 = .ok (.iaload, 1) := dz_46 (n := 1024) (r := 0) hz_L_law_1024 rfl
theorem dL_law_1025 : decode cL_law 1025 = .ok (.invokevirtual 133, 3) := dz_182 (n := 1024) (r := 1) hz_L_law_1024 rfl rfl
theorem dL_law_1028 : decode cL_law 1028 = .ok (.pop, 1) := dz_87 (n := 1024) (r := 4) hz_L_law_1024 rfl
theorem dL_law_1029 : decode cL_law 1029 = .ok (.aload_n 2, 1) := dz_44 (n := 1024) (r := 5) hz_L_law_1024 rfl
theorem dL_law_1030 : decode cL_law 1030 = .ok (.aload_n 0, 1) := dz_42 (n := 1024) (r := 6) hz_L_law_1024 rfl
theorem dL_law_1031 : decode cL_law 1031 = .ok (.iload_n 3, 1) := dz_29 (n := 1024) (r := 7) hz_L_law_1024 rfl
theorem dL_law_1032 : decode cL_law 1032 = .ok (.iconst 1, 1) := dz_4 (n := 1024) (r := 8) hz_L_law_1024 rfl
theorem dL_law_1033 : decode cL_law 1033 = .ok (.iadd, 1) := dz_96 (n := 1024) (r := 9) hz_L_law_1024 rfl
theorem dL_law_1034 : decode cL_law 1034 = .ok (.iaload, 1) := dz_46 (n := 1024) (r := 10) hz_L_law_1024 rfl
theorem dL_law_1035 : decode cL_law 1035 = .ok (.invokevirtual 136, 3) := dz_182 (n := 1024) (r := 11) hz_L_law_1024 rfl rfl
theorem dL_law_1038 : decode cL_law 1038 = .ok (.pop, 1) := dz_87 (n := 1024) (r := 14) hz_L_law_1024 rfl
theorem dL_law_1039 : decode cL_law 1039 = .ok (.goto 250, 3) := dz_167 (n := 1024) (r := 15) hz_L_law_1024 rfl (by decide +kernel)
theorem dL_law_1042 : decode cL_law 1042 = .ok (.aload_n 1, 1) := dz_43 (n := 1024) (r := 18) hz_L_law_1024 rfl
theorem dL_law_1043 : decode cL_law 1043 = .ok (.aload_n 0, 1) := dz_42 (n := 1024) (r := 19) hz_L_law_1024 rfl
theorem dL_law_1044 : decode cL_law 1044 = .ok (.iload_n 3, 1) := dz_29 (n := 1024) (r := 20) hz_L_law_1024 rfl
theorem dL_law_1045 : decode cL_law 1045 = .ok (.iconst 1, 1) := dz_4 (n := 1024) (r := 21) hz_L_law_1024 rfl
theorem dL_law_1046 : decode cL_law 1046 = .ok (.iadd, 1) := dz_96 (n := 1024) (r := 22) hz_L_law_1024 rfl
theorem dL_law_1047 : decode cL_law 1047 = .ok (.iaload, 1) := dz_46 (n := 1024) (r := 23) hz_L_law_1024 rfl
theorem dL_law_1048 : decode cL_law 1048 = .ok (.aload_n 0, 1) := dz_42 (n := 1024) (r := 24) hz_L_law_1024 rfl
theorem dL_law_1049 : decode cL_law 1049 = .ok (.iload_n 3, 1) := dz_29 (n := 1024) (r := 25) hz_L_law_1024 rfl
theorem dL_law_1050 : decode cL_law 1050 = .ok (.iconst 2, 1) := dz_5 (n := 1024) (r := 26) hz_L_law_1024 rfl
theorem dL_law_1051 : decode cL_law 1051 = .ok (.iadd, 1) := dz_96 (n := 1024) (r := 27) hz_L_law_1024 rfl
theorem dL_law_1052 : decode cL_law 1052 = .ok (.iaload, 1) := dz_46 (n := 1024) (r := 28) hz_L_law_1024 rfl
theorem dL_law_1053 : decode cL_law 1053 = .ok (.invokevirtual 137, 3) := dz_182 (n := 1024) (r := 29) hz_L_law_1024 rfl rfl
theorem hz_L_law_1056 : (cL_law.data.toList.drop 1056).take 40 = [87, 44, 42, 29, 4, 96, 46, 42, 29, 5, 96, 46, 182, 0, 140, 87, 167, 0, 217, 43, 42, 29, 4, 96, 46, 182, 0, 141, 87, 44, 42, 29, 4, 96, 46, 182, 0, 144, 87, 167] := by decide +kernel
theorem dL_law_1056 : decode cL_law 1056 = .ok (.pop, 1) := dz_87 (n := 1056) (r := 0) hz_L_law_1056 rfl
theorem dL_law_1057 : decode cL_law 1057 = .ok (.aload_n 2, 1) := dz_44 (n := 1056) (r := 1) hz_L_law_1056 rfl
theorem dL_law_1058 : decode cL_law 1058 = .ok (.aload_n 0, 1) := dz_42 (n := 1056) (r := 2) hz_L_law_1056 rfl
theorem dL_law_1059 : decode cL_law 1059 = .ok (.iload_n 3, 1) := dz_29 (n := 1056) (r := 3) hz_L_law_1056 rfl
theorem dL_law_1060 : decode cL_law 1060 = .ok (.iconst 1, 1) := dz_4 (n := 1056) (r := 4) hz_L_law_1056 rfl
theorem dL_law_1061 : decode cL_law 1061 = .ok (.iadd, 1) := dz_96 (n := 1056) (r := 5) hz_L_law_1056 rfl
theorem dL_law_1062 : decode cL_law 1062 = .ok (.iaload, 1) := dz_46 (n := 1056) (r := 6) hz_L_law_1056 rfl
theorem dL_law_1063 : decode cL_law 1063 = .ok (.aload_n 0, 1) := dz_42 (n := 1056) (r := 7) hz_L_law_1056 rfl
theorem dL_law_1064 : decode cL_law 1064 = .ok (.iload_n 3, 1) := dz_29 (n := 1056) (r := 8) hz_L_law_1056 rfl
theorem dL_law_1065 : decode cL_law 1065 = .ok (.iconst 2, 1) := dz_5 (n := 1056) (r := 9) hz_L_law_1056 rfl
theorem dL_law_1066 : decode cL_law 1066 = .ok (.iadd, 1) := dz_96 (n := 1056) (r := 10) hz_L_law_1056 rfl
theorem dL_law_1067 : decode cL_law 1067 = .ok (.iaload, 1) := dz_46 (n := 1056) (r := 11) hz_L_law_1056 rfl
theorem dL_law_1068 : decode cL_law 1068 = .ok (.invokevirtual 140, 3) := dz_182 (n := 1056) (r := 12) hz_L_law_1056 rfl rfl
theorem dL_law_1071 : decode cL_law 1071 = .ok (.pop, 1) := dz_87 (n := 1056) (r := 15) hz_L_law_1056 rfl
theorem dL_law_1072 : decode cL_law 1072 = .ok (.goto 217, 3) := dz_167 (n := 1056) (r := 16) hz_L_law_1056 rfl (by decide +kernel)
theorem dL_law_1075 : decode cL_law 1075 = .ok (.aload_n 1, 1) := dz_43 (n := 1056) (r := 19) hz_L_law_1056 rfl
theorem dL_law_1076 : decode cL_law 1076 = .ok (.aload_n 0, 1) := dz_42 (n := 1056) (r := 20) hz_L_law_1056 rfl
theorem dL_law_1077 : decode cL_law 1077 = .ok (.iload_n 3, 1) := dz_29 (n := 1056) (r := 21) hz_L_law_1056 rfl
theorem dL_law_1078 : decode cL_law 1078 = .ok (.iconst 1, 1) := dz_4 (n := 1056) (r := 22) hz_L_law_1056 rfl
theorem dL_law_1079 : decode cL_law 1079 = .ok (.iadd, 1) := dz_96 (n := 1056) (r := 23) hz_L_law_1056 rfl
theorem dL_law_1080 : decode cL_law 1080 = .ok (.iaload, 1) := dz_46 (n := 1056) (r := 24) hz_L_law_1056 rfl
theorem dL_law_1081 : decode cL_law 1081 = .ok (.invokevirtual 141, 3) := dz_182 (n := 1056) (r := 25) hz_L_law_1056 rfl rfl
theorem dL_law_1084 : decode cL_law 1084 = .ok (.pop, 1) := dz_87 (n := 1056) (r := 28) hz_L_law_1056 rfl
theorem dL_law_1085 : decode cL_law 1085 = .ok (.aload_n 2, 1) := dz_44 (n := 1056) (r := 29) hz_L_law_1056 rfl
theorem dL_law_1086 : decode cL_law 1086 = .ok (.aload_n 0, 1) := dz_42 (n := 1056) (r := 30) hz_L_law_1056 rfl
theorem dL_law_1087 : decode cL_law 1087 = .ok (.iload_n 3, 1) := dz_29 (n := 1056) (r := 31) hz_L_law_1056 rfl
theorem hz_L_law_1088 : (cL_law.data.toList.drop 1088).take 40 = [4, 96, 46, 182, 0, 144, 87, 167, 0, 194, 43, 42, 29, 4, 96, 46, 182, 0, 145, 88, 44, 42, 29, 4, 96, 46, 182, 0, 149, 88, 167, 0, 171, 43, 42, 29, 4, 96, 46, 42] := by decide +kernel
theorem dL_law_1088 : decode cL_law 1088 = .ok (.iconst 1, 1) := dz_4 (n := 1088) (r := 0) hz_L_law_1088 rfl
theorem dL_law_1089 : decode cL_law 1089 = .ok (.iadd, 1) := dz_96 (n := 1088) (r := 1) hz_L_law_1088 rfl
theorem dL_law_1090 : decode cL_law 1090 = .ok (.iaload, 1) := dz_46 (n := 1088) (r := 2) hz_L_law_1088 rfl
theorem dL_law_1091 : decode cL_law 1091 = .ok (.invokevirtual 144, 3) := dz_182 (n := 1088) (r := 3) hz_L_law_1088 rfl rfl
theorem dL_law_1094 : decode cL_law 1094 = .ok (.pop, 1) := dz_87 (n := 1088) (r := 6) hz_L_law_1088 rfl
theorem dL_law_1095 : decode cL_law 1095 = .ok (.goto 194, 3) := dz_167 (n := 1088) (r := 7) hz_L_law_1088 rfl (by decide +kernel)
theorem dL_law_1098 : decode cL_law 1098 = .ok (.aload_n 1, 1) := dz_43 (n := 1088) (r := 10) hz_L_law_1088 rfl
theorem dL_law_1099 : decode cL_law 1099 = .ok (.aload_n 0, 1) := dz_42 (n := 1088) (r := 11) hz_L_law_1088 rfl
theorem dL_law_1100 : decode cL_law 1100 = .ok (.iload_n 3, 1) := dz_29 (n := 1088) (r := 12) hz_L_law_1088 rfl
theorem dL_law_1101 : decode cL_law 1101 = .ok (.iconst 1, 1) := dz_4 (n := 1088) (r := 13) hz_L_law_1088 rfl
theorem dL_law_1102 : decode cL_law 1102 = .ok (.iadd, 1) := dz_96 (n := 1088) (r := 14) hz_L_law_1088 rfl
theorem dL_law_1103 : decode cL_law 1103 = .ok (.iaload, 1) := dz_46 (n := 1088) (r := 15) hz_L_law_1088 rfl
theorem dL_law_1104 : decode cL_law 1104 = .ok (.invokevirtual 145, 3) := dz_182 (n := 1088) (r := 16) hz_L_law_1088 rfl rfl
theorem dL_law_1107 : decode cL_law 1107 = .ok (.pop2, 1) := dz_88 (n := 1088) (r := 19) hz_L_law_1088 rfl
theorem dL_law_1108 : decode cL_law 1108 = .ok (.aload_n 2, 1) := dz_44 (n := 1088) (r := 20) hz_L_law_1088 rfl
theorem dL_law_1109 : decode cL_law 1109 = .ok (.aload_n 0, 1) := dz_42 (n := 1088) (r := 21) hz_L_law_1088 rfl
theorem dL_law_1110 : decode cL_law 1110 = .ok (.iload_n 3, 1) := dz_29 (n := 1088) (r := 22) hz_L_law_1088 rfl
theorem dL_law_1111 : decode cL_law 1111 = .ok (.iconst 1, 1) := dz_4 (n := 1088) (r := 23) hz_L_law_1088 rfl
theorem dL_law_1112 : decode cL_law 1112 = .ok (.iadd, 1) := dz_96 (n := 1088) (r := 24) hz_L_law_1088 rfl
theorem dL_law_1113 : decode cL_law 1113 = .ok (.iaload, 1) := dz_46 (n := 1088) (r := 25) hz_L_law_1088 rfl
theorem dL_law_1114 : decode cL_law 1114 = .ok (.invokevirtual 149, 3) := dz_182 (n := 1088) (r := 26) hz_L_law_1088 rfl rfl
theorem dL_law_1117 : decode cL_law 1117 = .ok (.pop2, 1) := dz_88 (n := 1088) (r := 29) hz_L_law_1088 rfl
theorem dL_law_1118 : decode cL_law 1118 = .ok (.goto 171, 3) := dz_167 (n := 1088) (r := 30) hz_L_law_1088 rfl (by decide +kernel)
theorem hz_L_law_1120 : (cL_law.data.toList.drop 1120).take 40 = [171, 43, 42, 29, 4, 96, 46, 42, 29, 5, 96, 46, 182, 0, 150, 87, 44, 42, 29, 4, 96, 46, 42, 29, 5, 96, 46, 182, 0, 153, 87, 167, 0, 138, 43, 42, 29, 4, 96, 46] := by decide +kernel
theorem dL_law_1121 : decode cL_law 1121 = .ok (.aload_n 1, 1) := dz_43 (n := 1120) (r := 1) hz_L_law_1120 rfl
theorem dL_law_1122 : decode cL_law 1122 = .ok (.aload_n 0, 1) := dz_42 (n := 1120) (r := 2) hz_L_law_1120 rfl
theorem dL_law_1123 : decode cL_law 1123 = .ok (.iload_n 3, 1) := dz_29 (n := 1120) (r := 3) hz_L_law_1120 rfl
theorem dL_law_1124 : decode cL_law 1124 = .ok (.iconst 1, 1) := dz_4 (n := 1120) (r := 4) hz_L_law_1120 rfl
theorem dL_law_1125 : decode cL_law 1125 = .ok (.iadd, 1) := dz_96 (n := 1120) (r := 5) hz_L_law_1120 rfl
theorem dL_law_1126 : decode cL_law 1126 = .ok (.iaload, 1) := dz_46 (n := 1120) (r := 6) hz_L_law_1120 rfl
theorem dL_law_1127 : decode cL_law 1127 = .ok (.aload_n 0, 1) := dz_42 (n := 1120) (r := 7) hz_L_law_1120 rfl
theorem dL_law_1128 : decode cL_law 1128 = .ok (.iload_n 3, 1) := dz_29 (n := 1120) (r := 8) hz_L_law_1120 rfl
theorem dL_law_1129 : decode cL_law 1129 = .ok (.iconst 2, 1) := dz_5 (n := 1120) (r := 9) hz_L_law_1120 rfl
theorem dL_law_1130 : decode cL_law 1130 = .ok (.iadd, 1) := dz_96 (n := 1120) (r := 10) hz_L_law_1120 rfl
theorem dL_law_1131 : decode cL_law 1131 = .ok (.iaload, 1) := dz_46 (n := 1120) (r := 11) hz_L_law_1120 rfl
theorem dL_law_1132 : decode cL_law 1132 = .ok (.invokevirtual 150, 3) := dz_182 (n := 1120) (r := 12) hz_L_law_1120 rfl rfl
theorem dL_law_1135 : decode cL_law 1135 = .ok (.pop, 1) := dz_87 (n := 1120) (r := 15) hz_L_law_1120 rfl
theorem dL_law_1136 : decode cL_law 1136 = .ok (.aload_n 2, 1) := dz_44 (n := 1120) (r := 16) hz_L_law_1120 rfl
theorem dL_law_1137 : decode cL_law 1137 = .ok (.aload_n 0, 1) := dz_42 (n := 1120) (r := 17) hz_L_law_1120 rfl
theorem dL_law_1138 : decode cL_law 1138 = .ok (.iload_n 3, 1) := dz_29 (n := 1120) (r := 18) hz_L_law_1120 rfl
theorem dL_law_1139 : decode cL_law 1139 = .ok (.iconst 1, 1) := dz_4 (n := 1120) (r := 19) hz_L_law_1120 rfl
theorem dL_law_1140 : decode cL_law 1140 = .ok (.iadd, 1) := dz_96 (n := 1120) (r := 20) hz_L_law_1120 rfl
theorem dL_law_1141 : decode cL_law 1141 = .ok (.iaload, 1) := dz_46 (n := 1120) (r := 21) hz_L_law_1120 rfl
theorem dL_law_1142 : decode cL_law 1142 = .ok (.aload_n 0, 1) := dz_42 (n := 1120) (r := 22) hz_L_law_1120 rfl
theorem dL_law_1143 : decode cL_law 1143 = .ok (.iload_n 3, 1) := dz_29 (n := 1120) (r := 23) hz_L_law_1120 rfl
theorem dL_law_1144 : decode cL_law 1144 = .ok (.iconst 2, 1) := dz_5 (n := 1120) (r := 24) hz_L_law_1120 rfl
theorem dL_law_1145 : decode cL_law 1145 = .ok (.iadd, 1) := dz_96 (n := 1120) (r := 25) hz_L_law_1120 rfl
theorem dL_law_1146 : decode cL_law 1146 = .ok (.iaload, 1) := dz_46 (n := 1120) (r := 26) hz_L_law_1120 rfl
theorem dL_law_1147 : decode cL_law 1147 = .ok (.invokevirtual 153, 3) := dz_182 (n := 1120) (r := 27) hz_L_law_1120 rfl rfl
theorem dL_law_1150 : decode cL_law 1150 = .ok (.pop, 1) := dz_87 (n := 1120) (r := 30) hz_L_law_1120 rfl
theorem dL_law_1151 : decode cL_law 1151 = .ok (.goto 138, 3) := dz_167 (n := 1120) (r := 31) hz_L_law_1120 rfl (by decide +kernel)
theorem hz_L_law_1152 : (cL_law.data.toList.drop 1152).take 40 = [0, 138, 43, 42, 29, 4, 96, 46, 182, 0, 154, 87, 44, 42, 29, 4, 96, 46, 182, 0, 157, 87, 167, 0, 115, 43, 42, 29, 4, 96, 46, 42, 29, 5, 96, 46, 42, 29, 6, 96] := by decide +kernel
theorem dL_law_1154 : decode cL_law 1154 = .ok (.aload_n 1, 1) := dz_43 (n := 1152) (r := 2) hz_L_law_1152 rfl
theorem dL_law_1155 : decode cL_law 1155 = .ok (.aload_n 0, 1) := dz_42 (n := 1152) (r := 3) hz_L_law_1152 rfl
theorem dL_law_1156 : decode cL_law 1156 = .ok (.iload_n 3, 1) := dz_29 (n := 1152) (r := 4) hz_L_law_1152 rfl
theorem dL_law_1157 : decode cL_law 1157 = .ok (.iconst 1, 1) := dz_4 (n := 1152) (r := 5) hz_L_law_1152 rfl
theorem dL_law_1158 : decode cL_law 1158 = .ok (.iadd, 1) := dz_96 (n := 1152) (r := 6) hz_L_law_1152 rfl
theorem dL_law_1159 : decode cL_law 1159 = .ok (.iaload, 1) := dz_46 (n := 1152) (r := 7) hz_L_law_1152 rfl
theorem dL_law_1160 : decode cL_law 1160 = .ok (.invokevirtual 154, 3) := dz_182 (n := 1152) (r := 8) hz_L_law_1152 rfl rfl
theorem dL_law_1163 : decode cL_law 1163 = .ok (.pop, 1) := dz_87 (n := 1152) (r := 11) hz_L_law_1152 rfl
theorem dL_law_1164 : decode cL_law 1164 = .ok (.aload_n 2, 1) := dz_44 (n := 1152) (r := 12) hz_L_law_1152 rfl
theorem dL_law_1165 : decode cL_law 1165 = .ok (.aload_n 0, 1) := dz_42 (n := 1152) (r := 13) hz_L_law_1152 rfl
theorem dL_law_1166 : decode cL_law 1166 = .ok (.iload_n 3, 1) := dz_29 (n := 1152) (r := 14) hz_L_law_1152 rfl
theorem dL_law_1167 : decode cL_law 1167 = .ok (.iconst 1, 1) := dz_4 (n := 1152) (r := 15) hz_L_law_1152 rfl
theorem dL_law_1168 : decode cL_law 1168 = .ok (.iadd, 1) := dz_96 (n := 1152) (r := 16) hz_L_law_1152 rfl
theorem dL_law_1169 : decode cL_law 1169 = .ok (.iaload, 1) := dz_46 (n := 1152) (r := 17) hz_L_law_1152 rfl
theorem dL_law_1170 : decode cL_law 1170 = .ok (.invokevirtual 157, 3) := dz_182 (n := 1152) (r := 18) hz_L_law_1152 rfl rfl
theorem dL_law_1173 : decode cL_law 1173 = .ok (.pop, 1) := dz_87 (n := 1152) (r := 21) hz_L_law_1152 rfl
theorem dL_law_1174 : decode cL_law 1174 = .ok (.goto 115, 3) := dz_167 (n := 1152) (r := 22) hz_L_law_1152 rfl (by decide +kernel)
theorem dL_law_1177 : decode cL_law 1177 = .ok (.aload_n 1, 1) := dz_43 (n := 1152) (r := 25) hz_L_law_1152 rfl
theorem dL_law_1178 : decode cL_law 1178 = .ok (.aload_n 0, 1) := dz_42 (n := 1152) (r := 26) hz_L_law_1152 rfl
theorem dL_law_1179 : decode cL_law 1179 = .ok (.iload_n 3, 1) := dz_29 (n := 1152) (r := 27) hz_L_law_1152 rfl
theorem dL_law_1180 : decode cL_law 1180 = .ok (.iconst 1, 1) := dz_4 (n := 1152) (r := 28) hz_L_law_1152 rfl
theorem dL_law_1181 : decode cL_law 1181 = .ok (.iadd, 1) := dz_96 (n := 1152) (r := 29) hz_L_law_1152 rfl
theorem dL_law_1182 : decode cL_law 1182 = .ok (.iaload, 1) := dz_46 (n := 1152) (r := 30) hz_L_law_1152 rfl
theorem dL_law_1183 : decode cL_law 1183 = .ok (.aload_n 0, 1) := dz_42 (n := 1152) (r := 31) hz_L_law_1152 rfl
theorem hz_L_law_1184 : (cL_law.data.toList.drop 1184).take 40 = [29, 5, 96, 46, 42, 29, 6, 96, 46, 182, 0, 158, 87, 44, 42, 29, 4, 96, 46, 42, 29, 5, 96, 46, 42, 29, 6, 96, 46, 182, 0, 161, 87, 167, 0, 72, 43, 42, 29, 4] := by decide +kernel
theorem dL_law_1184 : decode cL_law 1184 = .ok (.iload_n 3, 1) := dz_29 (n := 1184) (r := 0) hz_L_law_1184 rfl
theorem dL_law_1185 : decode cL_law 1185 = .ok (.iconst 2, 1) := dz_5 (n := 1184) (r := 1) hz_L_law_1184 rfl
theorem dL_law_1186 : decode cL_law 1186 = .ok (.iadd, 1) := dz_96 (n := 1184) (r := 2) hz_L_law_1184 rfl
theorem dL_law_1187 : decode cL_law 1187 = .ok (.iaload, 1) := dz_46 (n := 1184) (r := 3) hz_L_law_1184 rfl
theorem dL_law_1188 : decode cL_law 1188 = .ok (.aload_n 0, 1) := dz_42 (n := 1184) (r := 4) hz_L_law_1184 rfl
theorem dL_law_1189 : decode cL_law 1189 = .ok (.iload_n 3, 1) := dz_29 (n := 1184) (r := 5) hz_L_law_1184 rfl
theorem dL_law_1190 : decode cL_law 1190 = .ok (.iconst 3, 1) := dz_6 (n := 1184) (r := 6) hz_L_law_1184 rfl
theorem dL_law_1191 : decode cL_law 1191 = .ok (.iadd, 1) := dz_96 (n := 1184) (r := 7) hz_L_law_1184 rfl
theorem dL_law_1192 : decode cL_law 1192 = .ok (.iaload, 1) := dz_46 (n := 1184) (r := 8) hz_L_law_1184 rfl
theorem dL_law_1193 : decode cL_law 1193 = .ok (.invokevirtual 158, 3) := dz_182 (n := 1184) (r := 9) hz_L_law_1184 rfl rfl
theorem dL_law_1196 : decode cL_law 1196 = .ok (.pop, 1) := dz_87 (n := 1184) (r := 12) hz_L_law_1184 rfl
theorem dL_law_1197 : decode cL_law 1197 = .ok (.aload_n 2, 1) := dz_44 (n := 1184) (r := 13) hz_L_law_1184 rfl
theorem dL_law_1198 : decode cL_law 1198 = .ok (.aload_n 0, 1) := dz_42 (n := 1184) (r := 14) hz_L_law_1184 rfl
theorem dL_law_1199 : decode cL_law 1199 = .ok (.iload_n 3, 1) := dz_29 (n := 1184) (r := 15) hz_L_law_1184 rfl
theorem dL_law_1200 : decode cL_law 1200 = .ok (.iconst 1, 1) := dz_4 (n := 1184) (r := 16) hz_L_law_1184 rfl
theorem dL_law_1201 : decode cL_law 1201 = .ok (.iadd, 1) := dz_96 (n := 1184) (r := 17) hz_L_law_1184 rfl
theorem dL_law_1202 : decode cL_law 1202 = .ok (.iaload, 1) := dz_46 (n := 1184) (r := 18) hz_L_law_1184 rfl
theorem dL_law_1203 : decode cL_law 1203 = .ok (.aload_n 0, 1) := dz_42 (n := 1184) (r := 19) hz_L_law_1184 rfl
theorem dL_law_1204 : decode cL_law 1204 = .ok (.iload_n 3, 1) := dz_29 (n := 1184) (r := 20) hz_L_law_1184 rfl
theorem dL_law_1205 : decode cL_law 1205 = .ok (.iconst 2, 1) := dz_5 (n := 1184) (r := 21) hz_L_law_1184 rfl
theorem dL_law_1206 : decode cL_law 1206 = .ok (.iadd, 1) := dz_96 (n := 1184) (r := 22) hz_L_law_1184 rfl
theorem dL_law_1207 : decode cL_law 1207 = .ok (.iaload, 1) := dz_46 (n := 1184) (r := 23) hz_L_law_1184 rfl
theorem dL_law_1208 : decode cL_law 1208 = .ok (.aload_n 0, 1) := dz_42 (n := 1184) (r := 24) hz_L_law_1184 rfl
theorem dL_law_1209 : decode cL_law 1209 = .ok (.iload_n 3, 1) := dz_29 (n := 1184) (r := 25) hz_L_law_1184 rfl
theorem dL_law_1210 : decode cL_law 1210 = .ok (.iconst 3, 1) := dz_6 (n := 1184) (r := 26) hz_L_law_1184 rfl
theorem dL_law_1211 : decode cL_law 1211 = .ok (.iadd, 1) := dz_96 (n := 1184) (r := 27) hz_L_law_1184 rfl
theorem dL_law_1212 : decode cL_law 1212 = .ok (.iaload, 1) := dz_46 (n := 1184) (r := 28) hz_L_law_1184 rfl
theorem dL_law_1213 : decode cL_law 1213 = .ok (.invokevirtual 161, 3) := dz_182 (n := 1184) (r := 29) hz_L_law_1184 rfl rfl
theorem hz_L_law_1216 : (cL_law.data.toList.drop 1216).take 40 = [87, 167, 0, 72, 43, 42, 29, 4, 96, 46, 182, 0, 162, 87, 44, 42, 29, 4, 96, 46, 182, 0, 165, 87, 167, 0, 49, 43, 42, 29, 4, 96, 46, 182, 0, 166, 87, 44, 42, 29] := by decide +kernel
theorem dL_law_1216 : decode cL_law 1216 = .ok (.pop, 1) := dz_87 (n := 1216) (r := 0) hz_L_law_1216 rfl
theorem dL_law_1217 : decode cL_law 1217 = .ok (.goto 72, 3) := dz_167 (n := 1216) (r := 1) hz_L_law_1216 rfl (by decide +kernel)
theorem dL_law_1220 : decode cL_law 1220 = .ok (.aload_n 1, 1) := dz_43 (n := 1216) (r := 4) hz_L_law_1216 rfl
theorem dL_law_1221 : decode cL_law 1221 = .ok (.aload_n 0, 1) := dz_42 (n := 1216) (r := 5) hz_L_law_1216 rfl
theorem dL_law_1222 : decode cL_law 1222 = .ok (.iload_n 3, 1) := dz_29 (n := 1216) (r := 6) hz_L_law_1216 rfl
theorem dL_law_1223 : decode cL_law 1223 = .ok (.iconst 1, 1) := dz_4 (n := 1216) (r := 7) hz_L_law_1216 rfl
theorem dL_law_1224 : decode cL_law 1224 = .ok (.iadd, 1) := dz_96 (n := 1216) (r := 8) hz_L_law_1216 rfl
theorem dL_law_1225 : decode cL_law 1225 = .ok (.iaload, 1) := dz_46 (n := 1216) (r := 9) hz_L_law_1216 rfl
theorem dL_law_1226 : decode cL_law 1226 = .ok (.invokevirtual 162, 3) := dz_182 (n := 1216) (r := 10) hz_L_law_1216 rfl rfl
theorem dL_law_1229 : decode cL_law 1229 = .ok (.pop, 1) := dz_87 (n := 1216) (r := 13) hz_L_law_1216 rfl
theorem dL_law_1230 : decode cL_law 1230 = .ok (.aload_n 2, 1) := dz_44 (n := 1216) (r := 14) hz_L_law_1216 rfl
theorem dL_law_1231 : decode cL_law 1231 = .ok (.aload_n 0, 1) := dz_42 (n := 1216) (r := 15) hz_L_law_1216 rfl
theorem dL_law_1232 : decode cL_law 1232 = .ok (.iload_n 3, 1) := dz_29 (n := 1216) (r := 16) hz_L_law_1216 rfl
theorem dL_law_1233 : decode cL_law 1233 = .ok (.iconst 1, 1) := dz_4 (n := 1216) (r := 17) hz_L_law_1216 rfl
theorem dL_law_1234 : decode cL_law 1234 = .ok (.iadd, 1) := dz_96 (n := 1216) (r := 18) hz_L_law_1216 rfl
theorem dL_law_1235 : decode cL_law 1235 = .ok (.iaload, 1) := dz_46 (n := 1216) (r := 19) hz_L_law_1216 rfl
theorem dL_law_1236 : decode cL_law 1236 = .ok (.invokevirtual 165, 3) := dz_182 (n := 1216) (r := 20) hz_L_law_1216 rfl rfl
theorem dL_law_1239 : decode cL_law 1239 = .ok (.pop, 1) := dz_87 (n := 1216) (r := 23) hz_L_law_1216 rfl
theorem dL_law_1240 : decode cL_law 1240 = .ok (.goto 49, 3) := dz_167 (n := 1216) (r := 24) hz_L_law_1216 rfl (by decide +kernel)
theorem dL_law_1243 : decode cL_law 1243 = .ok (.aload_n 1, 1) := dz_43 (n := 1216) (r := 27) hz_L_law_1216 rfl
theorem dL_law_1244 : decode cL_law 1244 = .ok (.aload_n 0, 1) := dz_42 (n := 1216) (r := 28) hz_L_law_1216 rfl
theorem dL_law_1245 : decode cL_law 1245 = .ok (.iload_n 3, 1) := dz_29 (n := 1216) (r := 29) hz_L_law_1216 rfl
theorem dL_law_1246 : decode cL_law 1246 = .ok (.iconst 1, 1) := dz_4 (n := 1216) (r := 30) hz_L_law_1216 rfl
theorem dL_law_1247 : decode cL_law 1247 = .ok (.iadd, 1) := dz_96 (n := 1216) (r := 31) hz_L_law_1216 rfl
theorem hz_L_law_1248 : (cL_law.data.toList.drop 1248).take 40 = [46, 182, 0, 166, 87, 44, 42, 29, 4, 96, 46, 182, 0, 169, 87, 167, 0, 26, 43, 42, 29, 4, 96, 46, 182, 0, 170, 87, 44, 42, 29, 4, 96, 46, 182, 0, 173, 87, 167, 0] := by decide +kernel
theorem dL_law_1248 : decode cL_law 1248 = .ok (.iaload, 1) := dz_46 (n := 1248) (r := 0) hz_L_law_1248 rfl
theorem dL_law_1249 : decode cL_law 1249 = .ok (.invokevirtual 166, 3) := dz_182 (n := 1248) (r := 1) hz_L_law_1248 rfl rfl
theorem dL_law_1252 : decode cL_law 1252 = .ok (.pop, 1) := dz_87 (n := 1248) (r := 4) hz_L_law_1248 rfl
theorem dL_law_1253 : decode cL_law 1253 = .ok (.aload_n 2, 1) := dz_44 (n := 1248) (r := 5) hz_L_law_1248 rfl
theorem dL_law_1254 : decode cL_law 1254 = .ok (.aload_n 0, 1) := dz_42 (n := 1248) (r := 6) hz_L_law_1248 rfl
theorem dL_law_1255 : decode cL_law 1255 = .ok (.iload_n 3, 1) := dz_29 (n := 1248) (r := 7) hz_L_law_1248 rfl
theorem dL_law_1256 : decode cL_law 1256 = .ok (.iconst 1, 1) := dz_4 (n := 1248) (r := 8) hz_L_law_1248 rfl
theorem dL_law_1257 : decode cL_law 1257 = .ok (.iadd, 1) := dz_96 (n := 1248) (r := 9) hz_L_law_1248 rfl
theorem dL_law_1258 : decode cL_law 1258 = .ok (.iaload, 1) := dz_46 (n := 1248) (r := 10) hz_L_law_1248 rfl
theorem dL_law_1259 : decode cL_law 1259 = .ok (.invokevirtual 169, 3) := dz_182 (n := 1248) (r := 11) hz_L_law_1248 rfl rfl
theorem dL_law_1262 : decode cL_law 1262 = .ok (.pop, 1) := dz_87 (n := 1248) (r := 14) hz_L_law_1248 rfl
theorem dL_law_1263 : decode cL_law 1263 = .ok (.goto 26, 3) := dz_167 (n := 1248) (r := 15) hz_L_law_1248 rfl (by decide +kernel)
theorem dL_law_1266 : decode cL_law 1266 = .ok (.aload_n 1, 1) := dz_43 (n := 1248) (r := 18) hz_L_law_1248 rfl
theorem dL_law_1267 : decode cL_law 1267 = .ok (.aload_n 0, 1) := dz_42 (n := 1248) (r := 19) hz_L_law_1248 rfl
theorem dL_law_1268 : decode cL_law 1268 = .ok (.iload_n 3, 1) := dz_29 (n := 1248) (r := 20) hz_L_law_1248 rfl
theorem dL_law_1269 : decode cL_law 1269 = .ok (.iconst 1, 1) := dz_4 (n := 1248) (r := 21) hz_L_law_1248 rfl
theorem dL_law_1270 : decode cL_law 1270 = .ok (.iadd, 1) := dz_96 (n := 1248) (r := 22) hz_L_law_1248 rfl
theorem dL_law_1271 : decode cL_law 1271 = .ok (.iaload, 1) := dz_46 (n := 1248) (r := 23) hz_L_law_1248 rfl
theorem dL_law_1272 : decode cL_law 1272 = .ok (.invokevirtual 170, 3) := dz_182 (n := 1248) (r := 24) hz_L_law_1248 rfl rfl
theorem dL_law_1275 : decode cL_law 1275 = .ok (.pop, 1) := dz_87 (n := 1248) (r := 27) hz_L_law_1248 rfl
theorem dL_law_1276 : decode cL_law 1276 = .ok (.aload_n 2, 1) := dz_44 (n := 1248) (r := 28) hz_L_law_1248 rfl
theorem dL_law_1277 : decode cL_law 1277 = .ok (.aload_n 0, 1) := dz_42 (n := 1248) (r := 29) hz_L_law_1248 rfl
theorem dL_law_1278 : decode cL_law 1278 = .ok (.iload_n 3, 1) := dz_29 (n := 1248) (r := 30) hz_L_law_1248 rfl
theorem dL_law_1279 : decode cL_law 1279 = .ok (.iconst 1, 1) := dz_4 (n := 1248) (r := 31) hz_L_law_1248 rfl
theorem hz_L_law_1280 : (cL_law.data.toList.drop 1280).take 40 = [96, 46, 182, 0, 173, 87, 167, 0, 3, 132, 3, 6, 167, 251, 6, 4, 172] := by decide +kernel
theorem dL_law_1280 : decode cL_law 1280 = .ok (.iadd, 1) := dz_96 (n := 1280) (r := 0) hz_L_law_1280 rfl
theorem dL_law_1281 : decode cL_law 1281 = .ok (.iaload, 1) := dz_46 (n := 1280) (r := 1) hz_L_law_1280 rfl
theorem dL_law_1282 : decode cL_law 1282 = .ok (.invokevirtual 173, 3) := dz_182 (n := 1280) (r := 2) hz_L_law_1280 rfl rfl
theorem dL_law_1285 : decode cL_law 1285 = .ok (.pop, 1) := dz_87 (n := 1280) (r := 5) hz_L_law_1280 rfl
theorem dL_law_1286 : decode cL_law 1286 = .ok (.goto 3, 3) := dz_167 (n := 1280) (r := 6) hz_L_law_1280 rfl (by decide +kernel)
theorem dL_law_1289 : decode cL_law 1289 = .ok (.iinc 3 6, 3) := dz_132 (n := 1280) (r := 9) hz_L_law_1280 rfl rfl rfl
theorem dL_law_1292 : decode cL_law 1292 = .ok (.goto (-1274), 3) := dz_167 (n := 1280) (r := 12) hz_L_law_1280 rfl (by decide +kernel)
theorem dL_law_1295 : decode cL_law 1295 = .ok (.iconst 1, 1) := dz_4 (n := 1280) (r := 15) hz_L_law_1280 rfl
theorem dL_law_1296 : decode cL_law 1296 = .ok (.ireturn, 1) := dz_172 (n := 1280) (r := 16) hz_L_law_1280 rfl
