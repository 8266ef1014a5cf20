theorem dL_acts_384 : decode cL_acts 384 = .ok (.iload 9, 2) := by decide +kernel
theorem dL_acts_386 : decode cL_acts 386 = .ok (.ifCond .eq 21, 3) := by decide +kernel
theorem dL_acts_389 : decode cL_acts 389 = .ok (.aload_n 0, 1) := by decide +kernel
theorem dL_acts_390 : decode cL_acts 390 = .ok (.iload 4, 2) := by decide +kernel
theorem dL_acts_392 : decode cL_acts 392 = .ok (.invokevirtual 42, 3) := by decide +kernel
theorem dL_acts_395 : decode cL_acts 395 = .ok (.ifCond .ne 16, 3) := by decide +kernel
theorem dL_acts_398 : decode cL_acts 398 = .ok (.aload_n 0, 1) := by decide +kernel
theorem dL_acts_399 : decode cL_acts 399 = .ok (.invokevirtual 159, 3) := by decide +kernel
theorem dL_acts_402 : decode cL_acts 402 = .ok (.iload 8, 2) := by decide +kernel
theorem dL_acts_404 : decode cL_acts 404 = .ok (.if_icmp .ge 7, 3) := by decide +kernel
theorem dL_acts_407 : decode cL_acts 407 = .ok (.iconst 1, 1) := by decide +kernel
theorem dL_acts_408 : decode cL_acts 408 = .ok (.goto 4, 3) := by decide +kernel
theorem dL_acts_411 : decode cL_acts 411 = .ok (.iconst 0, 1) := by decide +kernel
theorem dL_acts_412 : decode cL_acts 412 = .ok (.ireturn, 1) := by decide +kernel
theorem dL_acts_413 : decode cL_acts 413 = .ok (.iload_n 3, 1) := by decide +kernel
theorem dL_acts_414 : decode cL_acts 414 = .ok (.bipush 32, 2) := by decide +kernel
theorem dL_acts_416 : decode cL_acts 416 = .ok (.if_icmp .ge 322, 3) := by decide +kernel
theorem dL_acts_419 : decode cL_acts 419 = .ok (.iload_n 3, 1) := by decide +kernel
theorem dL_acts_420 : decode cL_acts 420 = .ok (.bipush 26, 2) := by decide +kernel
theorem dL_acts_422 : decode cL_acts 422 = .ok (.if_icmp .ge 7, 3) := by decide +kernel
theorem dL_acts_425 : decode cL_acts 425 = .ok (.iconst 1, 1) := by decide +kernel
theorem dL_acts_426 : decode cL_acts 426 = .ok (.goto 4, 3) := by decide +kernel
theorem dL_acts_429 : decode cL_acts 429 = .ok (.iconst 0, 1) := by decide +kernel
theorem dL_acts_430 : decode cL_acts 430 = .ok (.istore 11, 2) := by decide +kernel
theorem dL_acts_432 : decode cL_acts 432 = .ok (.iload 9, 2) := by decide +kernel
theorem dL_acts_434 : decode cL_acts 434 = .ok (.ifCond .eq 12, 3) := by decide +kernel
theorem dL_acts_437 : decode cL_acts 437 = .ok (.aload_n 0, 1) := by decide +kernel
theorem dL_acts_438 : decode cL_acts 438 = .ok (.iload 4, 2) := by decide +kernel
theorem dL_acts_440 : decode cL_acts 440 = .ok (.invokevirtual 110, 3) := by decide +kernel
theorem dL_acts_443 : decode cL_acts 443 = .ok (.goto 4, 3) := by decide +kernel
theorem dL_acts_446 : decode cL_acts 446 = .ok (.lconst 0, 1) := by decide +kernel
theorem dL_acts_447 : decode cL_acts 447 = .ok (.lstore 12, 2) := by decide +kernel
theorem dL_acts_449 : decode cL_acts 449 = .ok (.iload 9, 2) := by decide +kernel
theorem dL_acts_451 : decode cL_acts 451 = .ok (.ifCond .eq 12, 3) := by decide +kernel
theorem dL_acts_454 : decode cL_acts 454 = .ok (.aload_n 0, 1) := by decide +kernel
theorem dL_acts_455 : decode cL_acts 455 = .ok (.iload 4, 2) := by decide +kernel
theorem dL_acts_457 : decode cL_acts 457 = .ok (.invokevirtual 113, 3) := by decide +kernel
theorem dL_acts_460 : decode cL_acts 460 = .ok (.goto 4, 3) := by decide +kernel
theorem dL_acts_463 : decode cL_acts 463 = .ok (.lconst 0, 1) := by decide +kernel
theorem dL_acts_464 : decode cL_acts 464 = .ok (.lstore 14, 2) := by decide +kernel
theorem dL_acts_466 : decode cL_acts 466 = .ok (.iload 9, 2) := by decide +kernel
theorem dL_acts_468 : decode cL_acts 468 = .ok (.ifCond .ne 9, 3) := by decide +kernel
theorem dL_acts_471 : decode cL_acts 471 = .ok (.ldc2_w 136, 3) := by decide +kernel
theorem dL_acts_474 : decode cL_acts 474 = .ok (.goto 33, 3) := by decide +kernel
theorem dL_acts_477 : decode cL_acts 477 = .ok (.iload 11, 2) := by decide +kernel
theorem dL_acts_479 : decode cL_acts 479 = .ok (.ifCond .eq 16, 3) := by decide +kernel
theorem dL_acts_482 : decode cL_acts 482 = .ok (.aload_n 0, 1) := by decide +kernel
theorem dL_acts_483 : decode cL_acts 483 = .ok (.iload 4, 2) := by decide +kernel
theorem dL_acts_485 : decode cL_acts 485 = .ok (.lload 12, 2) := by decide +kernel
theorem dL_acts_487 : decode cL_acts 487 = .ok (.lload 14, 2) := by decide +kernel
theorem dL_acts_489 : decode cL_acts 489 = .ok (.invokestatic 182, 3) := by decide +kernel
theorem dL_acts_492 : decode cL_acts 492 = .ok (.goto 15, 3) := by decide +kernel
theorem dL_acts_495 : decode cL_acts 495 = .ok (.iload 10, 2) := by decide +kernel
theorem dL_acts_497 : decode cL_acts 497 = .ok (.ifCond .ne 9, 3) := by decide +kernel
theorem dL_acts_500 : decode cL_acts 500 = .ok (.ldc2_w 136, 3) := by decide +kernel
theorem dL_acts_503 : decode cL_acts 503 = .ok (.goto 4, 3) := by decide +kernel
theorem dL_acts_506 : decode cL_acts 506 = .ok (.lconst 1, 1) := by decide +kernel
theorem dL_acts_507 : decode cL_acts 507 = .ok (.lstore 16, 2) := by decide +kernel
theorem dL_acts_509 : decode cL_acts 509 = .ok (.iload 11, 2) := by decide +kernel
theorem dL_acts_511 : decode cL_acts 511 = .ok (.ifCond .eq 12, 3) := by decide +kernel
theorem dL_acts_514 : decode cL_acts 514 = .ok (.aload_n 0, 1) := by decide +kernel
theorem dL_acts_515 : decode cL_acts 515 = .ok (.iload 4, 2) := by decide +kernel
theorem dL_acts_517 : decode cL_acts 517 = .ok (.invokestatic 215, 3) := by decide +kernel
theorem dL_acts_520 : decode cL_acts 520 = .ok (.goto 9, 3) := by decide +kernel
theorem dL_acts_523 : decode cL_acts 523 = .ok (.aload_n 0, 1) := by decide +kernel
theorem dL_acts_524 : decode cL_acts 524 = .ok (.iload 4, 2) := by decide +kernel
theorem dL_acts_526 : decode cL_acts 526 = .ok (.invokestatic 217, 3) := by decide +kernel
theorem dL_acts_529 : decode cL_acts 529 = .ok (.lstore 18, 2) := by decide +kernel
theorem dL_acts_531 : decode cL_acts 531 = .ok (.iload 5, 2) := by decide +kernel
theorem dL_acts_533 : decode cL_acts 533 = .ok (.ifCond .ne 10, 3) := by decide +kernel
theorem dL_acts_536 : decode cL_acts 536 = .ok (.lload 16, 2) := by decide +kernel
theorem dL_acts_538 : decode cL_acts 538 = .ok (.lconst 0, 1) := by decide +kernel
theorem dL_acts_539 : decode cL_acts 539 = .ok (.lcmp, 1) := by decide +kernel
theorem dL_acts_540 : decode cL_acts 540 = .ok (.ifCond .ge 53, 3) := by decide +kernel
theorem dL_acts_543 : decode cL_acts 543 = .ok (.lload 18, 2) := by decide +kernel
theorem dL_acts_545 : decode cL_acts 545 = .ok (.iload 5, 2) := by decide +kernel
theorem dL_acts_547 : decode cL_acts 547 = .ok (.ifCond .eq 8, 3) := by decide +kernel
theorem dL_acts_550 : decode cL_acts 550 = .ok (.bipush (-102), 2) := by decide +kernel
theorem dL_acts_552 : decode cL_acts 552 = .ok (.goto 5, 3) := by decide +kernel
theorem dL_acts_555 : decode cL_acts 555 = .ok (.bipush (-103), 2) := by decide +kernel
theorem dL_acts_557 : decode cL_acts 557 = .ok (.i2l, 1) := by decide +kernel
theorem dL_acts_558 : decode cL_acts 558 = .ok (.lcmp, 1) := by decide +kernel
theorem dL_acts_559 : decode cL_acts 559 = .ok (.ifCond .ne 32, 3) := by decide +kernel
theorem dL_acts_562 : decode cL_acts 562 = .ok (.aload_n 0, 1) := by decide +kernel
theorem dL_acts_563 : decode cL_acts 563 = .ok (.invokevirtual 124, 3) := by decide +kernel
theorem dL_acts_566 : decode cL_acts 566 = .ok (.iload 7, 2) := by decide +kernel
theorem dL_acts_568 : decode cL_acts 568 = .ok (.if_icmp .ne 23, 3) := by decide +kernel
theorem dL_acts_571 : decode cL_acts 571 = .ok (.iload 9, 2) := by decide +kernel
theorem dL_acts_573 : decode cL_acts 573 = .ok (.ifCond .eq 14, 3) := by decide +kernel
theorem dL_acts_576 : decode cL_acts 576 = .ok (.aload_n 0, 1) := by decide +kernel
theorem dL_acts_577 : decode cL_acts 577 = .ok (.iload 4, 2) := by decide +kernel
theorem dL_acts_579 : decode cL_acts 579 = .ok (.invokevirtual 101, 3) := by decide +kernel
theorem dL_acts_582 : decode cL_acts 582 = .ok (.iload 10, 2) := by decide +kernel
theorem dL_acts_584 : decode cL_acts 584 = .ok (.if_icmp .ne 7, 3) := by decide +kernel
theorem dL_acts_587 : decode cL_acts 587 = .ok (.iconst 1, 1) := by decide +kernel
theorem dL_acts_588 : decode cL_acts 588 = .ok (.goto 4, 3) := by decide +kernel
theorem dL_acts_591 : decode cL_acts 591 = .ok (.iconst 0, 1) := by decide +kernel
theorem dL_acts_592 : decode cL_acts 592 = .ok (.ireturn, 1) := by decide +kernel
theorem dL_acts_593 : decode cL_acts 593 = .ok (.iload 11, 2) := by decide +kernel
theorem dL_acts_595 : decode cL_acts 595 = .ok (.ifCond .eq 45, 3) := by decide +kernel
theorem dL_acts_598 : decode cL_acts 598 = .ok (.lload 18, 2) := by decide +kernel
theorem dL_acts_600 : decode cL_acts 600 = .ok (.lload 16, 2) := by decide +kernel
theorem dL_acts_602 : decode cL_acts 602 = .ok (.lcmp, 1) := by decide +kernel
theorem dL_acts_603 : decode cL_acts 603 = .ok (.ifCond .ne 133, 3) := by decide +kernel
theorem dL_acts_606 : decode cL_acts 606 = .ok (.aload_n 0, 1) := by decide +kernel
theorem dL_acts_607 : decode cL_acts 607 = .ok (.iload 4, 2) := by decide +kernel
theorem dL_acts_609 : decode cL_acts 609 = .ok (.invokevirtual 113, 3) := by decide +kernel
theorem dL_acts_612 : decode cL_acts 612 = .ok (.lload 12, 2) := by decide +kernel
theorem dL_acts_614 : decode cL_acts 614 = .ok (.aload_n 0, 1) := by decide +kernel
theorem dL_acts_615 : decode cL_acts 615 = .ok (.iload 4, 2) := by decide +kernel
theorem dL_acts_617 : decode cL_acts 617 = .ok (.invokevirtual 89, 3) := by decide +kernel
theorem dL_acts_620 : decode cL_acts 620 = .ok (.i2l, 1) := by decide +kernel
theorem dL_acts_621 : decode cL_acts 621 = .ok (.lmul, 1) := by decide +kernel
theorem dL_acts_622 : decode cL_acts 622 = .ok (.lload 14, 2) := by decide +kernel
theorem dL_acts_624 : decode cL_acts 624 = .ok (.aload_n 0, 1) := by decide +kernel
theorem dL_acts_625 : decode cL_acts 625 = .ok (.iload 4, 2) := by decide +kernel
theorem dL_acts_627 : decode cL_acts 627 = .ok (.invokevirtual 86, 3) := by decide +kernel
theorem dL_acts_630 : decode cL_acts 630 = .ok (.i2l, 1) := by decide +kernel
theorem dL_acts_631 : decode cL_acts 631 = .ok (.lmul, 1) := by decide +kernel
theorem dL_acts_632 : decode cL_acts 632 = .ok (.ladd, 1) := by decide +kernel
theorem dL_acts_633 : decode cL_acts 633 = .ok (.lcmp, 1) := by decide +kernel
theorem dL_acts_634 : decode cL_acts 634 = .ok (.ifCond .ne 102, 3) := by decide +kernel
theorem dL_acts_637 : decode cL_acts 637 = .ok (.goto 23, 3) := by decide +kernel
theorem dL_acts_640 : decode cL_acts 640 = .ok (.aload_n 0, 1) := by decide +kernel
theorem dL_acts_641 : decode cL_acts 641 = .ok (.iload 4, 2) := by decide +kernel
theorem dL_acts_643 : decode cL_acts 643 = .ok (.lload 18, 2) := by decide +kernel
theorem dL_acts_645 : decode cL_acts 645 = .ok (.aload_n 0, 1) := by decide +kernel
theorem dL_acts_646 : decode cL_acts 646 = .ok (.iload 4, 2) := by decide +kernel
theorem dL_acts_648 : decode cL_acts 648 = .ok (.invokevirtual 113, 3) := by decide +kernel
theorem dL_acts_651 : decode cL_acts 651 = .ok (.invokestatic 182, 3) := by decide +kernel
theorem dL_acts_654 : decode cL_acts 654 = .ok (.lload 12, 2) := by decide +kernel
theorem dL_acts_656 : decode cL_acts 656 = .ok (.lcmp, 1) := by decide +kernel
theorem dL_acts_657 : decode cL_acts 657 = .ok (.ifCond .ne 79, 3) := by decide +kernel
theorem dL_acts_660 : decode cL_acts 660 = .ok (.aload_n 0, 1) := by decide +kernel
theorem dL_acts_661 : decode cL_acts 661 = .ok (.iload 4, 2) := by decide +kernel
theorem dL_acts_663 : decode cL_acts 663 = .ok (.invokevirtual 110, 3) := by decide +kernel
theorem dL_acts_666 : decode cL_acts 666 = .ok (.lload 18, 2) := by decide +kernel
theorem dL_acts_668 : decode cL_acts 668 = .ok (.lcmp, 1) := by decide +kernel
theorem dL_acts_669 : decode cL_acts 669 = .ok (.ifCond .ne 67, 3) := by decide +kernel
theorem dL_acts_672 : decode cL_acts 672 = .ok (.aload_n 0, 1) := by decide +kernel
theorem dL_acts_673 : decode cL_acts 673 = .ok (.iload 4, 2) := by decide +kernel
theorem dL_acts_675 : decode cL_acts 675 = .ok (.invokevirtual 101, 3) := by decide +kernel
theorem dL_acts_678 : decode cL_acts 678 = .ok (.iload 10, 2) := by decide +kernel
theorem dL_acts_680 : decode cL_acts 680 = .ok (.iload 11, 2) := by decide +kernel
theorem dL_acts_682 : decode cL_acts 682 = .ok (.ifCond .eq 7, 3) := by decide +kernel
theorem dL_acts_685 : decode cL_acts 685 = .ok (.iconst 1, 1) := by decide +kernel
theorem dL_acts_686 : decode cL_acts 686 = .ok (.goto 4, 3) := by decide +kernel
theorem dL_acts_689 : decode cL_acts 689 = .ok (.iconst (-1), 1) := by decide +kernel
theorem dL_acts_690 : decode cL_acts 690 = .ok (.iadd, 1) := by decide +kernel
theorem dL_acts_691 : decode cL_acts 691 = .ok (.if_icmp .ne 45, 3) := by decide +kernel
theorem dL_acts_694 : decode cL_acts 694 = .ok (.aload_n 0, 1) := by decide +kernel
theorem dL_acts_695 : decode cL_acts 695 = .ok (.invokevirtual 124, 3) := by decide +kernel
theorem dL_acts_698 : decode cL_acts 698 = .ok (.iload 7, 2) := by decide +kernel
theorem dL_acts_700 : decode cL_acts 700 = .ok (.iload 11, 2) := by decide +kernel
theorem dL_acts_702 : decode cL_acts 702 = .ok (.ifCond .eq 7, 3) := by decide +kernel
theorem dL_acts_705 : decode cL_acts 705 = .ok (.iconst 1, 1) := by decide +kernel
theorem dL_acts_706 : decode cL_acts 706 = .ok (.goto 4, 3) := by decide +kernel
theorem dL_acts_709 : decode cL_acts 709 = .ok (.iconst 0, 1) := by decide +kernel
theorem dL_acts_710 : decode cL_acts 710 = .ok (.iadd, 1) := by decide +kernel
theorem dL_acts_711 : decode cL_acts 711 = .ok (.if_icmp .ne 25, 3) := by decide +kernel
theorem dL_acts_714 : decode cL_acts 714 = .ok (.aload_n 0, 1) := by decide +kernel
theorem dL_acts_715 : decode cL_acts 715 = .ok (.invokevirtual 159, 3) := by decide +kernel
theorem dL_acts_718 : decode cL_acts 718 = .ok (.iload 8, 2) := by decide +kernel
theorem dL_acts_720 : decode cL_acts 720 = .ok (.if_icmp .ne 16, 3) := by decide +kernel
theorem dL_acts_723 : decode cL_acts 723 = .ok (.aload_n 0, 1) := by decide +kernel
theorem dL_acts_724 : decode cL_acts 724 = .ok (.invokevirtual 189, 3) := by decide +kernel
theorem dL_acts_727 : decode cL_acts 727 = .ok (.iload 6, 2) := by decide +kernel
theorem dL_acts_729 : decode cL_acts 729 = .ok (.if_icmp .ne 7, 3) := by decide +kernel
theorem dL_acts_732 : decode cL_acts 732 = .ok (.iconst 1, 1) := by decide +kernel
theorem dL_acts_733 : decode cL_acts 733 = .ok (.goto 4, 3) := by decide +kernel
theorem dL_acts_736 : decode cL_acts 736 = .ok (.iconst 0, 1) := by decide +kernel
theorem dL_acts_737 : decode cL_acts 737 = .ok (.ireturn, 1) := by decide +kernel
theorem dL_acts_738 : decode cL_acts 738 = .ok (.aload_n 0, 1) := by decide +kernel
theorem dL_acts_739 : decode cL_acts 739 = .ok (.iload_n 1, 1) := by decide +kernel
theorem dL_acts_740 : decode cL_acts 740 = .ok (.iconst 5, 1) := by decide +kernel
theorem dL_acts_741 : decode cL_acts 741 = .ok (.ishr, 1) := by decide +kernel
theorem dL_acts_742 : decode cL_acts 742 = .ok (.iload_n 2, 1) := by decide +kernel
theorem dL_acts_743 : decode cL_acts 743 = .ok (.invokestatic 219, 3) := by decide +kernel
theorem dL_acts_746 : decode cL_acts 746 = .ok (.ireturn, 1) := by decide +kernel
theorem dL_law_0 : decode cL_law 0 = .ok (.new 10, 3) := by decide +kernel
theorem dL_law_3 : decode cL_law 3 = .ok (.dup, 1) := by decide +kernel
theorem dL_law_4 : decode cL_law 4 = .ok (.invokespecial 222, 3) := by decide +kernel
theorem dL_law_7 : decode cL_law 7 = .ok (.astore_n 1, 1) := by decide +kernel
theorem dL_law_8 : decode cL_law 8 = .ok (.lconst 0, 1) := by decide +kernel
theorem dL_law_9 : decode cL_law 9 = .ok (.lstore_n 2, 1) := by decide +kernel
theorem dL_law_10 : decode cL_law 10 = .ok (.aload_n 1, 1) := by decide +kernel
theorem dL_law_11 : decode cL_law 11 = .ok (.iconst 0, 1) := by decide +kernel
theorem dL_law_12 : decode cL_law 12 = .ok (.invokestatic 223, 3) := by decide +kernel
theorem dL_law_15 : decode cL_law 15 = .ok (.ifCond .eq 25, 3) := by decide +kernel
theorem dL_law_18 : decode cL_law 18 = .ok (.aload_n 1, 1) := by decide +kernel
theorem dL_law_19 : decode cL_law 19 = .ok (.invokestatic 227, 3) := by decide +kernel
theorem dL_law_22 : decode cL_law 22 = .ok (.bipush (-103), 2) := by decide +kernel
theorem dL_law_24 : decode cL_law 24 = .ok (.if_icmp .ne 16, 3) := by decide +kernel
theorem dL_law_27 : decode cL_law 27 = .ok (.aload_n 1, 1) := by decide +kernel
theorem dL_law_28 : decode cL_law 28 = .ok (.invokestatic 229, 3) := by decide +kernel
theorem dL_law_31 : decode cL_law 31 = .ok (.bipush (-103), 2) := by decide +kernel
theorem dL_law_33 : decode cL_law 33 = .ok (.if_icmp .ne 7, 3) := by decide +kernel
theorem dL_law_36 : decode cL_law 36 = .ok (.iconst 1, 1) := by decide +kernel
theorem dL_law_37 : decode cL_law 37 = .ok (.goto 4, 3) := by decide +kernel
theorem dL_law_40 : decode cL_law 40 = .ok (.iconst 0, 1) := by decide +kernel
theorem dL_law_41 : decode cL_law 41 = .ok (.istore 4, 2) := by decide +kernel
theorem dL_law_43 : decode cL_law 43 = .ok (.iconst 0, 1) := by decide +kernel
theorem dL_law_44 : decode cL_law 44 = .ok (.istore 5, 2) := by decide +kernel
theorem dL_law_46 : decode cL_law 46 = .ok (.iload 5, 2) := by decide +kernel
theorem dL_law_48 : decode cL_law 48 = .ok (.bipush 58, 2) := by decide +kernel
theorem dL_law_50 : decode cL_law 50 = .ok (.if_icmp .ge 316, 3) := by decide +kernel
theorem dL_law_53 : decode cL_law 53 = .ok (.iload 4, 2) := by decide +kernel
theorem dL_law_55 : decode cL_law 55 = .ok (.ifCond .eq 311, 3) := by decide +kernel
theorem dL_law_58 : decode cL_law 58 = .ok (.aload_n 0, 1) := by decide +kernel
theorem dL_law_59 : decode cL_law 59 = .ok (.iconst 2, 1) := by decide +kernel
theorem dL_law_60 : decode cL_law 60 = .ok (.iload 5, 2) := by decide +kernel
theorem dL_law_62 : decode cL_law 62 = .ok (.imul, 1) := by decide +kernel
theorem dL_law_63 : decode cL_law 63 = .ok (.invokestatic 231, 3) := by decide +kernel
theorem dL_law_66 : decode cL_law 66 = .ok (.istore 6, 2) := by decide +kernel
theorem dL_law_68 : decode cL_law 68 = .ok (.aload_n 0, 1) := by decide +kernel
theorem dL_law_69 : decode cL_law 69 = .ok (.iconst 2, 1) := by decide +kernel
theorem dL_law_70 : decode cL_law 70 = .ok (.iload 5, 2) := by decide +kernel
theorem dL_law_72 : decode cL_law 72 = .ok (.imul, 1) := by decide +kernel
theorem dL_law_73 : decode cL_law 73 = .ok (.iconst 1, 1) := by decide +kernel
theorem dL_law_74 : decode cL_law 74 = .ok (.iadd, 1) := by decide +kernel
theorem dL_law_75 : decode cL_law 75 = .ok (.invokestatic 231, 3) := by decide +kernel
theorem dL_law_78 : decode cL_law 78 = .ok (.istore 7, 2) := by decide +kernel
theorem dL_law_80 : decode cL_law 80 = .ok (.aload_n 1, 1) := by decide +kernel
theorem dL_law_81 : decode cL_law 81 = .ok (.invokestatic 235, 3) := by decide +kernel
theorem dL_law_84 : decode cL_law 84 = .ok (.lstore 8, 2) := by decide +kernel
theorem dL_law_86 : decode cL_law 86 = .ok (.aload_n 1, 1) := by decide +kernel
theorem dL_law_87 : decode cL_law 87 = .ok (.invokevirtual 162, 3) := by decide +kernel
theorem dL_law_90 : decode cL_law 90 = .ok (.istore 10, 2) := by decide +kernel
theorem dL_law_92 : decode cL_law 92 = .ok (.aload_n 1, 1) := by decide +kernel
theorem dL_law_93 : decode cL_law 93 = .ok (.iload 6, 2) := by decide +kernel
theorem dL_law_95 : decode cL_law 95 = .ok (.iload 7, 2) := by decide +kernel
theorem dL_law_97 : decode cL_law 97 = .ok (.invokestatic 239, 3) := by decide +kernel
theorem dL_law_100 : decode cL_law 100 = .ok (.ifCond .eq 26, 3) := by decide +kernel
theorem dL_law_103 : decode cL_law 103 = .ok (.iload 5, 2) := by decide +kernel
theorem dL_law_105 : decode cL_law 105 = .ok (.bipush 6, 2) := by decide +kernel
theorem dL_law_107 : decode cL_law 107 = .ok (.irem, 1) := by decide +kernel
theorem dL_law_108 : decode cL_law 108 = .ok (.ifCond .gt 14, 3) := by decide +kernel
theorem dL_law_111 : decode cL_law 111 = .ok (.aload_n 1, 1) := by decide +kernel
theorem dL_law_112 : decode cL_law 112 = .ok (.iload 7, 2) := by decide +kernel
theorem dL_law_114 : decode cL_law 114 = .ok (.iconst 2, 1) := by decide +kernel
theorem dL_law_115 : decode cL_law 115 = .ok (.ishr, 1) := by decide +kernel
theorem dL_law_116 : decode cL_law 116 = .ok (.invokestatic 223, 3) := by decide +kernel
theorem dL_law_119 : decode cL_law 119 = .ok (.ifCond .eq 7, 3) := by decide +kernel
theorem dL_law_122 : decode cL_law 122 = .ok (.iconst 1, 1) := by decide +kernel
theorem dL_law_123 : decode cL_law 123 = .ok (.goto 4, 3) := by decide +kernel
theorem dL_law_126 : decode cL_law 126 = .ok (.iconst 0, 1) := by decide +kernel
theorem dL_law_127 : decode cL_law 127 = .ok (.istore 4, 2) := by decide +kernel
theorem dL_law_129 : decode cL_law 129 = .ok (.aload_n 1, 1) := by decide +kernel
theorem dL_law_130 : decode cL_law 130 = .ok (.invokevirtual 162, 3) := by decide +kernel
theorem dL_law_133 : decode cL_law 133 = .ok (.istore 11, 2) := by decide +kernel
theorem dL_law_135 : decode cL_law 135 = .ok (.iload 4, 2) := by decide +kernel
theorem dL_law_137 : decode cL_law 137 = .ok (.ifCond .eq 39, 3) := by decide +kernel
theorem dL_law_140 : decode cL_law 140 = .ok (.iload 11, 2) := by decide +kernel
theorem dL_law_142 : decode cL_law 142 = .ok (.iload 10, 2) := by decide +kernel
theorem dL_law_144 : decode cL_law 144 = .ok (.if_icmp .ne 19, 3) := by decide +kernel
theorem dL_law_147 : decode cL_law 147 = .ok (.iload 10, 2) := by decide +kernel
theorem dL_law_149 : decode cL_law 149 = .ok (.iconst 4, 1) := by decide +kernel
theorem dL_law_150 : decode cL_law 150 = .ok (.if_icmp .eq 22, 3) := by decide +kernel
theorem dL_law_153 : decode cL_law 153 = .ok (.aload_n 1, 1) := by decide +kernel
theorem dL_law_154 : decode cL_law 154 = .ok (.invokestatic 235, 3) := by decide +kernel
theorem dL_law_157 : decode cL_law 157 = .ok (.lload 8, 2) := by decide +kernel
theorem dL_law_159 : decode cL_law 159 = .ok (.lcmp, 1) := by decide +kernel
theorem dL_law_160 : decode cL_law 160 = .ok (.ifCond .eq 12, 3) := by decide +kernel
theorem dL_law_163 : decode cL_law 163 = .ok (.iload 11, 2) := by decide +kernel
theorem dL_law_165 : decode cL_law 165 = .ok (.iload 10, 2) := by decide +kernel
theorem dL_law_167 : decode cL_law 167 = .ok (.iconst 1, 1) := by decide +kernel
theorem dL_law_168 : decode cL_law 168 = .ok (.iadd, 1) := by decide +kernel
theorem dL_law_169 : decode cL_law 169 = .ok (.if_icmp .ne 7, 3) := by decide +kernel
theorem dL_law_172 : decode cL_law 172 = .ok (.iconst 1, 1) := by decide +kernel
theorem dL_law_173 : decode cL_law 173 = .ok (.goto 4, 3) := by decide +kernel
theorem dL_law_176 : decode cL_law 176 = .ok (.iconst 0, 1) := by decide +kernel
theorem dL_law_177 : decode cL_law 177 = .ok (.istore 4, 2) := by decide +kernel
theorem dL_law_179 : decode cL_law 179 = .ok (.iload 4, 2) := by decide +kernel
theorem dL_law_181 : decode cL_law 181 = .ok (.ifCond .eq 50, 3) := by decide +kernel
theorem dL_law_184 : decode cL_law 184 = .ok (.iload 11, 2) := by decide +kernel
theorem dL_law_186 : decode cL_law 186 = .ok (.iload 10, 2) := by decide +kernel
theorem dL_law_188 : decode cL_law 188 = .ok (.iconst 1, 1) := by decide +kernel
theorem dL_law_189 : decode cL_law 189 = .ok (.iadd, 1) := by decide +kernel
theorem dL_law_190 : decode cL_law 190 = .ok (.if_icmp .ne 41, 3) := by decide +kernel
theorem dL_law_193 : decode cL_law 193 = .ok (.iload 7, 2) := by decide +kernel
theorem dL_law_195 : decode cL_law 195 = .ok (.bipush 8, 2) := by decide +kernel
theorem dL_law_197 : decode cL_law 197 = .ok (.ishr, 1) := by decide +kernel
theorem dL_law_198 : decode cL_law 198 = .ok (.iconst 4, 1) := by decide +kernel
theorem dL_law_199 : decode cL_law 199 = .ok (.invokestatic 156, 3) := by decide +kernel
theorem dL_law_202 : decode cL_law 202 = .ok (.ifCond .ne 29, 3) := by decide +kernel
theorem dL_law_205 : decode cL_law 205 = .ok (.aload_n 1, 1) := by decide +kernel
theorem dL_law_206 : decode cL_law 206 = .ok (.invokestatic 227, 3) := by decide +kernel
theorem dL_law_209 : decode cL_law 209 = .ok (.iload 10, 2) := by decide +kernel
theorem dL_law_211 : decode cL_law 211 = .ok (.if_icmp .ne 17, 3) := by decide +kernel
theorem dL_law_214 : decode cL_law 214 = .ok (.aload_n 1, 1) := by decide +kernel
theorem dL_law_215 : decode cL_law 215 = .ok (.invokestatic 235, 3) := by decide +kernel
theorem dL_law_218 : decode cL_law 218 = .ok (.lload 8, 2) := by decide +kernel
theorem dL_law_220 : decode cL_law 220 = .ok (.lcmp, 1) := by decide +kernel
theorem dL_law_221 : decode cL_law 221 = .ok (.ifCond .ne 7, 3) := by decide +kernel
theorem dL_law_224 : decode cL_law 224 = .ok (.iconst 1, 1) := by decide +kernel
theorem dL_law_225 : decode cL_law 225 = .ok (.goto 4, 3) := by decide +kernel
theorem dL_law_228 : decode cL_law 228 = .ok (.iconst 0, 1) := by decide +kernel
theorem dL_law_229 : decode cL_law 229 = .ok (.istore 4, 2) := by decide +kernel
theorem dL_law_231 : decode cL_law 231 = .ok (.iload 4, 2) := by decide +kernel
theorem dL_law_233 : decode cL_law 233 = .ok (.ifCond .eq 36, 3) := by decide +kernel
theorem dL_law_236 : decode cL_law 236 = .ok (.iload 5, 2) := by decide +kernel
theorem dL_law_238 : decode cL_law 238 = .ok (.bipush 20, 2) := by decide +kernel
theorem dL_law_240 : decode cL_law 240 = .ok (.irem, 1) := by decide +kernel
theorem dL_law_241 : decode cL_law 241 = .ok (.bipush 9, 2) := by decide +kernel
theorem dL_law_243 : decode cL_law 243 = .ok (.if_icmp .ne 26, 3) := by decide +kernel
theorem dL_law_246 : decode cL_law 246 = .ok (.aload_n 1, 1) := by decide +kernel
theorem dL_law_247 : decode cL_law 247 = .ok (.invokevirtual 242, 3) := by decide +kernel
theorem dL_law_250 : decode cL_law 250 = .ok (.aload_n 1, 1) := by decide +kernel
theorem dL_law_251 : decode cL_law 251 = .ok (.invokevirtual 189, 3) := by decide +kernel
theorem dL_law_254 : decode cL_law 254 = .ok (.if_icmp .ne 7, 3) := by decide +kernel
theorem dL_law_257 : decode cL_law 257 = .ok (.iconst 1, 1) := by decide +kernel
theorem dL_law_258 : decode cL_law 258 = .ok (.goto 4, 3) := by decide +kernel
theorem dL_law_261 : decode cL_law 261 = .ok (.iconst 0, 1) := by decide +kernel
theorem dL_law_262 : decode cL_law 262 = .ok (.istore 4, 2) := by decide +kernel
theorem dL_law_264 : decode cL_law 264 = .ok (.aload_n 1, 1) := by decide +kernel
theorem dL_law_265 : decode cL_law 265 = .ok (.invokestatic 235, 3) := by decide +kernel
theorem dL_law_268 : decode cL_law 268 = .ok (.lstore_n 2, 1) := by decide +kernel
theorem dL_law_269 : decode cL_law 269 = .ok (.iload 4, 2) := by decide +kernel
theorem dL_law_271 : decode cL_law 271 = .ok (.ifCond .eq 40, 3) := by decide +kernel
theorem dL_law_274 : decode cL_law 274 = .ok (.iload 5, 2) := by decide +kernel
theorem dL_law_276 : decode cL_law 276 = .ok (.bipush 20, 2) := by decide +kernel
theorem dL_law_278 : decode cL_law 278 = .ok (.irem, 1) := by decide +kernel
theorem dL_law_279 : decode cL_law 279 = .ok (.bipush 19, 2) := by decide +kernel
theorem dL_law_281 : decode cL_law 281 = .ok (.if_icmp .ne 30, 3) := by decide +kernel
theorem dL_law_284 : decode cL_law 284 = .ok (.aload_n 1, 1) := by decide +kernel
theorem dL_law_285 : decode cL_law 285 = .ok (.invokestatic 229, 3) := by decide +kernel
theorem dL_law_288 : decode cL_law 288 = .ok (.aload_n 1, 1) := by decide +kernel
theorem dL_law_289 : decode cL_law 289 = .ok (.invokevirtual 189, 3) := by decide +kernel
theorem dL_law_292 : decode cL_law 292 = .ok (.if_icmp .ne 16, 3) := by decide +kernel
theorem dL_law_295 : decode cL_law 295 = .ok (.aload_n 1, 1) := by decide +kernel
theorem dL_law_296 : decode cL_law 296 = .ok (.invokestatic 235, 3) := by decide +kernel
theorem dL_law_299 : decode cL_law 299 = .ok (.lload_n 2, 1) := by decide +kernel
theorem dL_law_300 : decode cL_law 300 = .ok (.lcmp, 1) := by decide +kernel
theorem dL_law_301 : decode cL_law 301 = .ok (.ifCond .ne 7, 3) := by decide +kernel
theorem dL_law_304 : decode cL_law 304 = .ok (.iconst 1, 1) := by decide +kernel
theorem dL_law_305 : decode cL_law 305 = .ok (.goto 4, 3) := by decide +kernel
theorem dL_law_308 : decode cL_law 308 = .ok (.iconst 0, 1) := by decide +kernel
theorem dL_law_309 : decode cL_law 309 = .ok (.istore 4, 2) := by decide +kernel
theorem dL_law_311 : decode cL_law 311 = .ok (.iload 4, 2) := by decide +kernel
theorem dL_law_313 : decode cL_law 313 = .ok (.ifCond .eq 47, 3) := by decide +kernel
theorem dL_law_316 : decode cL_law 316 = .ok (.iload 5, 2) := by decide +kernel
theorem dL_law_318 : decode cL_law 318 = .ok (.bipush 9, 2) := by decide +kernel
theorem dL_law_320 : decode cL_law 320 = .ok (.irem, 1) := by decide +kernel
theorem dL_law_321 : decode cL_law 321 = .ok (.bipush 8, 2) := by decide +kernel
theorem dL_law_323 : decode cL_law 323 = .ok (.if_icmp .ne 37, 3) := by decide +kernel
theorem dL_law_326 : decode cL_law 326 = .ok (.aload_n 1, 1) := by decide +kernel
theorem dL_law_327 : decode cL_law 327 = .ok (.invokevirtual 162, 3) := by decide +kernel
theorem dL_law_330 : decode cL_law 330 = .ok (.istore 12, 2) := by decide +kernel
theorem dL_law_332 : decode cL_law 332 = .ok (.aload_n 1, 1) := by decide +kernel
theorem dL_law_333 : decode cL_law 333 = .ok (.invokestatic 227, 3) := by decide +kernel
theorem dL_law_336 : decode cL_law 336 = .ok (.iload 12, 2) := by decide +kernel
theorem dL_law_338 : decode cL_law 338 = .ok (.ifCond .ne 8, 3) := by decide +kernel
theorem dL_law_341 : decode cL_law 341 = .ok (.bipush (-103), 2) := by decide +kernel
theorem dL_law_343 : decode cL_law 343 = .ok (.goto 7, 3) := by decide +kernel
theorem dL_law_346 : decode cL_law 346 = .ok (.iload 12, 2) := by decide +kernel
theorem dL_law_348 : decode cL_law 348 = .ok (.iconst 1, 1) := by decide +kernel
theorem dL_law_349 : decode cL_law 349 = .ok (.isub, 1) := by decide +kernel
theorem dL_law_350 : decode cL_law 350 = .ok (.if_icmp .ne 7, 3) := by decide +kernel
theorem dL_law_353 : decode cL_law 353 = .ok (.iconst 1, 1) := by decide +kernel
theorem dL_law_354 : decode cL_law 354 = .ok (.goto 4, 3) := by decide +kernel
theorem dL_law_357 : decode cL_law 357 = .ok (.iconst 0, 1) := by decide +kernel
theorem dL_law_358 : decode cL_law 358 = .ok (.istore 4, 2) := by decide +kernel
theorem dL_law_360 : decode cL_law 360 = .ok (.iinc 5 1, 3) := by decide +kernel
theorem dL_law_363 : decode cL_law 363 = .ok (.goto (-317), 3) := by decide +kernel
theorem dL_law_366 : decode cL_law 366 = .ok (.iload 4, 2) := by decide +kernel
theorem dL_law_368 : decode cL_law 368 = .ok (.ifCond .eq 15, 3) := by decide +kernel
theorem dL_law_371 : decode cL_law 371 = .ok (.aload_n 1, 1) := by decide +kernel
theorem dL_law_372 : decode cL_law 372 = .ok (.iconst 5, 1) := by decide +kernel
theorem dL_law_373 : decode cL_law 373 = .ok (.invokestatic 223, 3) := by decide +kernel
theorem dL_law_376 : decode cL_law 376 = .ok (.ifCond .eq 7, 3) := by decide +kernel
theorem dL_law_379 : decode cL_law 379 = .ok (.iconst 1, 1) := by decide +kernel
theorem dL_law_380 : decode cL_law 380 = .ok (.goto 4, 3) := by decide +kernel
theorem dL_law_383 : decode cL_law 383 = .ok (.iconst 0, 1) := by decide +kernel
theorem dL_law_384 : decode cL_law 384 = .ok (.ireturn, 1) := by decide +kernel
