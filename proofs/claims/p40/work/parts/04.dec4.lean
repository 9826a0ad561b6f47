theorem dL_law_351 : decode cL_law 351 = .ok (.iload 15, 2) := by decide +kernel
theorem dL_law_353 : decode cL_law 353 = .ok (.iconst 1, 1) := by decide +kernel
theorem dL_law_354 : decode cL_law 354 = .ok (.if_icmp .gt 95, 3) := by decide +kernel
theorem dL_law_357 : decode cL_law 357 = .ok (.aload_n 1, 1) := by decide +kernel
theorem dL_law_358 : decode cL_law 358 = .ok (.iload 14, 2) := by decide +kernel
theorem dL_law_360 : decode cL_law 360 = .ok (.invokevirtual 226, 3) := by decide +kernel
theorem dL_law_363 : decode cL_law 363 = .ok (.aload_n 1, 1) := by decide +kernel
theorem dL_law_364 : decode cL_law 364 = .ok (.iload 14, 2) := by decide +kernel
theorem dL_law_366 : decode cL_law 366 = .ok (.invokevirtual 217, 3) := by decide +kernel
theorem dL_law_369 : decode cL_law 369 = .ok (.ifCond .eq 40, 3) := by decide +kernel
theorem dL_law_372 : decode cL_law 372 = .ok (.aload_n 1, 1) := by decide +kernel
theorem dL_law_373 : decode cL_law 373 = .ok (.invokevirtual 207, 3) := by decide +kernel
theorem dL_law_376 : decode cL_law 376 = .ok (.aload 16, 2) := by decide +kernel
theorem dL_law_378 : decode cL_law 378 = .ok (.getfield 90, 3) := by decide +kernel
theorem dL_law_381 : decode cL_law 381 = .ok (.if_icmp .lt 28, 3) := by decide +kernel
theorem dL_law_384 : decode cL_law 384 = .ok (.aload_n 1, 1) := by decide +kernel
theorem dL_law_385 : decode cL_law 385 = .ok (.invokevirtual 207, 3) := by decide +kernel
theorem dL_law_388 : decode cL_law 388 = .ok (.aload 16, 2) := by decide +kernel
theorem dL_law_390 : decode cL_law 390 = .ok (.getfield 93, 3) := by decide +kernel
theorem dL_law_393 : decode cL_law 393 = .ok (.if_icmp .gt 16, 3) := by decide +kernel
theorem dL_law_396 : decode cL_law 396 = .ok (.aload_n 1, 1) := by decide +kernel
theorem dL_law_397 : decode cL_law 397 = .ok (.invokevirtual 205, 3) := by decide +kernel
theorem dL_law_400 : decode cL_law 400 = .ok (.bipush 14, 2) := by decide +kernel
theorem dL_law_402 : decode cL_law 402 = .ok (.if_icmp .le 7, 3) := by decide +kernel
theorem dL_law_405 : decode cL_law 405 = .ok (.iconst 1, 1) := by decide +kernel
theorem dL_law_406 : decode cL_law 406 = .ok (.goto 4, 3) := by decide +kernel
theorem dL_law_409 : decode cL_law 409 = .ok (.iconst 0, 1) := by decide +kernel
theorem dL_law_410 : decode cL_law 410 = .ok (.if_icmp .ne 39, 3) := by decide +kernel
theorem dL_law_413 : decode cL_law 413 = .ok (.aload_n 1, 1) := by decide +kernel
theorem dL_law_414 : decode cL_law 414 = .ok (.iload 14, 2) := by decide +kernel
theorem dL_law_416 : decode cL_law 416 = .ok (.invokevirtual 217, 3) := by decide +kernel
theorem dL_law_419 : decode cL_law 419 = .ok (.ifCond .eq 32, 3) := by decide +kernel
theorem dL_law_422 : decode cL_law 422 = .ok (.aload_n 1, 1) := by decide +kernel
theorem dL_law_423 : decode cL_law 423 = .ok (.invokevirtual 229, 3) := by decide +kernel
theorem dL_law_426 : decode cL_law 426 = .ok (.aload 16, 2) := by decide +kernel
theorem dL_law_428 : decode cL_law 428 = .ok (.getfield 89, 3) := by decide +kernel
theorem dL_law_431 : decode cL_law 431 = .ok (.if_icmp .lt 18, 3) := by decide +kernel
theorem dL_law_434 : decode cL_law 434 = .ok (.aload_n 1, 1) := by decide +kernel
theorem dL_law_435 : decode cL_law 435 = .ok (.invokevirtual 229, 3) := by decide +kernel
theorem dL_law_438 : decode cL_law 438 = .ok (.aload 16, 2) := by decide +kernel
theorem dL_law_440 : decode cL_law 440 = .ok (.getfield 89, 3) := by decide +kernel
theorem dL_law_443 : decode cL_law 443 = .ok (.bipush 8, 2) := by decide +kernel
theorem dL_law_445 : decode cL_law 445 = .ok (.iadd, 1) := by decide +kernel
theorem dL_law_446 : decode cL_law 446 = .ok (.if_icmp .lt 5, 3) := by decide +kernel
theorem dL_law_449 : decode cL_law 449 = .ok (.iconst 0, 1) := by decide +kernel
theorem dL_law_450 : decode cL_law 450 = .ok (.ireturn, 1) := by decide +kernel
theorem dL_law_451 : decode cL_law 451 = .ok (.iinc 14 1, 3) := by decide +kernel
theorem dL_law_454 : decode cL_law 454 = .ok (.goto (-223), 3) := by decide +kernel
theorem dL_law_457 : decode cL_law 457 = .ok (.iload 11, 2) := by decide +kernel
theorem dL_law_459 : decode cL_law 459 = .ok (.aload_n 1, 1) := by decide +kernel
theorem dL_law_460 : decode cL_law 460 = .ok (.invokevirtual 232, 3) := by decide +kernel
theorem dL_law_463 : decode cL_law 463 = .ok (.if_icmp .ne 21, 3) := by decide +kernel
theorem dL_law_466 : decode cL_law 466 = .ok (.iload 12, 2) := by decide +kernel
theorem dL_law_468 : decode cL_law 468 = .ok (.aload_n 1, 1) := by decide +kernel
theorem dL_law_469 : decode cL_law 469 = .ok (.invokevirtual 235, 3) := by decide +kernel
theorem dL_law_472 : decode cL_law 472 = .ok (.if_icmp .ne 12, 3) := by decide +kernel
theorem dL_law_475 : decode cL_law 475 = .ok (.iload 13, 2) := by decide +kernel
theorem dL_law_477 : decode cL_law 477 = .ok (.aload_n 1, 1) := by decide +kernel
theorem dL_law_478 : decode cL_law 478 = .ok (.invokevirtual 238, 3) := by decide +kernel
theorem dL_law_481 : decode cL_law 481 = .ok (.if_icmp .eq 5, 3) := by decide +kernel
theorem dL_law_484 : decode cL_law 484 = .ok (.iconst 0, 1) := by decide +kernel
theorem dL_law_485 : decode cL_law 485 = .ok (.ireturn, 1) := by decide +kernel
theorem dL_law_486 : decode cL_law 486 = .ok (.aload_n 1, 1) := by decide +kernel
theorem dL_law_487 : decode cL_law 487 = .ok (.invokevirtual 241, 3) := by decide +kernel
theorem dL_law_490 : decode cL_law 490 = .ok (.istore 14, 2) := by decide +kernel
theorem dL_law_492 : decode cL_law 492 = .ok (.iconst (-1), 1) := by decide +kernel
theorem dL_law_493 : decode cL_law 493 = .ok (.istore 15, 2) := by decide +kernel
theorem dL_law_495 : decode cL_law 495 = .ok (.iconst 0, 1) := by decide +kernel
theorem dL_law_496 : decode cL_law 496 = .ok (.istore 16, 2) := by decide +kernel
theorem dL_law_498 : decode cL_law 498 = .ok (.iload 16, 2) := by decide +kernel
theorem dL_law_500 : decode cL_law 500 = .ok (.iload 6, 2) := by decide +kernel
theorem dL_law_502 : decode cL_law 502 = .ok (.if_icmp .ge 211, 3) := by decide +kernel
theorem dL_law_505 : decode cL_law 505 = .ok (.aload_n 1, 1) := by decide +kernel
theorem dL_law_506 : decode cL_law 506 = .ok (.iload 16, 2) := by decide +kernel
theorem dL_law_508 : decode cL_law 508 = .ok (.invokevirtual 244, 3) := by decide +kernel
theorem dL_law_511 : decode cL_law 511 = .ok (.ifCond .eq 62, 3) := by decide +kernel
theorem dL_law_514 : decode cL_law 514 = .ok (.aload_n 1, 1) := by decide +kernel
theorem dL_law_515 : decode cL_law 515 = .ok (.iload 16, 2) := by decide +kernel
theorem dL_law_517 : decode cL_law 517 = .ok (.invokevirtual 247, 3) := by decide +kernel
theorem dL_law_520 : decode cL_law 520 = .ok (.ifCond .ne 51, 3) := by decide +kernel
theorem dL_law_523 : decode cL_law 523 = .ok (.aload_n 1, 1) := by decide +kernel
theorem dL_law_524 : decode cL_law 524 = .ok (.invokevirtual 229, 3) := by decide +kernel
theorem dL_law_527 : decode cL_law 527 = .ok (.aload 5, 2) := by decide +kernel
theorem dL_law_529 : decode cL_law 529 = .ok (.getfield 42, 3) := by decide +kernel
theorem dL_law_532 : decode cL_law 532 = .ok (.iload 16, 2) := by decide +kernel
theorem dL_law_534 : decode cL_law 534 = .ok (.aaload, 1) := by decide +kernel
theorem dL_law_535 : decode cL_law 535 = .ok (.getfield 61, 3) := by decide +kernel
theorem dL_law_538 : decode cL_law 538 = .ok (.if_icmp .lt 33, 3) := by decide +kernel
theorem dL_law_541 : decode cL_law 541 = .ok (.aload_n 1, 1) := by decide +kernel
theorem dL_law_542 : decode cL_law 542 = .ok (.invokevirtual 229, 3) := by decide +kernel
theorem dL_law_545 : decode cL_law 545 = .ok (.aload 5, 2) := by decide +kernel
theorem dL_law_547 : decode cL_law 547 = .ok (.getfield 42, 3) := by decide +kernel
theorem dL_law_550 : decode cL_law 550 = .ok (.iload 16, 2) := by decide +kernel
theorem dL_law_552 : decode cL_law 552 = .ok (.aaload, 1) := by decide +kernel
theorem dL_law_553 : decode cL_law 553 = .ok (.getfield 61, 3) := by decide +kernel
theorem dL_law_556 : decode cL_law 556 = .ok (.aload 5, 2) := by decide +kernel
theorem dL_law_558 : decode cL_law 558 = .ok (.getfield 42, 3) := by decide +kernel
theorem dL_law_561 : decode cL_law 561 = .ok (.iload 16, 2) := by decide +kernel
theorem dL_law_563 : decode cL_law 563 = .ok (.aaload, 1) := by decide +kernel
theorem dL_law_564 : decode cL_law 564 = .ok (.getfield 64, 3) := by decide +kernel
theorem dL_law_567 : decode cL_law 567 = .ok (.iadd, 1) := by decide +kernel
theorem dL_law_568 : decode cL_law 568 = .ok (.if_icmp .lt 5, 3) := by decide +kernel
theorem dL_law_571 : decode cL_law 571 = .ok (.iconst 0, 1) := by decide +kernel
theorem dL_law_572 : decode cL_law 572 = .ok (.ireturn, 1) := by decide +kernel
theorem dL_law_573 : decode cL_law 573 = .ok (.aload_n 1, 1) := by decide +kernel
theorem dL_law_574 : decode cL_law 574 = .ok (.iload 16, 2) := by decide +kernel
theorem dL_law_576 : decode cL_law 576 = .ok (.invokevirtual 244, 3) := by decide +kernel
theorem dL_law_579 : decode cL_law 579 = .ok (.ifCond .ne 6, 3) := by decide +kernel
theorem dL_law_582 : decode cL_law 582 = .ok (.goto 125, 3) := by decide +kernel
theorem dL_law_585 : decode cL_law 585 = .ok (.bipush 30, 2) := by decide +kernel
theorem dL_law_587 : decode cL_law 587 = .ok (.aload_n 1, 1) := by decide +kernel
theorem dL_law_588 : decode cL_law 588 = .ok (.invokevirtual 207, 3) := by decide +kernel
theorem dL_law_591 : decode cL_law 591 = .ok (.aload_n 1, 1) := by decide +kernel
theorem dL_law_592 : decode cL_law 592 = .ok (.iload 16, 2) := by decide +kernel
theorem dL_law_594 : decode cL_law 594 = .ok (.invokevirtual 248, 3) := by decide +kernel
theorem dL_law_597 : decode cL_law 597 = .ok (.iadd, 1) := by decide +kernel
theorem dL_law_598 : decode cL_law 598 = .ok (.invokestatic 251, 3) := by decide +kernel
theorem dL_law_601 : decode cL_law 601 = .ok (.istore 17, 2) := by decide +kernel
theorem dL_law_603 : decode cL_law 603 = .ok (.iconst 0, 1) := by decide +kernel
theorem dL_law_604 : decode cL_law 604 = .ok (.istore 18, 2) := by decide +kernel
theorem dL_law_606 : decode cL_law 606 = .ok (.aload 5, 2) := by decide +kernel
theorem dL_law_608 : decode cL_law 608 = .ok (.getfield 48, 3) := by decide +kernel
theorem dL_law_611 : decode cL_law 611 = .ok (.astore 19, 2) := by decide +kernel
theorem dL_law_613 : decode cL_law 613 = .ok (.aload 19, 2) := by decide +kernel
theorem dL_law_615 : decode cL_law 615 = .ok (.arraylength, 1) := by decide +kernel
theorem dL_law_616 : decode cL_law 616 = .ok (.istore 20, 2) := by decide +kernel
theorem dL_law_618 : decode cL_law 618 = .ok (.iconst 0, 1) := by decide +kernel
theorem dL_law_619 : decode cL_law 619 = .ok (.istore 21, 2) := by decide +kernel
theorem dL_law_621 : decode cL_law 621 = .ok (.iload 21, 2) := by decide +kernel
theorem dL_law_623 : decode cL_law 623 = .ok (.iload 20, 2) := by decide +kernel
theorem dL_law_625 : decode cL_law 625 = .ok (.if_icmp .ge 38, 3) := by decide +kernel
theorem dL_law_628 : decode cL_law 628 = .ok (.aload 19, 2) := by decide +kernel
theorem dL_law_630 : decode cL_law 630 = .ok (.iload 21, 2) := by decide +kernel
theorem dL_law_632 : decode cL_law 632 = .ok (.aaload, 1) := by decide +kernel
theorem dL_law_633 : decode cL_law 633 = .ok (.astore 22, 2) := by decide +kernel
theorem dL_law_635 : decode cL_law 635 = .ok (.iload 18, 2) := by decide +kernel
theorem dL_law_637 : decode cL_law 637 = .ok (.aload 5, 2) := by decide +kernel
theorem dL_law_639 : decode cL_law 639 = .ok (.aload 22, 2) := by decide +kernel
theorem dL_law_641 : decode cL_law 641 = .ok (.iload 17, 2) := by decide +kernel
theorem dL_law_643 : decode cL_law 643 = .ok (.invokevirtual 257, 3) := by decide +kernel
theorem dL_law_646 : decode cL_law 646 = .ok (.ifCond .eq 7, 3) := by decide +kernel
theorem dL_law_649 : decode cL_law 649 = .ok (.iconst 1, 1) := by decide +kernel
theorem dL_law_650 : decode cL_law 650 = .ok (.goto 4, 3) := by decide +kernel
theorem dL_law_653 : decode cL_law 653 = .ok (.iconst 0, 1) := by decide +kernel
theorem dL_law_654 : decode cL_law 654 = .ok (.iadd, 1) := by decide +kernel
theorem dL_law_655 : decode cL_law 655 = .ok (.istore 18, 2) := by decide +kernel
theorem dL_law_657 : decode cL_law 657 = .ok (.iinc 21 1, 3) := by decide +kernel
theorem dL_law_660 : decode cL_law 660 = .ok (.goto (-39), 3) := by decide +kernel
theorem dL_law_663 : decode cL_law 663 = .ok (.iload 14, 2) := by decide +kernel
theorem dL_law_665 : decode cL_law 665 = .ok (.ifCond .lt 31, 3) := by decide +kernel
theorem dL_law_668 : decode cL_law 668 = .ok (.iload 16, 2) := by decide +kernel
theorem dL_law_670 : decode cL_law 670 = .ok (.iload 14, 2) := by decide +kernel
theorem dL_law_672 : decode cL_law 672 = .ok (.if_icmp .ne 10, 3) := by decide +kernel
theorem dL_law_675 : decode cL_law 675 = .ok (.iload 18, 2) := by decide +kernel
theorem dL_law_677 : decode cL_law 677 = .ok (.iload 15, 2) := by decide +kernel
theorem dL_law_679 : decode cL_law 679 = .ok (.if_icmp .le 17, 3) := by decide +kernel
theorem dL_law_682 : decode cL_law 682 = .ok (.iload 16, 2) := by decide +kernel
theorem dL_law_684 : decode cL_law 684 = .ok (.iload 14, 2) := by decide +kernel
theorem dL_law_686 : decode cL_law 686 = .ok (.if_icmp .le 12, 3) := by decide +kernel
theorem dL_law_689 : decode cL_law 689 = .ok (.iload 18, 2) := by decide +kernel
theorem dL_law_691 : decode cL_law 691 = .ok (.iload 15, 2) := by decide +kernel
theorem dL_law_693 : decode cL_law 693 = .ok (.if_icmp .le 5, 3) := by decide +kernel
theorem dL_law_696 : decode cL_law 696 = .ok (.iconst 0, 1) := by decide +kernel
theorem dL_law_697 : decode cL_law 697 = .ok (.ireturn, 1) := by decide +kernel
theorem dL_law_698 : decode cL_law 698 = .ok (.iload 15, 2) := by decide +kernel
theorem dL_law_700 : decode cL_law 700 = .ok (.iload 18, 2) := by decide +kernel
theorem dL_law_702 : decode cL_law 702 = .ok (.invokestatic 261, 3) := by decide +kernel
theorem dL_law_705 : decode cL_law 705 = .ok (.istore 15, 2) := by decide +kernel
theorem dL_law_707 : decode cL_law 707 = .ok (.iinc 16 1, 3) := by decide +kernel
theorem dL_law_710 : decode cL_law 710 = .ok (.goto (-212), 3) := by decide +kernel
theorem dL_law_713 : decode cL_law 713 = .ok (.iload 14, 2) := by decide +kernel
theorem dL_law_715 : decode cL_law 715 = .ok (.ifCond .lt 14, 3) := by decide +kernel
theorem dL_law_718 : decode cL_law 718 = .ok (.aload_n 1, 1) := by decide +kernel
theorem dL_law_719 : decode cL_law 719 = .ok (.iload 14, 2) := by decide +kernel
theorem dL_law_721 : decode cL_law 721 = .ok (.invokevirtual 244, 3) := by decide +kernel
theorem dL_law_724 : decode cL_law 724 = .ok (.ifCond .ne 5, 3) := by decide +kernel
theorem dL_law_727 : decode cL_law 727 = .ok (.iconst 0, 1) := by decide +kernel
theorem dL_law_728 : decode cL_law 728 = .ok (.ireturn, 1) := by decide +kernel
theorem dL_law_729 : decode cL_law 729 = .ok (.iconst 1, 1) := by decide +kernel
theorem dL_law_730 : decode cL_law 730 = .ok (.aload_n 3, 1) := by decide +kernel
theorem dL_law_731 : decode cL_law 731 = .ok (.bipush 6, 2) := by decide +kernel
theorem dL_law_733 : decode cL_law 733 = .ok (.invokevirtual 35, 3) := by decide +kernel
theorem dL_law_736 : decode cL_law 736 = .ok (.iadd, 1) := by decide +kernel
theorem dL_law_737 : decode cL_law 737 = .ok (.istore 16, 2) := by decide +kernel
theorem dL_law_739 : decode cL_law 739 = .ok (.aload_n 1, 1) := by decide +kernel
theorem dL_law_740 : decode cL_law 740 = .ok (.iload 16, 2) := by decide +kernel
theorem dL_law_742 : decode cL_law 742 = .ok (.invokevirtual 264, 3) := by decide +kernel
theorem dL_law_745 : decode cL_law 745 = .ok (.istore 17, 2) := by decide +kernel
theorem dL_law_747 : decode cL_law 747 = .ok (.aload_n 1, 1) := by decide +kernel
theorem dL_law_748 : decode cL_law 748 = .ok (.invokevirtual 267, 3) := by decide +kernel
theorem dL_law_751 : decode cL_law 751 = .ok (.istore 18, 2) := by decide +kernel
theorem dL_law_753 : decode cL_law 753 = .ok (.iload 7, 2) := by decide +kernel
theorem dL_law_755 : decode cL_law 755 = .ok (.ifCond .ne 7, 3) := by decide +kernel
theorem dL_law_758 : decode cL_law 758 = .ok (.iconst (-1), 1) := by decide +kernel
theorem dL_law_759 : decode cL_law 759 = .ok (.goto 9, 3) := by decide +kernel
theorem dL_law_762 : decode cL_law 762 = .ok (.aload_n 3, 1) := by decide +kernel
theorem dL_law_763 : decode cL_law 763 = .ok (.iload 7, 2) := by decide +kernel
theorem dL_law_765 : decode cL_law 765 = .ok (.invokevirtual 35, 3) := by decide +kernel
theorem dL_law_768 : decode cL_law 768 = .ok (.istore 19, 2) := by decide +kernel
theorem dL_law_770 : decode cL_law 770 = .ok (.iload 19, 2) := by decide +kernel
theorem dL_law_772 : decode cL_law 772 = .ok (.ifCond .ge 7, 3) := by decide +kernel
theorem dL_law_775 : decode cL_law 775 = .ok (.iconst (-1), 1) := by decide +kernel
theorem dL_law_776 : decode cL_law 776 = .ok (.goto 9, 3) := by decide +kernel
theorem dL_law_779 : decode cL_law 779 = .ok (.aload_n 1, 1) := by decide +kernel
theorem dL_law_780 : decode cL_law 780 = .ok (.iload 19, 2) := by decide +kernel
theorem dL_law_782 : decode cL_law 782 = .ok (.invokevirtual 270, 3) := by decide +kernel
theorem dL_law_785 : decode cL_law 785 = .ok (.istore 20, 2) := by decide +kernel
theorem dL_law_787 : decode cL_law 787 = .ok (.aload_n 1, 1) := by decide +kernel
theorem dL_law_788 : decode cL_law 788 = .ok (.invokevirtual 201, 3) := by decide +kernel
theorem dL_law_791 : decode cL_law 791 = .ok (.lload 9, 2) := by decide +kernel
theorem dL_law_793 : decode cL_law 793 = .ok (.lcmp, 1) := by decide +kernel
theorem dL_law_794 : decode cL_law 794 = .ok (.ifCond .ne 46, 3) := by decide +kernel
theorem dL_law_797 : decode cL_law 797 = .ok (.iload 18, 2) := by decide +kernel
theorem dL_law_799 : decode cL_law 799 = .ok (.ifCond .eq 41, 3) := by decide +kernel
theorem dL_law_802 : decode cL_law 802 = .ok (.iload 18, 2) := by decide +kernel
theorem dL_law_804 : decode cL_law 804 = .ok (.bipush 60, 2) := by decide +kernel
theorem dL_law_806 : decode cL_law 806 = .ok (.if_icmp .gt 34, 3) := by decide +kernel
theorem dL_law_809 : decode cL_law 809 = .ok (.iload 20, 2) := by decide +kernel
theorem dL_law_811 : decode cL_law 811 = .ok (.bipush 60, 2) := by decide +kernel
theorem dL_law_813 : decode cL_law 813 = .ok (.if_icmp .gt 27, 3) := by decide +kernel
theorem dL_law_816 : decode cL_law 816 = .ok (.iload 19, 2) := by decide +kernel
theorem dL_law_818 : decode cL_law 818 = .ok (.ifCond .lt 24, 3) := by decide +kernel
theorem dL_law_821 : decode cL_law 821 = .ok (.iload 20, 2) := by decide +kernel
theorem dL_law_823 : decode cL_law 823 = .ok (.ifCond .ne 7, 3) := by decide +kernel
theorem dL_law_826 : decode cL_law 826 = .ok (.iconst 1, 1) := by decide +kernel
theorem dL_law_827 : decode cL_law 827 = .ok (.goto 4, 3) := by decide +kernel
theorem dL_law_830 : decode cL_law 830 = .ok (.iconst 0, 1) := by decide +kernel
theorem dL_law_831 : decode cL_law 831 = .ok (.aload_n 1, 1) := by decide +kernel
theorem dL_law_832 : decode cL_law 832 = .ok (.iload 19, 2) := by decide +kernel
theorem dL_law_834 : decode cL_law 834 = .ok (.invokevirtual 220, 3) := by decide +kernel
theorem dL_law_837 : decode cL_law 837 = .ok (.if_icmp .eq 5, 3) := by decide +kernel
theorem dL_law_840 : decode cL_law 840 = .ok (.iconst 0, 1) := by decide +kernel
theorem dL_law_841 : decode cL_law 841 = .ok (.ireturn, 1) := by decide +kernel
theorem dL_law_842 : decode cL_law 842 = .ok (.iload 20, 2) := by decide +kernel
theorem dL_law_844 : decode cL_law 844 = .ok (.ifCond .ne 7, 3) := by decide +kernel
theorem dL_law_847 : decode cL_law 847 = .ok (.iconst 1, 1) := by decide +kernel
theorem dL_law_848 : decode cL_law 848 = .ok (.goto 4, 3) := by decide +kernel
theorem dL_law_851 : decode cL_law 851 = .ok (.iconst 0, 1) := by decide +kernel
theorem dL_law_852 : decode cL_law 852 = .ok (.istore 21, 2) := by decide +kernel
theorem dL_law_854 : decode cL_law 854 = .ok (.iconst 0, 1) := by decide +kernel
theorem dL_law_855 : decode cL_law 855 = .ok (.istore 22, 2) := by decide +kernel
theorem dL_law_857 : decode cL_law 857 = .ok (.iconst 1, 1) := by decide +kernel
theorem dL_law_858 : decode cL_law 858 = .ok (.istore 23, 2) := by decide +kernel
theorem dL_law_860 : decode cL_law 860 = .ok (.iload 23, 2) := by decide +kernel
theorem dL_law_862 : decode cL_law 862 = .ok (.iload 16, 2) := by decide +kernel
theorem dL_law_864 : decode cL_law 864 = .ok (.if_icmp .gt 483, 3) := by decide +kernel
theorem dL_law_867 : decode cL_law 867 = .ok (.aload_n 1, 1) := by decide +kernel
theorem dL_law_868 : decode cL_law 868 = .ok (.invokevirtual 273, 3) := by decide +kernel
theorem dL_law_871 : decode cL_law 871 = .ok (.istore 24, 2) := by decide +kernel
theorem dL_law_873 : decode cL_law 873 = .ok (.aload_n 1, 1) := by decide +kernel
theorem dL_law_874 : decode cL_law 874 = .ok (.invokevirtual 276, 3) := by decide +kernel
theorem dL_law_877 : decode cL_law 877 = .ok (.istore 25, 2) := by decide +kernel
theorem dL_law_879 : decode cL_law 879 = .ok (.iload 7, 2) := by decide +kernel
theorem dL_law_881 : decode cL_law 881 = .ok (.newarray .boolean, 2) := by decide +kernel
theorem dL_law_883 : decode cL_law 883 = .ok (.astore 26, 2) := by decide +kernel
theorem dL_law_885 : decode cL_law 885 = .ok (.iload 7, 2) := by decide +kernel
theorem dL_law_887 : decode cL_law 887 = .ok (.newarray .boolean, 2) := by decide +kernel
theorem dL_law_889 : decode cL_law 889 = .ok (.astore 27, 2) := by decide +kernel
theorem dL_law_891 : decode cL_law 891 = .ok (.iload 7, 2) := by decide +kernel
theorem dL_law_893 : decode cL_law 893 = .ok (.newarray .boolean, 2) := by decide +kernel
theorem dL_law_895 : decode cL_law 895 = .ok (.astore 28, 2) := by decide +kernel
theorem dL_law_897 : decode cL_law 897 = .ok (.iconst 0, 1) := by decide +kernel
theorem dL_law_898 : decode cL_law 898 = .ok (.istore 29, 2) := by decide +kernel
theorem dL_law_900 : decode cL_law 900 = .ok (.iload 29, 2) := by decide +kernel
theorem dL_law_902 : decode cL_law 902 = .ok (.iload 7, 2) := by decide +kernel
theorem dL_law_904 : decode cL_law 904 = .ok (.if_icmp .ge 42, 3) := by decide +kernel
theorem dL_law_907 : decode cL_law 907 = .ok (.aload 26, 2) := by decide +kernel
theorem dL_law_909 : decode cL_law 909 = .ok (.iload 29, 2) := by decide +kernel
theorem dL_law_911 : decode cL_law 911 = .ok (.aload_n 1, 1) := by decide +kernel
theorem dL_law_912 : decode cL_law 912 = .ok (.iload 29, 2) := by decide +kernel
theorem dL_law_914 : decode cL_law 914 = .ok (.invokevirtual 217, 3) := by decide +kernel
theorem dL_law_917 : decode cL_law 917 = .ok (.bastore, 1) := by decide +kernel
theorem dL_law_918 : decode cL_law 918 = .ok (.aload 27, 2) := by decide +kernel
theorem dL_law_920 : decode cL_law 920 = .ok (.iload 29, 2) := by decide +kernel
theorem dL_law_922 : decode cL_law 922 = .ok (.aload_n 1, 1) := by decide +kernel
theorem dL_law_923 : decode cL_law 923 = .ok (.iload 29, 2) := by decide +kernel
theorem dL_law_925 : decode cL_law 925 = .ok (.invokevirtual 220, 3) := by decide +kernel
theorem dL_law_928 : decode cL_law 928 = .ok (.bastore, 1) := by decide +kernel
theorem dL_law_929 : decode cL_law 929 = .ok (.aload 28, 2) := by decide +kernel
theorem dL_law_931 : decode cL_law 931 = .ok (.iload 29, 2) := by decide +kernel
theorem dL_law_933 : decode cL_law 933 = .ok (.aload_n 1, 1) := by decide +kernel
theorem dL_law_934 : decode cL_law 934 = .ok (.iload 29, 2) := by decide +kernel
theorem dL_law_936 : decode cL_law 936 = .ok (.invokevirtual 223, 3) := by decide +kernel
theorem dL_law_939 : decode cL_law 939 = .ok (.bastore, 1) := by decide +kernel
theorem dL_law_940 : decode cL_law 940 = .ok (.iinc 29 1, 3) := by decide +kernel
theorem dL_law_943 : decode cL_law 943 = .ok (.goto (-43), 3) := by decide +kernel
theorem dL_law_946 : decode cL_law 946 = .ok (.aload_n 1, 1) := by decide +kernel
theorem dL_law_947 : decode cL_law 947 = .ok (.iconst 1, 1) := by decide +kernel
theorem dL_law_948 : decode cL_law 948 = .ok (.invokevirtual 163, 3) := by decide +kernel
theorem dL_law_951 : decode cL_law 951 = .ok (.istore 29, 2) := by decide +kernel
theorem dL_law_953 : decode cL_law 953 = .ok (.iload 29, 2) := by decide +kernel
theorem dL_law_955 : decode cL_law 955 = .ok (.aload 5, 2) := by decide +kernel
theorem dL_law_957 : decode cL_law 957 = .ok (.invokevirtual 279, 3) := by decide +kernel
theorem dL_law_960 : decode cL_law 960 = .ok (.if_icmp .ne 64, 3) := by decide +kernel
theorem dL_law_963 : decode cL_law 963 = .ok (.iload 29, 2) := by decide +kernel
theorem dL_law_965 : decode cL_law 965 = .ok (.iconst 1, 1) := by decide +kernel
theorem dL_law_966 : decode cL_law 966 = .ok (.if_icmp .gt 58, 3) := by decide +kernel
theorem dL_law_969 : decode cL_law 969 = .ok (.iload 29, 2) := by decide +kernel
theorem dL_law_971 : decode cL_law 971 = .ok (.ifCond .lt 53, 3) := by decide +kernel
theorem dL_law_974 : decode cL_law 974 = .ok (.aload_n 1, 1) := by decide +kernel
theorem dL_law_975 : decode cL_law 975 = .ok (.invokevirtual 276, 3) := by decide +kernel
theorem dL_law_978 : decode cL_law 978 = .ok (.iload 25, 2) := by decide +kernel
theorem dL_law_980 : decode cL_law 980 = .ok (.iload 29, 2) := by decide +kernel
theorem dL_law_982 : decode cL_law 982 = .ok (.iadd, 1) := by decide +kernel
theorem dL_law_983 : decode cL_law 983 = .ok (.if_icmp .ne 41, 3) := by decide +kernel
theorem dL_law_986 : decode cL_law 986 = .ok (.iload 29, 2) := by decide +kernel
theorem dL_law_988 : decode cL_law 988 = .ok (.ifCond .ne 12, 3) := by decide +kernel
theorem dL_law_991 : decode cL_law 991 = .ok (.aload_n 1, 1) := by decide +kernel
theorem dL_law_992 : decode cL_law 992 = .ok (.invokevirtual 209, 3) := by decide +kernel
theorem dL_law_995 : decode cL_law 995 = .ok (.bipush 11, 2) := by decide +kernel
theorem dL_law_997 : decode cL_law 997 = .ok (.if_icmp .gt 27, 3) := by decide +kernel
theorem dL_law_1000 : decode cL_law 1000 = .ok (.iload 29, 2) := by decide +kernel
theorem dL_law_1002 : decode cL_law 1002 = .ok (.iconst 1, 1) := by decide +kernel
theorem dL_law_1003 : decode cL_law 1003 = .ok (.if_icmp .ne 12, 3) := by decide +kernel
theorem dL_law_1006 : decode cL_law 1006 = .ok (.aload_n 1, 1) := by decide +kernel
theorem dL_law_1007 : decode cL_law 1007 = .ok (.invokevirtual 207, 3) := by decide +kernel
theorem dL_law_1010 : decode cL_law 1010 = .ok (.bipush 15, 2) := by decide +kernel
theorem dL_law_1012 : decode cL_law 1012 = .ok (.if_icmp .gt 12, 3) := by decide +kernel
theorem dL_law_1015 : decode cL_law 1015 = .ok (.aload_n 1, 1) := by decide +kernel
theorem dL_law_1016 : decode cL_law 1016 = .ok (.invokevirtual 209, 3) := by decide +kernel
theorem dL_law_1019 : decode cL_law 1019 = .ok (.bipush 18, 2) := by decide +kernel
theorem dL_law_1021 : decode cL_law 1021 = .ok (.if_icmp .le 5, 3) := by decide +kernel
theorem dL_law_1024 : decode cL_law 1024 = .ok (.iconst 0, 1) := by decide +kernel
theorem dL_law_1025 : decode cL_law 1025 = .ok (.ireturn, 1) := by decide +kernel
theorem dL_law_1026 : decode cL_law 1026 = .ok (.iconst 0, 1) := by decide +kernel
theorem dL_law_1027 : decode cL_law 1027 = .ok (.istore 30, 2) := by decide +kernel
theorem dL_law_1029 : decode cL_law 1029 = .ok (.iconst 0, 1) := by decide +kernel
theorem dL_law_1030 : decode cL_law 1030 = .ok (.istore 31, 2) := by decide +kernel
theorem dL_law_1032 : decode cL_law 1032 = .ok (.iload 31, 2) := by decide +kernel
theorem dL_law_1034 : decode cL_law 1034 = .ok (.iload 7, 2) := by decide +kernel
theorem dL_law_1036 : decode cL_law 1036 = .ok (.if_icmp .ge 192, 3) := by decide +kernel
theorem dL_law_1039 : decode cL_law 1039 = .ok (.iload 30, 2) := by decide +kernel
theorem dL_law_1041 : decode cL_law 1041 = .ok (.aload_n 1, 1) := by decide +kernel
theorem dL_law_1042 : decode cL_law 1042 = .ok (.iload 31, 2) := by decide +kernel
theorem dL_law_1044 : decode cL_law 1044 = .ok (.invokevirtual 220, 3) := by decide +kernel
theorem dL_law_1047 : decode cL_law 1047 = .ok (.ifCond .eq 15, 3) := by decide +kernel
theorem dL_law_1050 : decode cL_law 1050 = .ok (.aload 27, 2) := by decide +kernel
theorem dL_law_1052 : decode cL_law 1052 = .ok (.iload 31, 2) := by decide +kernel
theorem dL_law_1054 : decode cL_law 1054 = .ok (.baload, 1) := by decide +kernel
theorem dL_law_1055 : decode cL_law 1055 = .ok (.ifCond .ne 7, 3) := by decide +kernel
theorem dL_law_1058 : decode cL_law 1058 = .ok (.iconst 1, 1) := by decide +kernel
theorem dL_law_1059 : decode cL_law 1059 = .ok (.goto 4, 3) := by decide +kernel
theorem dL_law_1062 : decode cL_law 1062 = .ok (.iconst 0, 1) := by decide +kernel
theorem dL_law_1063 : decode cL_law 1063 = .ok (.iadd, 1) := by decide +kernel
theorem dL_law_1064 : decode cL_law 1064 = .ok (.istore 30, 2) := by decide +kernel
theorem dL_law_1066 : decode cL_law 1066 = .ok (.aload 27, 2) := by decide +kernel
theorem dL_law_1068 : decode cL_law 1068 = .ok (.iload 31, 2) := by decide +kernel
theorem dL_law_1070 : decode cL_law 1070 = .ok (.baload, 1) := by decide +kernel
theorem dL_law_1071 : decode cL_law 1071 = .ok (.ifCond .eq 12, 3) := by decide +kernel
theorem dL_law_1074 : decode cL_law 1074 = .ok (.aload_n 1, 1) := by decide +kernel
theorem dL_law_1075 : decode cL_law 1075 = .ok (.iload 31, 2) := by decide +kernel
theorem dL_law_1077 : decode cL_law 1077 = .ok (.invokevirtual 220, 3) := by decide +kernel
theorem dL_law_1080 : decode cL_law 1080 = .ok (.ifCond .eq 140, 3) := by decide +kernel
theorem dL_law_1083 : decode cL_law 1083 = .ok (.aload 28, 2) := by decide +kernel
theorem dL_law_1085 : decode cL_law 1085 = .ok (.iload 31, 2) := by decide +kernel
theorem dL_law_1087 : decode cL_law 1087 = .ok (.baload, 1) := by decide +kernel
theorem dL_law_1088 : decode cL_law 1088 = .ok (.ifCond .eq 12, 3) := by decide +kernel
theorem dL_law_1091 : decode cL_law 1091 = .ok (.aload_n 1, 1) := by decide +kernel
theorem dL_law_1092 : decode cL_law 1092 = .ok (.iload 31, 2) := by decide +kernel
theorem dL_law_1094 : decode cL_law 1094 = .ok (.invokevirtual 223, 3) := by decide +kernel
theorem dL_law_1097 : decode cL_law 1097 = .ok (.ifCond .eq 123, 3) := by decide +kernel
theorem dL_law_1100 : decode cL_law 1100 = .ok (.aload_n 1, 1) := by decide +kernel
theorem dL_law_1101 : decode cL_law 1101 = .ok (.iload 31, 2) := by decide +kernel
theorem dL_law_1103 : decode cL_law 1103 = .ok (.invokevirtual 220, 3) := by decide +kernel
theorem dL_law_1106 : decode cL_law 1106 = .ok (.ifCond .eq 19, 3) := by decide +kernel
theorem dL_law_1109 : decode cL_law 1109 = .ok (.aload 27, 2) := by decide +kernel
theorem dL_law_1111 : decode cL_law 1111 = .ok (.iload 31, 2) := by decide +kernel
theorem dL_law_1113 : decode cL_law 1113 = .ok (.baload, 1) := by decide +kernel
theorem dL_law_1114 : decode cL_law 1114 = .ok (.ifCond .ne 11, 3) := by decide +kernel
theorem dL_law_1117 : decode cL_law 1117 = .ok (.aload 26, 2) := by decide +kernel
theorem dL_law_1119 : decode cL_law 1119 = .ok (.iload 31, 2) := by decide +kernel
theorem dL_law_1121 : decode cL_law 1121 = .ok (.baload, 1) := by decide +kernel
theorem dL_law_1122 : decode cL_law 1122 = .ok (.ifCond .eq 98, 3) := by decide +kernel
theorem dL_law_1125 : decode cL_law 1125 = .ok (.aload_n 1, 1) := by decide +kernel
theorem dL_law_1126 : decode cL_law 1126 = .ok (.iload 31, 2) := by decide +kernel
theorem dL_law_1128 : decode cL_law 1128 = .ok (.invokevirtual 223, 3) := by decide +kernel
theorem dL_law_1131 : decode cL_law 1131 = .ok (.ifCond .eq 45, 3) := by decide +kernel
theorem dL_law_1134 : decode cL_law 1134 = .ok (.aload 28, 2) := by decide +kernel
theorem dL_law_1136 : decode cL_law 1136 = .ok (.iload 31, 2) := by decide +kernel
theorem dL_law_1138 : decode cL_law 1138 = .ok (.baload, 1) := by decide +kernel
theorem dL_law_1139 : decode cL_law 1139 = .ok (.ifCond .ne 37, 3) := by decide +kernel
theorem dL_law_1142 : decode cL_law 1142 = .ok (.iload 29, 2) := by decide +kernel
theorem dL_law_1144 : decode cL_law 1144 = .ok (.ifCond .eq 76, 3) := by decide +kernel
theorem dL_law_1147 : decode cL_law 1147 = .ok (.aload 26, 2) := by decide +kernel
theorem dL_law_1149 : decode cL_law 1149 = .ok (.iload 31, 2) := by decide +kernel
theorem dL_law_1151 : decode cL_law 1151 = .ok (.baload, 1) := by decide +kernel
theorem dL_law_1152 : decode cL_law 1152 = .ok (.ifCond .eq 68, 3) := by decide +kernel
theorem dL_law_1155 : decode cL_law 1155 = .ok (.aload 5, 2) := by decide +kernel
theorem dL_law_1157 : decode cL_law 1157 = .ok (.getfield 48, 3) := by decide +kernel
theorem dL_law_1160 : decode cL_law 1160 = .ok (.iload 31, 2) := by decide +kernel
theorem dL_law_1162 : decode cL_law 1162 = .ok (.aaload, 1) := by decide +kernel
theorem dL_law_1163 : decode cL_law 1163 = .ok (.getfield 96, 3) := by decide +kernel
theorem dL_law_1166 : decode cL_law 1166 = .ok (.aload_n 1, 1) := by decide +kernel
theorem dL_law_1167 : decode cL_law 1167 = .ok (.invokevirtual 209, 3) := by decide +kernel
theorem dL_law_1170 : decode cL_law 1170 = .ok (.bipush 12, 2) := by decide +kernel
theorem dL_law_1172 : decode cL_law 1172 = .ok (.iadd, 1) := by decide +kernel
theorem dL_law_1173 : decode cL_law 1173 = .ok (.if_icmp .ge 47, 3) := by decide +kernel
theorem dL_law_1176 : decode cL_law 1176 = .ok (.iload 29, 2) := by decide +kernel
theorem dL_law_1178 : decode cL_law 1178 = .ok (.iconst 1, 1) := by decide +kernel
theorem dL_law_1179 : decode cL_law 1179 = .ok (.if_icmp .ne 43, 3) := by decide +kernel
theorem dL_law_1182 : decode cL_law 1182 = .ok (.aload 26, 2) := by decide +kernel
theorem dL_law_1184 : decode cL_law 1184 = .ok (.iload 31, 2) := by decide +kernel
theorem dL_law_1186 : decode cL_law 1186 = .ok (.baload, 1) := by decide +kernel
theorem dL_law_1187 : decode cL_law 1187 = .ok (.ifCond .eq 35, 3) := by decide +kernel
theorem dL_law_1190 : decode cL_law 1190 = .ok (.aload_n 1, 1) := by decide +kernel
theorem dL_law_1191 : decode cL_law 1191 = .ok (.iload 31, 2) := by decide +kernel
theorem dL_law_1193 : decode cL_law 1193 = .ok (.invokevirtual 217, 3) := by decide +kernel
theorem dL_law_1196 : decode cL_law 1196 = .ok (.ifCond .eq 26, 3) := by decide +kernel
theorem dL_law_1199 : decode cL_law 1199 = .ok (.aload 5, 2) := by decide +kernel
theorem dL_law_1201 : decode cL_law 1201 = .ok (.getfield 48, 3) := by decide +kernel
theorem dL_law_1204 : decode cL_law 1204 = .ok (.iload 31, 2) := by decide +kernel
theorem dL_law_1206 : decode cL_law 1206 = .ok (.aaload, 1) := by decide +kernel
theorem dL_law_1207 : decode cL_law 1207 = .ok (.getfield 96, 3) := by decide +kernel
theorem dL_law_1210 : decode cL_law 1210 = .ok (.aload_n 1, 1) := by decide +kernel
theorem dL_law_1211 : decode cL_law 1211 = .ok (.invokevirtual 209, 3) := by decide +kernel
theorem dL_law_1214 : decode cL_law 1214 = .ok (.bipush 12, 2) := by decide +kernel
theorem dL_law_1216 : decode cL_law 1216 = .ok (.iadd, 1) := by decide +kernel
theorem dL_law_1217 : decode cL_law 1217 = .ok (.if_icmp .ge 5, 3) := by decide +kernel
theorem dL_law_1220 : decode cL_law 1220 = .ok (.iconst 0, 1) := by decide +kernel
theorem dL_law_1221 : decode cL_law 1221 = .ok (.ireturn, 1) := by decide +kernel
theorem dL_law_1222 : decode cL_law 1222 = .ok (.iinc 31 1, 3) := by decide +kernel
theorem dL_law_1225 : decode cL_law 1225 = .ok (.goto (-193), 3) := by decide +kernel
theorem dL_law_1228 : decode cL_law 1228 = .ok (.iload 30, 2) := by decide +kernel
theorem dL_law_1230 : decode cL_law 1230 = .ok (.ifCond .ne 12, 3) := by decide +kernel
theorem dL_law_1233 : decode cL_law 1233 = .ok (.aload_n 1, 1) := by decide +kernel
theorem dL_law_1234 : decode cL_law 1234 = .ok (.invokevirtual 273, 3) := by decide +kernel
theorem dL_law_1237 : decode cL_law 1237 = .ok (.iload 24, 2) := by decide +kernel
theorem dL_law_1239 : decode cL_law 1239 = .ok (.if_icmp .ne 27, 3) := by decide +kernel
theorem dL_law_1242 : decode cL_law 1242 = .ok (.aload_n 1, 1) := by decide +kernel
theorem dL_law_1243 : decode cL_law 1243 = .ok (.invokevirtual 273, 3) := by decide +kernel
theorem dL_law_1246 : decode cL_law 1246 = .ok (.iload 24, 2) := by decide +kernel
theorem dL_law_1248 : decode cL_law 1248 = .ok (.if_icmp .lt 18, 3) := by decide +kernel
theorem dL_law_1251 : decode cL_law 1251 = .ok (.aload_n 1, 1) := by decide +kernel
theorem dL_law_1252 : decode cL_law 1252 = .ok (.invokevirtual 273, 3) := by decide +kernel
theorem dL_law_1255 : decode cL_law 1255 = .ok (.iload 24, 2) := by decide +kernel
theorem dL_law_1257 : decode cL_law 1257 = .ok (.bipush 30, 2) := by decide +kernel
theorem dL_law_1259 : decode cL_law 1259 = .ok (.iload 30, 2) := by decide +kernel
theorem dL_law_1261 : decode cL_law 1261 = .ok (.imul, 1) := by decide +kernel
theorem dL_law_1262 : decode cL_law 1262 = .ok (.iadd, 1) := by decide +kernel
theorem dL_law_1263 : decode cL_law 1263 = .ok (.if_icmp .le 5, 3) := by decide +kernel
theorem dL_law_1266 : decode cL_law 1266 = .ok (.iconst 0, 1) := by decide +kernel
theorem dL_law_1267 : decode cL_law 1267 = .ok (.ireturn, 1) := by decide +kernel
theorem dL_law_1268 : decode cL_law 1268 = .ok (.iload 22, 2) := by decide +kernel
theorem dL_law_1270 : decode cL_law 1270 = .ok (.ifCond .ne 34, 3) := by decide +kernel
theorem dL_law_1273 : decode cL_law 1273 = .ok (.iload 29, 2) := by decide +kernel
theorem dL_law_1275 : decode cL_law 1275 = .ok (.ifCond .le 7, 3) := by decide +kernel
theorem dL_law_1278 : decode cL_law 1278 = .ok (.iconst 1, 1) := by decide +kernel
theorem dL_law_1279 : decode cL_law 1279 = .ok (.goto 4, 3) := by decide +kernel
theorem dL_law_1282 : decode cL_law 1282 = .ok (.iconst 0, 1) := by decide +kernel
theorem dL_law_1283 : decode cL_law 1283 = .ok (.istore 22, 2) := by decide +kernel
theorem dL_law_1285 : decode cL_law 1285 = .ok (.iload 22, 2) := by decide +kernel
theorem dL_law_1287 : decode cL_law 1287 = .ok (.iload 18, 2) := by decide +kernel
theorem dL_law_1289 : decode cL_law 1289 = .ok (.iload 23, 2) := by decide +kernel
theorem dL_law_1291 : decode cL_law 1291 = .ok (.if_icmp .ne 7, 3) := by decide +kernel
theorem dL_law_1294 : decode cL_law 1294 = .ok (.iconst 1, 1) := by decide +kernel
theorem dL_law_1295 : decode cL_law 1295 = .ok (.goto 4, 3) := by decide +kernel
theorem dL_law_1298 : decode cL_law 1298 = .ok (.iconst 0, 1) := by decide +kernel
theorem dL_law_1299 : decode cL_law 1299 = .ok (.if_icmp .eq 5, 3) := by decide +kernel
theorem dL_law_1302 : decode cL_law 1302 = .ok (.iconst 0, 1) := by decide +kernel
theorem dL_law_1303 : decode cL_law 1303 = .ok (.ireturn, 1) := by decide +kernel
theorem dL_law_1304 : decode cL_law 1304 = .ok (.iload 19, 2) := by decide +kernel
theorem dL_law_1306 : decode cL_law 1306 = .ok (.ifCond .lt 35, 3) := by decide +kernel
theorem dL_law_1309 : decode cL_law 1309 = .ok (.iload 21, 2) := by decide +kernel
theorem dL_law_1311 : decode cL_law 1311 = .ok (.ifCond .ne 30, 3) := by decide +kernel
theorem dL_law_1314 : decode cL_law 1314 = .ok (.aload_n 1, 1) := by decide +kernel
theorem dL_law_1315 : decode cL_law 1315 = .ok (.iload 19, 2) := by decide +kernel
theorem dL_law_1317 : decode cL_law 1317 = .ok (.invokevirtual 220, 3) := by decide +kernel
theorem dL_law_1320 : decode cL_law 1320 = .ok (.istore 21, 2) := by decide +kernel
theorem dL_law_1322 : decode cL_law 1322 = .ok (.iload 21, 2) := by decide +kernel
theorem dL_law_1324 : decode cL_law 1324 = .ok (.iload 20, 2) := by decide +kernel
theorem dL_law_1326 : decode cL_law 1326 = .ok (.iload 23, 2) := by decide +kernel
theorem dL_law_1328 : decode cL_law 1328 = .ok (.if_icmp .ne 7, 3) := by decide +kernel
theorem dL_law_1331 : decode cL_law 1331 = .ok (.iconst 1, 1) := by decide +kernel
theorem dL_law_1332 : decode cL_law 1332 = .ok (.goto 4, 3) := by decide +kernel
theorem dL_law_1335 : decode cL_law 1335 = .ok (.iconst 0, 1) := by decide +kernel
theorem dL_law_1336 : decode cL_law 1336 = .ok (.if_icmp .eq 5, 3) := by decide +kernel
theorem dL_law_1339 : decode cL_law 1339 = .ok (.iconst 0, 1) := by decide +kernel
theorem dL_law_1340 : decode cL_law 1340 = .ok (.ireturn, 1) := by decide +kernel
theorem dL_law_1341 : decode cL_law 1341 = .ok (.iinc 23 1, 3) := by decide +kernel
theorem dL_law_1344 : decode cL_law 1344 = .ok (.goto (-484), 3) := by decide +kernel
theorem dL_law_1347 : decode cL_law 1347 = .ok (.aload_n 1, 1) := by decide +kernel
theorem dL_law_1348 : decode cL_law 1348 = .ok (.invokevirtual 273, 3) := by decide +kernel
theorem dL_law_1351 : decode cL_law 1351 = .ok (.iload 17, 2) := by decide +kernel
theorem dL_law_1353 : decode cL_law 1353 = .ok (.if_icmp .eq 5, 3) := by decide +kernel
theorem dL_law_1356 : decode cL_law 1356 = .ok (.iconst 0, 1) := by decide +kernel
theorem dL_law_1357 : decode cL_law 1357 = .ok (.ireturn, 1) := by decide +kernel
theorem dL_law_1358 : decode cL_law 1358 = .ok (.iinc 8 1, 3) := by decide +kernel
theorem dL_law_1361 : decode cL_law 1361 = .ok (.goto (-1262), 3) := by decide +kernel
theorem dL_law_1364 : decode cL_law 1364 = .ok (.aload 5, 2) := by decide +kernel
theorem dL_law_1366 : decode cL_law 1366 = .ok (.aload_n 1, 1) := by decide +kernel
theorem dL_law_1367 : decode cL_law 1367 = .ok (.invokevirtual 281, 3) := by decide +kernel
theorem dL_law_1370 : decode cL_law 1370 = .ok (.ifCond .ne 5, 3) := by decide +kernel
theorem dL_law_1373 : decode cL_law 1373 = .ok (.iconst 0, 1) := by decide +kernel
theorem dL_law_1374 : decode cL_law 1374 = .ok (.ireturn, 1) := by decide +kernel
theorem dL_law_1375 : decode cL_law 1375 = .ok (.iinc 2 1, 3) := by decide +kernel
theorem dL_law_1378 : decode cL_law 1378 = .ok (.goto (-1368), 3) := by decide +kernel
theorem dL_law_1381 : decode cL_law 1381 = .ok (.iconst 1, 1) := by decide +kernel
theorem dL_law_1382 : decode cL_law 1382 = .ok (.ireturn, 1) := by decide +kernel
