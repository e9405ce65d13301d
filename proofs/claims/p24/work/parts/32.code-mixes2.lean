theorem dL_mixes_378 : decode cL_mixes 378 = .ok (.istore 11, 2) := by decide +kernel
theorem dL_mixes_380 : decode cL_mixes 380 = .ok (.aload 7, 2) := by decide +kernel
theorem dL_mixes_382 : decode cL_mixes 382 = .ok (.bipush 7, 2) := by decide +kernel
theorem dL_mixes_384 : decode cL_mixes 384 = .ok (.iload 10, 2) := by decide +kernel
theorem dL_mixes_386 : decode cL_mixes 386 = .ok (.imul, 1) := by decide +kernel
theorem dL_mixes_387 : decode cL_mixes 387 = .ok (.iconst 3, 1) := by decide +kernel
theorem dL_mixes_388 : decode cL_mixes 388 = .ok (.iadd, 1) := by decide +kernel
theorem dL_mixes_389 : decode cL_mixes 389 = .ok (.iaload, 1) := by decide +kernel
theorem dL_mixes_390 : decode cL_mixes 390 = .ok (.ifCond .ne 7, 3) := by decide +kernel
theorem dL_mixes_393 : decode cL_mixes 393 = .ok (.iconst 1, 1) := by decide +kernel
theorem dL_mixes_394 : decode cL_mixes 394 = .ok (.goto 4, 3) := by decide +kernel
theorem dL_mixes_397 : decode cL_mixes 397 = .ok (.iconst 0, 1) := by decide +kernel
theorem dL_mixes_398 : decode cL_mixes 398 = .ok (.istore 12, 2) := by decide +kernel
theorem dL_mixes_400 : decode cL_mixes 400 = .ok (.iload_n 1, 1) := by decide +kernel
theorem dL_mixes_401 : decode cL_mixes 401 = .ok (.iconst 3, 1) := by decide +kernel
theorem dL_mixes_402 : decode cL_mixes 402 = .ok (.if_icmp .ne 172, 3) := by decide +kernel
theorem dL_mixes_405 : decode cL_mixes 405 = .ok (.iconst 1, 1) := by decide +kernel
theorem dL_mixes_406 : decode cL_mixes 406 = .ok (.iload_n 2, 1) := by decide +kernel
theorem dL_mixes_407 : decode cL_mixes 407 = .ok (.iconst 5, 1) := by decide +kernel
theorem dL_mixes_408 : decode cL_mixes 408 = .ok (.ishr, 1) := by decide +kernel
theorem dL_mixes_409 : decode cL_mixes 409 = .ok (.bipush 40, 2) := by decide +kernel
theorem dL_mixes_411 : decode cL_mixes 411 = .ok (.invokestatic 51, 3) := by decide +kernel
theorem dL_mixes_414 : decode cL_mixes 414 = .ok (.iadd, 1) := by decide +kernel
theorem dL_mixes_415 : decode cL_mixes 415 = .ok (.istore 13, 2) := by decide +kernel
theorem dL_mixes_417 : decode cL_mixes 417 = .ok (.iload 11, 2) := by decide +kernel
theorem dL_mixes_419 : decode cL_mixes 419 = .ok (.iconst 3, 1) := by decide +kernel
theorem dL_mixes_420 : decode cL_mixes 420 = .ok (.if_icmp .ne 5, 3) := by decide +kernel
theorem dL_mixes_423 : decode cL_mixes 423 = .ok (.iconst 1, 1) := by decide +kernel
theorem dL_mixes_424 : decode cL_mixes 424 = .ok (.ireturn, 1) := by decide +kernel
theorem dL_mixes_425 : decode cL_mixes 425 = .ok (.iload 12, 2) := by decide +kernel
theorem dL_mixes_427 : decode cL_mixes 427 = .ok (.ifCond .eq 19, 3) := by decide +kernel
theorem dL_mixes_430 : decode cL_mixes 430 = .ok (.iload 9, 2) := by decide +kernel
theorem dL_mixes_432 : decode cL_mixes 432 = .ok (.aload 4, 2) := by decide +kernel
theorem dL_mixes_434 : decode cL_mixes 434 = .ok (.invokestatic 34, 3) := by decide +kernel
theorem dL_mixes_437 : decode cL_mixes 437 = .ok (.iload 13, 2) := by decide +kernel
theorem dL_mixes_439 : decode cL_mixes 439 = .ok (.if_icmp .lt 7, 3) := by decide +kernel
theorem dL_mixes_442 : decode cL_mixes 442 = .ok (.iconst 1, 1) := by decide +kernel
theorem dL_mixes_443 : decode cL_mixes 443 = .ok (.goto 4, 3) := by decide +kernel
theorem dL_mixes_446 : decode cL_mixes 446 = .ok (.iconst 0, 1) := by decide +kernel
theorem dL_mixes_447 : decode cL_mixes 447 = .ok (.istore 14, 2) := by decide +kernel
theorem dL_mixes_449 : decode cL_mixes 449 = .ok (.iload 14, 2) := by decide +kernel
theorem dL_mixes_451 : decode cL_mixes 451 = .ok (.ifCond .eq 88, 3) := by decide +kernel
theorem dL_mixes_454 : decode cL_mixes 454 = .ok (.iload 9, 2) := by decide +kernel
theorem dL_mixes_456 : decode cL_mixes 456 = .ok (.iload 13, 2) := by decide +kernel
theorem dL_mixes_458 : decode cL_mixes 458 = .ok (.aload 4, 2) := by decide +kernel
theorem dL_mixes_460 : decode cL_mixes 460 = .ok (.aload 8, 2) := by decide +kernel
theorem dL_mixes_462 : decode cL_mixes 462 = .ok (.invokestatic 58, 3) := by decide +kernel
theorem dL_mixes_465 : decode cL_mixes 465 = .ok (.aload 5, 2) := by decide +kernel
theorem dL_mixes_467 : decode cL_mixes 467 = .ok (.iload 10, 2) := by decide +kernel
theorem dL_mixes_469 : decode cL_mixes 469 = .ok (.iload 11, 2) := by decide +kernel
theorem dL_mixes_471 : decode cL_mixes 471 = .ok (.invokestatic 40, 3) := by decide +kernel
theorem dL_mixes_474 : decode cL_mixes 474 = .ok (.aload 8, 2) := by decide +kernel
theorem dL_mixes_476 : decode cL_mixes 476 = .ok (.iconst 0, 1) := by decide +kernel
theorem dL_mixes_477 : decode cL_mixes 477 = .ok (.iaload, 1) := by decide +kernel
theorem dL_mixes_478 : decode cL_mixes 478 = .ok (.sipush 1024, 3) := by decide +kernel
theorem dL_mixes_481 : decode cL_mixes 481 = .ok (.aload 8, 2) := by decide +kernel
theorem dL_mixes_483 : decode cL_mixes 483 = .ok (.iconst 1, 1) := by decide +kernel
theorem dL_mixes_484 : decode cL_mixes 484 = .ok (.iaload, 1) := by decide +kernel
theorem dL_mixes_485 : decode cL_mixes 485 = .ok (.imul, 1) := by decide +kernel
theorem dL_mixes_486 : decode cL_mixes 486 = .ok (.iadd, 1) := by decide +kernel
theorem dL_mixes_487 : decode cL_mixes 487 = .ok (.ldc 66, 2) := by decide +kernel
theorem dL_mixes_489 : decode cL_mixes 489 = .ok (.aload 8, 2) := by decide +kernel
theorem dL_mixes_491 : decode cL_mixes 491 = .ok (.iconst 2, 1) := by decide +kernel
theorem dL_mixes_492 : decode cL_mixes 492 = .ok (.iaload, 1) := by decide +kernel
theorem dL_mixes_493 : decode cL_mixes 493 = .ok (.imul, 1) := by decide +kernel
theorem dL_mixes_494 : decode cL_mixes 494 = .ok (.iadd, 1) := by decide +kernel
theorem dL_mixes_495 : decode cL_mixes 495 = .ok (.iastore, 1) := by decide +kernel
theorem dL_mixes_496 : decode cL_mixes 496 = .ok (.aload 6, 2) := by decide +kernel
theorem dL_mixes_498 : decode cL_mixes 498 = .ok (.iload 10, 2) := by decide +kernel
theorem dL_mixes_500 : decode cL_mixes 500 = .ok (.iload 11, 2) := by decide +kernel
theorem dL_mixes_502 : decode cL_mixes 502 = .ok (.invokestatic 40, 3) := by decide +kernel
theorem dL_mixes_505 : decode cL_mixes 505 = .ok (.aload 8, 2) := by decide +kernel
theorem dL_mixes_507 : decode cL_mixes 507 = .ok (.iconst 3, 1) := by decide +kernel
theorem dL_mixes_508 : decode cL_mixes 508 = .ok (.iaload, 1) := by decide +kernel
theorem dL_mixes_509 : decode cL_mixes 509 = .ok (.sipush 1024, 3) := by decide +kernel
theorem dL_mixes_512 : decode cL_mixes 512 = .ok (.aload 8, 2) := by decide +kernel
theorem dL_mixes_514 : decode cL_mixes 514 = .ok (.iconst 4, 1) := by decide +kernel
theorem dL_mixes_515 : decode cL_mixes 515 = .ok (.iaload, 1) := by decide +kernel
theorem dL_mixes_516 : decode cL_mixes 516 = .ok (.imul, 1) := by decide +kernel
theorem dL_mixes_517 : decode cL_mixes 517 = .ok (.iadd, 1) := by decide +kernel
theorem dL_mixes_518 : decode cL_mixes 518 = .ok (.ldc 66, 2) := by decide +kernel
theorem dL_mixes_520 : decode cL_mixes 520 = .ok (.aload 8, 2) := by decide +kernel
theorem dL_mixes_522 : decode cL_mixes 522 = .ok (.iconst 5, 1) := by decide +kernel
theorem dL_mixes_523 : decode cL_mixes 523 = .ok (.iaload, 1) := by decide +kernel
theorem dL_mixes_524 : decode cL_mixes 524 = .ok (.imul, 1) := by decide +kernel
theorem dL_mixes_525 : decode cL_mixes 525 = .ok (.iadd, 1) := by decide +kernel
theorem dL_mixes_526 : decode cL_mixes 526 = .ok (.iastore, 1) := by decide +kernel
theorem dL_mixes_527 : decode cL_mixes 527 = .ok (.aload 7, 2) := by decide +kernel
theorem dL_mixes_529 : decode cL_mixes 529 = .ok (.bipush 7, 2) := by decide +kernel
theorem dL_mixes_531 : decode cL_mixes 531 = .ok (.iload 10, 2) := by decide +kernel
theorem dL_mixes_533 : decode cL_mixes 533 = .ok (.imul, 1) := by decide +kernel
theorem dL_mixes_534 : decode cL_mixes 534 = .ok (.dup2, 1) := by decide +kernel
theorem dL_mixes_535 : decode cL_mixes 535 = .ok (.iaload, 1) := by decide +kernel
theorem dL_mixes_536 : decode cL_mixes 536 = .ok (.iconst 1, 1) := by decide +kernel
theorem dL_mixes_537 : decode cL_mixes 537 = .ok (.iadd, 1) := by decide +kernel
theorem dL_mixes_538 : decode cL_mixes 538 = .ok (.iastore, 1) := by decide +kernel
theorem dL_mixes_539 : decode cL_mixes 539 = .ok (.aload_n 0, 1) := by decide +kernel
theorem dL_mixes_540 : decode cL_mixes 540 = .ok (.iconst 2, 1) := by decide +kernel
theorem dL_mixes_541 : decode cL_mixes 541 = .ok (.iload 10, 2) := by decide +kernel
theorem dL_mixes_543 : decode cL_mixes 543 = .ok (.iload 9, 2) := by decide +kernel
theorem dL_mixes_545 : decode cL_mixes 545 = .ok (.iload 13, 2) := by decide +kernel
theorem dL_mixes_547 : decode cL_mixes 547 = .ok (.invokestatic 54, 3) := by decide +kernel
theorem dL_mixes_550 : decode cL_mixes 550 = .ok (.iload 14, 2) := by decide +kernel
theorem dL_mixes_552 : decode cL_mixes 552 = .ok (.ifCond .eq 10, 3) := by decide +kernel
theorem dL_mixes_555 : decode cL_mixes 555 = .ok (.iload 11, 2) := by decide +kernel
theorem dL_mixes_557 : decode cL_mixes 557 = .ok (.iconst 1, 1) := by decide +kernel
theorem dL_mixes_558 : decode cL_mixes 558 = .ok (.iadd, 1) := by decide +kernel
theorem dL_mixes_559 : decode cL_mixes 559 = .ok (.goto 6, 3) := by decide +kernel
theorem dL_mixes_562 : decode cL_mixes 562 = .ok (.sipush (-1003), 3) := by decide +kernel
theorem dL_mixes_565 : decode cL_mixes 565 = .ok (.if_icmp .ne 7, 3) := by decide +kernel
theorem dL_mixes_568 : decode cL_mixes 568 = .ok (.iconst 1, 1) := by decide +kernel
theorem dL_mixes_569 : decode cL_mixes 569 = .ok (.goto 4, 3) := by decide +kernel
theorem dL_mixes_572 : decode cL_mixes 572 = .ok (.iconst 0, 1) := by decide +kernel
theorem dL_mixes_573 : decode cL_mixes 573 = .ok (.ireturn, 1) := by decide +kernel
theorem dL_mixes_574 : decode cL_mixes 574 = .ok (.iconst 1, 1) := by decide +kernel
theorem dL_mixes_575 : decode cL_mixes 575 = .ok (.iload_n 2, 1) := by decide +kernel
theorem dL_mixes_576 : decode cL_mixes 576 = .ok (.bipush 6, 2) := by decide +kernel
theorem dL_mixes_578 : decode cL_mixes 578 = .ok (.ishr, 1) := by decide +kernel
theorem dL_mixes_579 : decode cL_mixes 579 = .ok (.iconst 3, 1) := by decide +kernel
theorem dL_mixes_580 : decode cL_mixes 580 = .ok (.invokestatic 51, 3) := by decide +kernel
theorem dL_mixes_583 : decode cL_mixes 583 = .ok (.iadd, 1) := by decide +kernel
theorem dL_mixes_584 : decode cL_mixes 584 = .ok (.istore 13, 2) := by decide +kernel
theorem dL_mixes_586 : decode cL_mixes 586 = .ok (.iload 12, 2) := by decide +kernel
theorem dL_mixes_588 : decode cL_mixes 588 = .ok (.ifCond .eq 14, 3) := by decide +kernel
theorem dL_mixes_591 : decode cL_mixes 591 = .ok (.iload 11, 2) := by decide +kernel
theorem dL_mixes_593 : decode cL_mixes 593 = .ok (.iload 13, 2) := by decide +kernel
theorem dL_mixes_595 : decode cL_mixes 595 = .ok (.if_icmp .lt 7, 3) := by decide +kernel
theorem dL_mixes_598 : decode cL_mixes 598 = .ok (.iconst 1, 1) := by decide +kernel
theorem dL_mixes_599 : decode cL_mixes 599 = .ok (.goto 4, 3) := by decide +kernel
theorem dL_mixes_602 : decode cL_mixes 602 = .ok (.iconst 0, 1) := by decide +kernel
theorem dL_mixes_603 : decode cL_mixes 603 = .ok (.istore 14, 2) := by decide +kernel
theorem dL_mixes_605 : decode cL_mixes 605 = .ok (.iconst 0, 1) := by decide +kernel
theorem dL_mixes_606 : decode cL_mixes 606 = .ok (.istore 15, 2) := by decide +kernel
theorem dL_mixes_608 : decode cL_mixes 608 = .ok (.iconst 0, 1) := by decide +kernel
theorem dL_mixes_609 : decode cL_mixes 609 = .ok (.istore 16, 2) := by decide +kernel
theorem dL_mixes_611 : decode cL_mixes 611 = .ok (.iload 16, 2) := by decide +kernel
theorem dL_mixes_613 : decode cL_mixes 613 = .ok (.iload 13, 2) := by decide +kernel
theorem dL_mixes_615 : decode cL_mixes 615 = .ok (.if_icmp .ge 120, 3) := by decide +kernel
theorem dL_mixes_618 : decode cL_mixes 618 = .ok (.iload 14, 2) := by decide +kernel
theorem dL_mixes_620 : decode cL_mixes 620 = .ok (.ifCond .eq 115, 3) := by decide +kernel
theorem dL_mixes_623 : decode cL_mixes 623 = .ok (.aload 7, 2) := by decide +kernel
theorem dL_mixes_625 : decode cL_mixes 625 = .ok (.bipush 7, 2) := by decide +kernel
theorem dL_mixes_627 : decode cL_mixes 627 = .ok (.iload 10, 2) := by decide +kernel
theorem dL_mixes_629 : decode cL_mixes 629 = .ok (.imul, 1) := by decide +kernel
theorem dL_mixes_630 : decode cL_mixes 630 = .ok (.dup2, 1) := by decide +kernel
theorem dL_mixes_631 : decode cL_mixes 631 = .ok (.iaload, 1) := by decide +kernel
theorem dL_mixes_632 : decode cL_mixes 632 = .ok (.iconst 1, 1) := by decide +kernel
theorem dL_mixes_633 : decode cL_mixes 633 = .ok (.isub, 1) := by decide +kernel
theorem dL_mixes_634 : decode cL_mixes 634 = .ok (.iastore, 1) := by decide +kernel
theorem dL_mixes_635 : decode cL_mixes 635 = .ok (.iconst 0, 1) := by decide +kernel
theorem dL_mixes_636 : decode cL_mixes 636 = .ok (.istore 17, 2) := by decide +kernel
theorem dL_mixes_638 : decode cL_mixes 638 = .ok (.iload 17, 2) := by decide +kernel
theorem dL_mixes_640 : decode cL_mixes 640 = .ok (.bipush 6, 2) := by decide +kernel
theorem dL_mixes_642 : decode cL_mixes 642 = .ok (.if_icmp .ge 53, 3) := by decide +kernel
theorem dL_mixes_645 : decode cL_mixes 645 = .ok (.iload 10, 2) := by decide +kernel
theorem dL_mixes_647 : decode cL_mixes 647 = .ok (.aload 7, 2) := by decide +kernel
theorem dL_mixes_649 : decode cL_mixes 649 = .ok (.bipush 7, 2) := by decide +kernel
theorem dL_mixes_651 : decode cL_mixes 651 = .ok (.iload 10, 2) := by decide +kernel
theorem dL_mixes_653 : decode cL_mixes 653 = .ok (.imul, 1) := by decide +kernel
theorem dL_mixes_654 : decode cL_mixes 654 = .ok (.iaload, 1) := by decide +kernel
theorem dL_mixes_655 : decode cL_mixes 655 = .ok (.invokestatic 40, 3) := by decide +kernel
theorem dL_mixes_658 : decode cL_mixes 658 = .ok (.iload 17, 2) := by decide +kernel
theorem dL_mixes_660 : decode cL_mixes 660 = .ok (.aload 5, 2) := by decide +kernel
theorem dL_mixes_662 : decode cL_mixes 662 = .ok (.aload 6, 2) := by decide +kernel
theorem dL_mixes_664 : decode cL_mixes 664 = .ok (.invokestatic 43, 3) := by decide +kernel
theorem dL_mixes_667 : decode cL_mixes 667 = .ok (.istore 18, 2) := by decide +kernel
theorem dL_mixes_669 : decode cL_mixes 669 = .ok (.aload_n 3, 1) := by decide +kernel
theorem dL_mixes_670 : decode cL_mixes 670 = .ok (.iconst 3, 1) := by decide +kernel
theorem dL_mixes_671 : decode cL_mixes 671 = .ok (.iload 17, 2) := by decide +kernel
theorem dL_mixes_673 : decode cL_mixes 673 = .ok (.imul, 1) := by decide +kernel
theorem dL_mixes_674 : decode cL_mixes 674 = .ok (.iconst 2, 1) := by decide +kernel
theorem dL_mixes_675 : decode cL_mixes 675 = .ok (.iadd, 1) := by decide +kernel
theorem dL_mixes_676 : decode cL_mixes 676 = .ok (.dup2, 1) := by decide +kernel
theorem dL_mixes_677 : decode cL_mixes 677 = .ok (.iaload, 1) := by decide +kernel
theorem dL_mixes_678 : decode cL_mixes 678 = .ok (.iload 18, 2) := by decide +kernel
theorem dL_mixes_680 : decode cL_mixes 680 = .ok (.iadd, 1) := by decide +kernel
theorem dL_mixes_681 : decode cL_mixes 681 = .ok (.iastore, 1) := by decide +kernel
theorem dL_mixes_682 : decode cL_mixes 682 = .ok (.iload 15, 2) := by decide +kernel
theorem dL_mixes_684 : decode cL_mixes 684 = .ok (.iload 18, 2) := by decide +kernel
theorem dL_mixes_686 : decode cL_mixes 686 = .ok (.iadd, 1) := by decide +kernel
theorem dL_mixes_687 : decode cL_mixes 687 = .ok (.istore 15, 2) := by decide +kernel
theorem dL_mixes_689 : decode cL_mixes 689 = .ok (.iinc 17 1, 3) := by decide +kernel
theorem dL_mixes_692 : decode cL_mixes 692 = .ok (.goto (-54), 3) := by decide +kernel
theorem dL_mixes_695 : decode cL_mixes 695 = .ok (.aload 5, 2) := by decide +kernel
theorem dL_mixes_697 : decode cL_mixes 697 = .ok (.iload 10, 2) := by decide +kernel
theorem dL_mixes_699 : decode cL_mixes 699 = .ok (.aload 7, 2) := by decide +kernel
theorem dL_mixes_701 : decode cL_mixes 701 = .ok (.bipush 7, 2) := by decide +kernel
theorem dL_mixes_703 : decode cL_mixes 703 = .ok (.iload 10, 2) := by decide +kernel
theorem dL_mixes_705 : decode cL_mixes 705 = .ok (.imul, 1) := by decide +kernel
theorem dL_mixes_706 : decode cL_mixes 706 = .ok (.iaload, 1) := by decide +kernel
theorem dL_mixes_707 : decode cL_mixes 707 = .ok (.invokestatic 40, 3) := by decide +kernel
theorem dL_mixes_710 : decode cL_mixes 710 = .ok (.iconst 0, 1) := by decide +kernel
theorem dL_mixes_711 : decode cL_mixes 711 = .ok (.iastore, 1) := by decide +kernel
theorem dL_mixes_712 : decode cL_mixes 712 = .ok (.aload 6, 2) := by decide +kernel
theorem dL_mixes_714 : decode cL_mixes 714 = .ok (.iload 10, 2) := by decide +kernel
theorem dL_mixes_716 : decode cL_mixes 716 = .ok (.aload 7, 2) := by decide +kernel
theorem dL_mixes_718 : decode cL_mixes 718 = .ok (.bipush 7, 2) := by decide +kernel
theorem dL_mixes_720 : decode cL_mixes 720 = .ok (.iload 10, 2) := by decide +kernel
theorem dL_mixes_722 : decode cL_mixes 722 = .ok (.imul, 1) := by decide +kernel
theorem dL_mixes_723 : decode cL_mixes 723 = .ok (.iaload, 1) := by decide +kernel
theorem dL_mixes_724 : decode cL_mixes 724 = .ok (.invokestatic 40, 3) := by decide +kernel
theorem dL_mixes_727 : decode cL_mixes 727 = .ok (.iconst 0, 1) := by decide +kernel
theorem dL_mixes_728 : decode cL_mixes 728 = .ok (.iastore, 1) := by decide +kernel
theorem dL_mixes_729 : decode cL_mixes 729 = .ok (.iinc 16 1, 3) := by decide +kernel
theorem dL_mixes_732 : decode cL_mixes 732 = .ok (.goto (-121), 3) := by decide +kernel
theorem dL_mixes_735 : decode cL_mixes 735 = .ok (.aload_n 0, 1) := by decide +kernel
theorem dL_mixes_736 : decode cL_mixes 736 = .ok (.iconst 3, 1) := by decide +kernel
theorem dL_mixes_737 : decode cL_mixes 737 = .ok (.iload 10, 2) := by decide +kernel
theorem dL_mixes_739 : decode cL_mixes 739 = .ok (.iload 13, 2) := by decide +kernel
theorem dL_mixes_741 : decode cL_mixes 741 = .ok (.iconst 0, 1) := by decide +kernel
theorem dL_mixes_742 : decode cL_mixes 742 = .ok (.invokestatic 54, 3) := by decide +kernel
theorem dL_mixes_745 : decode cL_mixes 745 = .ok (.iload 14, 2) := by decide +kernel
theorem dL_mixes_747 : decode cL_mixes 747 = .ok (.ifCond .eq 8, 3) := by decide +kernel
theorem dL_mixes_750 : decode cL_mixes 750 = .ok (.iload 15, 2) := by decide +kernel
theorem dL_mixes_752 : decode cL_mixes 752 = .ok (.goto 6, 3) := by decide +kernel
theorem dL_mixes_755 : decode cL_mixes 755 = .ok (.sipush (-1003), 3) := by decide +kernel
theorem dL_mixes_758 : decode cL_mixes 758 = .ok (.if_icmp .ne 7, 3) := by decide +kernel
theorem dL_mixes_761 : decode cL_mixes 761 = .ok (.iconst 1, 1) := by decide +kernel
theorem dL_mixes_762 : decode cL_mixes 762 = .ok (.goto 4, 3) := by decide +kernel
theorem dL_mixes_765 : decode cL_mixes 765 = .ok (.iconst 0, 1) := by decide +kernel
theorem dL_mixes_766 : decode cL_mixes 766 = .ok (.ireturn, 1) := by decide +kernel
