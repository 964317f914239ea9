theorem d_L_law_451 : decode b_L_law 451 = .ok (.iconst 3, 1) := by decide +kernel
theorem d_L_law_452 : decode b_L_law 452 = .ok (.iadd, 1) := by decide +kernel
theorem d_L_law_453 : decode b_L_law 453 = .ok (.iaload, 1) := by decide +kernel
theorem d_L_law_454 : decode b_L_law 454 = .ok (.aload_n 0, 1) := by decide +kernel
theorem d_L_law_455 : decode b_L_law 455 = .ok (.iload 4, 2) := by decide +kernel
theorem d_L_law_457 : decode b_L_law 457 = .ok (.iconst 4, 1) := by decide +kernel
theorem d_L_law_458 : decode b_L_law 458 = .ok (.iadd, 1) := by decide +kernel
theorem d_L_law_459 : decode b_L_law 459 = .ok (.iaload, 1) := by decide +kernel
theorem d_L_law_460 : decode b_L_law 460 = .ok (.aload_n 3, 1) := by decide +kernel
theorem d_L_law_461 : decode b_L_law 461 = .ok (.invokestatic 91, 3) := by decide +kernel
theorem d_L_law_464 : decode b_L_law 464 = .ok (.istore 5, 2) := by decide +kernel
theorem d_L_law_466 : decode b_L_law 466 = .ok (.aload_n 2, 1) := by decide +kernel
theorem d_L_law_467 : decode b_L_law 467 = .ok (.aload_n 0, 1) := by decide +kernel
theorem d_L_law_468 : decode b_L_law 468 = .ok (.iload 4, 2) := by decide +kernel
theorem d_L_law_470 : decode b_L_law 470 = .ok (.iconst 1, 1) := by decide +kernel
theorem d_L_law_471 : decode b_L_law 471 = .ok (.iadd, 1) := by decide +kernel
theorem d_L_law_472 : decode b_L_law 472 = .ok (.iaload, 1) := by decide +kernel
theorem d_L_law_473 : decode b_L_law 473 = .ok (.aload_n 0, 1) := by decide +kernel
theorem d_L_law_474 : decode b_L_law 474 = .ok (.iload 4, 2) := by decide +kernel
theorem d_L_law_476 : decode b_L_law 476 = .ok (.iconst 2, 1) := by decide +kernel
theorem d_L_law_477 : decode b_L_law 477 = .ok (.iadd, 1) := by decide +kernel
theorem d_L_law_478 : decode b_L_law 478 = .ok (.iaload, 1) := by decide +kernel
theorem d_L_law_479 : decode b_L_law 479 = .ok (.aload_n 0, 1) := by decide +kernel
theorem d_L_law_480 : decode b_L_law 480 = .ok (.iload 4, 2) := by decide +kernel
theorem d_L_law_482 : decode b_L_law 482 = .ok (.iconst 3, 1) := by decide +kernel
theorem d_L_law_483 : decode b_L_law 483 = .ok (.iadd, 1) := by decide +kernel
theorem d_L_law_484 : decode b_L_law 484 = .ok (.iaload, 1) := by decide +kernel
theorem d_L_law_485 : decode b_L_law 485 = .ok (.aload_n 0, 1) := by decide +kernel
theorem d_L_law_486 : decode b_L_law 486 = .ok (.iload 4, 2) := by decide +kernel
theorem d_L_law_488 : decode b_L_law 488 = .ok (.iconst 4, 1) := by decide +kernel
theorem d_L_law_489 : decode b_L_law 489 = .ok (.iadd, 1) := by decide +kernel
theorem d_L_law_490 : decode b_L_law 490 = .ok (.iaload, 1) := by decide +kernel
theorem d_L_law_491 : decode b_L_law 491 = .ok (.invokevirtual 94, 3) := by decide +kernel
theorem d_L_law_494 : decode b_L_law 494 = .ok (.istore 6, 2) := by decide +kernel
theorem d_L_law_496 : decode b_L_law 496 = .ok (.aload_n 2, 1) := by decide +kernel
theorem d_L_law_497 : decode b_L_law 497 = .ok (.invokevirtual 73, 3) := by decide +kernel
theorem d_L_law_500 : decode b_L_law 500 = .ok (.iload 5, 2) := by decide +kernel
theorem d_L_law_502 : decode b_L_law 502 = .ok (.if_icmp .eq 5, 3) := by decide +kernel
theorem d_L_law_505 : decode b_L_law 505 = .ok (.iconst 0, 1) := by decide +kernel
theorem d_L_law_506 : decode b_L_law 506 = .ok (.ireturn, 1) := by decide +kernel
theorem d_L_law_507 : decode b_L_law 507 = .ok (.iload 5, 2) := by decide +kernel
theorem d_L_law_509 : decode b_L_law 509 = .ok (.ifCond .ne 22, 3) := by decide +kernel
theorem d_L_law_512 : decode b_L_law 512 = .ok (.aload_n 3, 1) := by decide +kernel
theorem d_L_law_513 : decode b_L_law 513 = .ok (.iconst 0, 1) := by decide +kernel
theorem d_L_law_514 : decode b_L_law 514 = .ok (.laload, 1) := by decide +kernel
theorem d_L_law_515 : decode b_L_law 515 = .ok (.iload 6, 2) := by decide +kernel
theorem d_L_law_517 : decode b_L_law 517 = .ok (.ifCond .eq 7, 3) := by decide +kernel
theorem d_L_law_520 : decode b_L_law 520 = .ok (.lconst 1, 1) := by decide +kernel
theorem d_L_law_521 : decode b_L_law 521 = .ok (.goto 4, 3) := by decide +kernel
theorem d_L_law_524 : decode b_L_law 524 = .ok (.lconst 0, 1) := by decide +kernel
theorem d_L_law_525 : decode b_L_law 525 = .ok (.lcmp, 1) := by decide +kernel
theorem d_L_law_526 : decode b_L_law 526 = .ok (.ifCond .eq 5, 3) := by decide +kernel
theorem d_L_law_529 : decode b_L_law 529 = .ok (.iconst 0, 1) := by decide +kernel
theorem d_L_law_530 : decode b_L_law 530 = .ok (.ireturn, 1) := by decide +kernel
theorem d_L_law_531 : decode b_L_law 531 = .ok (.goto 366, 3) := by decide +kernel
theorem d_L_law_534 : decode b_L_law 534 = .ok (.aload_n 1, 1) := by decide +kernel
theorem d_L_law_535 : decode b_L_law 535 = .ok (.aload_n 0, 1) := by decide +kernel
theorem d_L_law_536 : decode b_L_law 536 = .ok (.iload 4, 2) := by decide +kernel
theorem d_L_law_538 : decode b_L_law 538 = .ok (.iconst 1, 1) := by decide +kernel
theorem d_L_law_539 : decode b_L_law 539 = .ok (.iadd, 1) := by decide +kernel
theorem d_L_law_540 : decode b_L_law 540 = .ok (.iaload, 1) := by decide +kernel
theorem d_L_law_541 : decode b_L_law 541 = .ok (.aload_n 3, 1) := by decide +kernel
theorem d_L_law_542 : decode b_L_law 542 = .ok (.invokestatic 95, 3) := by decide +kernel
theorem d_L_law_545 : decode b_L_law 545 = .ok (.istore 5, 2) := by decide +kernel
theorem d_L_law_547 : decode b_L_law 547 = .ok (.aload_n 2, 1) := by decide +kernel
theorem d_L_law_548 : decode b_L_law 548 = .ok (.aload_n 0, 1) := by decide +kernel
theorem d_L_law_549 : decode b_L_law 549 = .ok (.iload 4, 2) := by decide +kernel
theorem d_L_law_551 : decode b_L_law 551 = .ok (.iconst 1, 1) := by decide +kernel
theorem d_L_law_552 : decode b_L_law 552 = .ok (.iadd, 1) := by decide +kernel
theorem d_L_law_553 : decode b_L_law 553 = .ok (.iaload, 1) := by decide +kernel
theorem d_L_law_554 : decode b_L_law 554 = .ok (.invokevirtual 98, 3) := by decide +kernel
theorem d_L_law_557 : decode b_L_law 557 = .ok (.istore 6, 2) := by decide +kernel
theorem d_L_law_559 : decode b_L_law 559 = .ok (.aload_n 2, 1) := by decide +kernel
theorem d_L_law_560 : decode b_L_law 560 = .ok (.invokevirtual 73, 3) := by decide +kernel
theorem d_L_law_563 : decode b_L_law 563 = .ok (.iload 5, 2) := by decide +kernel
theorem d_L_law_565 : decode b_L_law 565 = .ok (.if_icmp .eq 5, 3) := by decide +kernel
theorem d_L_law_568 : decode b_L_law 568 = .ok (.iconst 0, 1) := by decide +kernel
theorem d_L_law_569 : decode b_L_law 569 = .ok (.ireturn, 1) := by decide +kernel
theorem d_L_law_570 : decode b_L_law 570 = .ok (.iload 5, 2) := by decide +kernel
theorem d_L_law_572 : decode b_L_law 572 = .ok (.ifCond .ne 15, 3) := by decide +kernel
theorem d_L_law_575 : decode b_L_law 575 = .ok (.aload_n 3, 1) := by decide +kernel
theorem d_L_law_576 : decode b_L_law 576 = .ok (.iconst 0, 1) := by decide +kernel
theorem d_L_law_577 : decode b_L_law 577 = .ok (.laload, 1) := by decide +kernel
theorem d_L_law_578 : decode b_L_law 578 = .ok (.iload 6, 2) := by decide +kernel
theorem d_L_law_580 : decode b_L_law 580 = .ok (.i2l, 1) := by decide +kernel
theorem d_L_law_581 : decode b_L_law 581 = .ok (.lcmp, 1) := by decide +kernel
theorem d_L_law_582 : decode b_L_law 582 = .ok (.ifCond .eq 5, 3) := by decide +kernel
theorem d_L_law_585 : decode b_L_law 585 = .ok (.iconst 0, 1) := by decide +kernel
theorem d_L_law_586 : decode b_L_law 586 = .ok (.ireturn, 1) := by decide +kernel
theorem d_L_law_587 : decode b_L_law 587 = .ok (.goto 310, 3) := by decide +kernel
theorem d_L_law_590 : decode b_L_law 590 = .ok (.aload_n 1, 1) := by decide +kernel
theorem d_L_law_591 : decode b_L_law 591 = .ok (.aload_n 0, 1) := by decide +kernel
theorem d_L_law_592 : decode b_L_law 592 = .ok (.iload 4, 2) := by decide +kernel
theorem d_L_law_594 : decode b_L_law 594 = .ok (.iconst 1, 1) := by decide +kernel
theorem d_L_law_595 : decode b_L_law 595 = .ok (.iadd, 1) := by decide +kernel
theorem d_L_law_596 : decode b_L_law 596 = .ok (.iaload, 1) := by decide +kernel
theorem d_L_law_597 : decode b_L_law 597 = .ok (.invokevirtual 99, 3) := by decide +kernel
theorem d_L_law_600 : decode b_L_law 600 = .ok (.aload_n 2, 1) := by decide +kernel
theorem d_L_law_601 : decode b_L_law 601 = .ok (.aload_n 0, 1) := by decide +kernel
theorem d_L_law_602 : decode b_L_law 602 = .ok (.iload 4, 2) := by decide +kernel
theorem d_L_law_604 : decode b_L_law 604 = .ok (.iconst 1, 1) := by decide +kernel
theorem d_L_law_605 : decode b_L_law 605 = .ok (.iadd, 1) := by decide +kernel
theorem d_L_law_606 : decode b_L_law 606 = .ok (.iaload, 1) := by decide +kernel
theorem d_L_law_607 : decode b_L_law 607 = .ok (.invokevirtual 103, 3) := by decide +kernel
theorem d_L_law_610 : decode b_L_law 610 = .ok (.if_icmp .eq 287, 3) := by decide +kernel
theorem d_L_law_613 : decode b_L_law 613 = .ok (.iconst 0, 1) := by decide +kernel
theorem d_L_law_614 : decode b_L_law 614 = .ok (.ireturn, 1) := by decide +kernel
theorem d_L_law_615 : decode b_L_law 615 = .ok (.aload_n 1, 1) := by decide +kernel
theorem d_L_law_616 : decode b_L_law 616 = .ok (.aload_n 3, 1) := by decide +kernel
theorem d_L_law_617 : decode b_L_law 617 = .ok (.invokestatic 104, 3) := by decide +kernel
theorem d_L_law_620 : decode b_L_law 620 = .ok (.istore 5, 2) := by decide +kernel
theorem d_L_law_622 : decode b_L_law 622 = .ok (.aload_n 2, 1) := by decide +kernel
theorem d_L_law_623 : decode b_L_law 623 = .ok (.invokevirtual 106, 3) := by decide +kernel
theorem d_L_law_626 : decode b_L_law 626 = .ok (.istore 6, 2) := by decide +kernel
theorem d_L_law_628 : decode b_L_law 628 = .ok (.aload_n 2, 1) := by decide +kernel
theorem d_L_law_629 : decode b_L_law 629 = .ok (.invokevirtual 73, 3) := by decide +kernel
theorem d_L_law_632 : decode b_L_law 632 = .ok (.iload 5, 2) := by decide +kernel
theorem d_L_law_634 : decode b_L_law 634 = .ok (.if_icmp .eq 5, 3) := by decide +kernel
theorem d_L_law_637 : decode b_L_law 637 = .ok (.iconst 0, 1) := by decide +kernel
theorem d_L_law_638 : decode b_L_law 638 = .ok (.ireturn, 1) := by decide +kernel
theorem d_L_law_639 : decode b_L_law 639 = .ok (.iload 5, 2) := by decide +kernel
theorem d_L_law_641 : decode b_L_law 641 = .ok (.ifCond .ne 15, 3) := by decide +kernel
theorem d_L_law_644 : decode b_L_law 644 = .ok (.aload_n 3, 1) := by decide +kernel
theorem d_L_law_645 : decode b_L_law 645 = .ok (.iconst 0, 1) := by decide +kernel
theorem d_L_law_646 : decode b_L_law 646 = .ok (.laload, 1) := by decide +kernel
theorem d_L_law_647 : decode b_L_law 647 = .ok (.iload 6, 2) := by decide +kernel
theorem d_L_law_649 : decode b_L_law 649 = .ok (.i2l, 1) := by decide +kernel
theorem d_L_law_650 : decode b_L_law 650 = .ok (.lcmp, 1) := by decide +kernel
theorem d_L_law_651 : decode b_L_law 651 = .ok (.ifCond .eq 5, 3) := by decide +kernel
theorem d_L_law_654 : decode b_L_law 654 = .ok (.iconst 0, 1) := by decide +kernel
theorem d_L_law_655 : decode b_L_law 655 = .ok (.ireturn, 1) := by decide +kernel
theorem d_L_law_656 : decode b_L_law 656 = .ok (.goto 241, 3) := by decide +kernel
theorem d_L_law_659 : decode b_L_law 659 = .ok (.aload_n 1, 1) := by decide +kernel
theorem d_L_law_660 : decode b_L_law 660 = .ok (.invokevirtual 107, 3) := by decide +kernel
theorem d_L_law_663 : decode b_L_law 663 = .ok (.aload_n 2, 1) := by decide +kernel
theorem d_L_law_664 : decode b_L_law 664 = .ok (.invokevirtual 111, 3) := by decide +kernel
theorem d_L_law_667 : decode b_L_law 667 = .ok (.if_icmp .eq 230, 3) := by decide +kernel
theorem d_L_law_670 : decode b_L_law 670 = .ok (.iconst 0, 1) := by decide +kernel
theorem d_L_law_671 : decode b_L_law 671 = .ok (.ireturn, 1) := by decide +kernel
theorem d_L_law_672 : decode b_L_law 672 = .ok (.aload_n 1, 1) := by decide +kernel
theorem d_L_law_673 : decode b_L_law 673 = .ok (.invokevirtual 112, 3) := by decide +kernel
theorem d_L_law_676 : decode b_L_law 676 = .ok (.aload_n 2, 1) := by decide +kernel
theorem d_L_law_677 : decode b_L_law 677 = .ok (.invokevirtual 115, 3) := by decide +kernel
theorem d_L_law_680 : decode b_L_law 680 = .ok (.if_icmp .eq 217, 3) := by decide +kernel
theorem d_L_law_683 : decode b_L_law 683 = .ok (.iconst 0, 1) := by decide +kernel
theorem d_L_law_684 : decode b_L_law 684 = .ok (.ireturn, 1) := by decide +kernel
theorem d_L_law_685 : decode b_L_law 685 = .ok (.aload_n 1, 1) := by decide +kernel
theorem d_L_law_686 : decode b_L_law 686 = .ok (.aload_n 3, 1) := by decide +kernel
theorem d_L_law_687 : decode b_L_law 687 = .ok (.invokestatic 116, 3) := by decide +kernel
theorem d_L_law_690 : decode b_L_law 690 = .ok (.istore 5, 2) := by decide +kernel
theorem d_L_law_692 : decode b_L_law 692 = .ok (.aload_n 2, 1) := by decide +kernel
theorem d_L_law_693 : decode b_L_law 693 = .ok (.invokevirtual 118, 3) := by decide +kernel
theorem d_L_law_696 : decode b_L_law 696 = .ok (.istore 6, 2) := by decide +kernel
theorem d_L_law_698 : decode b_L_law 698 = .ok (.aload_n 2, 1) := by decide +kernel
theorem d_L_law_699 : decode b_L_law 699 = .ok (.invokevirtual 73, 3) := by decide +kernel
theorem d_L_law_702 : decode b_L_law 702 = .ok (.iload 5, 2) := by decide +kernel
theorem d_L_law_704 : decode b_L_law 704 = .ok (.if_icmp .eq 5, 3) := by decide +kernel
theorem d_L_law_707 : decode b_L_law 707 = .ok (.iconst 0, 1) := by decide +kernel
theorem d_L_law_708 : decode b_L_law 708 = .ok (.ireturn, 1) := by decide +kernel
theorem d_L_law_709 : decode b_L_law 709 = .ok (.iload 5, 2) := by decide +kernel
theorem d_L_law_711 : decode b_L_law 711 = .ok (.ifCond .ne 15, 3) := by decide +kernel
theorem d_L_law_714 : decode b_L_law 714 = .ok (.aload_n 3, 1) := by decide +kernel
theorem d_L_law_715 : decode b_L_law 715 = .ok (.iconst 0, 1) := by decide +kernel
theorem d_L_law_716 : decode b_L_law 716 = .ok (.laload, 1) := by decide +kernel
theorem d_L_law_717 : decode b_L_law 717 = .ok (.iload 6, 2) := by decide +kernel
theorem d_L_law_719 : decode b_L_law 719 = .ok (.i2l, 1) := by decide +kernel
theorem d_L_law_720 : decode b_L_law 720 = .ok (.lcmp, 1) := by decide +kernel
theorem d_L_law_721 : decode b_L_law 721 = .ok (.ifCond .eq 5, 3) := by decide +kernel
theorem d_L_law_724 : decode b_L_law 724 = .ok (.iconst 0, 1) := by decide +kernel
theorem d_L_law_725 : decode b_L_law 725 = .ok (.ireturn, 1) := by decide +kernel
theorem d_L_law_726 : decode b_L_law 726 = .ok (.goto 171, 3) := by decide +kernel
theorem d_L_law_729 : decode b_L_law 729 = .ok (.aload_n 1, 1) := by decide +kernel
theorem d_L_law_730 : decode b_L_law 730 = .ok (.aload_n 0, 1) := by decide +kernel
theorem d_L_law_731 : decode b_L_law 731 = .ok (.iload 4, 2) := by decide +kernel
theorem d_L_law_733 : decode b_L_law 733 = .ok (.iconst 1, 1) := by decide +kernel
theorem d_L_law_734 : decode b_L_law 734 = .ok (.iadd, 1) := by decide +kernel
theorem d_L_law_735 : decode b_L_law 735 = .ok (.iaload, 1) := by decide +kernel
theorem d_L_law_736 : decode b_L_law 736 = .ok (.aload_n 0, 1) := by decide +kernel
theorem d_L_law_737 : decode b_L_law 737 = .ok (.iload 4, 2) := by decide +kernel
theorem d_L_law_739 : decode b_L_law 739 = .ok (.iconst 2, 1) := by decide +kernel
theorem d_L_law_740 : decode b_L_law 740 = .ok (.iadd, 1) := by decide +kernel
theorem d_L_law_741 : decode b_L_law 741 = .ok (.iaload, 1) := by decide +kernel
theorem d_L_law_742 : decode b_L_law 742 = .ok (.aload_n 3, 1) := by decide +kernel
theorem d_L_law_743 : decode b_L_law 743 = .ok (.invokestatic 119, 3) := by decide +kernel
theorem d_L_law_746 : decode b_L_law 746 = .ok (.istore 5, 2) := by decide +kernel
theorem d_L_law_748 : decode b_L_law 748 = .ok (.aload_n 2, 1) := by decide +kernel
theorem d_L_law_749 : decode b_L_law 749 = .ok (.aload_n 0, 1) := by decide +kernel
theorem d_L_law_750 : decode b_L_law 750 = .ok (.iload 4, 2) := by decide +kernel
theorem d_L_law_752 : decode b_L_law 752 = .ok (.iconst 1, 1) := by decide +kernel
theorem d_L_law_753 : decode b_L_law 753 = .ok (.iadd, 1) := by decide +kernel
theorem d_L_law_754 : decode b_L_law 754 = .ok (.iaload, 1) := by decide +kernel
theorem d_L_law_755 : decode b_L_law 755 = .ok (.aload_n 0, 1) := by decide +kernel
theorem d_L_law_756 : decode b_L_law 756 = .ok (.iload 4, 2) := by decide +kernel
theorem d_L_law_758 : decode b_L_law 758 = .ok (.iconst 2, 1) := by decide +kernel
theorem d_L_law_759 : decode b_L_law 759 = .ok (.iadd, 1) := by decide +kernel
theorem d_L_law_760 : decode b_L_law 760 = .ok (.iaload, 1) := by decide +kernel
theorem d_L_law_761 : decode b_L_law 761 = .ok (.invokevirtual 121, 3) := by decide +kernel
theorem d_L_law_764 : decode b_L_law 764 = .ok (.istore 6, 2) := by decide +kernel
theorem d_L_law_766 : decode b_L_law 766 = .ok (.aload_n 2, 1) := by decide +kernel
theorem d_L_law_767 : decode b_L_law 767 = .ok (.invokevirtual 73, 3) := by decide +kernel
theorem d_L_law_770 : decode b_L_law 770 = .ok (.iload 5, 2) := by decide +kernel
theorem d_L_law_772 : decode b_L_law 772 = .ok (.if_icmp .eq 5, 3) := by decide +kernel
theorem d_L_law_775 : decode b_L_law 775 = .ok (.iconst 0, 1) := by decide +kernel
theorem d_L_law_776 : decode b_L_law 776 = .ok (.ireturn, 1) := by decide +kernel
theorem d_L_law_777 : decode b_L_law 777 = .ok (.iload 5, 2) := by decide +kernel
theorem d_L_law_779 : decode b_L_law 779 = .ok (.ifCond .ne 15, 3) := by decide +kernel
theorem d_L_law_782 : decode b_L_law 782 = .ok (.aload_n 3, 1) := by decide +kernel
theorem d_L_law_783 : decode b_L_law 783 = .ok (.iconst 0, 1) := by decide +kernel
theorem d_L_law_784 : decode b_L_law 784 = .ok (.laload, 1) := by decide +kernel
theorem d_L_law_785 : decode b_L_law 785 = .ok (.iload 6, 2) := by decide +kernel
theorem d_L_law_787 : decode b_L_law 787 = .ok (.i2l, 1) := by decide +kernel
theorem d_L_law_788 : decode b_L_law 788 = .ok (.lcmp, 1) := by decide +kernel
theorem d_L_law_789 : decode b_L_law 789 = .ok (.ifCond .eq 5, 3) := by decide +kernel
theorem d_L_law_792 : decode b_L_law 792 = .ok (.iconst 0, 1) := by decide +kernel
theorem d_L_law_793 : decode b_L_law 793 = .ok (.ireturn, 1) := by decide +kernel
theorem d_L_law_794 : decode b_L_law 794 = .ok (.goto 103, 3) := by decide +kernel
theorem d_L_law_797 : decode b_L_law 797 = .ok (.aload_n 1, 1) := by decide +kernel
theorem d_L_law_798 : decode b_L_law 798 = .ok (.aload_n 3, 1) := by decide +kernel
theorem d_L_law_799 : decode b_L_law 799 = .ok (.invokestatic 122, 3) := by decide +kernel
theorem d_L_law_802 : decode b_L_law 802 = .ok (.istore 5, 2) := by decide +kernel
theorem d_L_law_804 : decode b_L_law 804 = .ok (.aload_n 2, 1) := by decide +kernel
theorem d_L_law_805 : decode b_L_law 805 = .ok (.invokevirtual 124, 3) := by decide +kernel
theorem d_L_law_808 : decode b_L_law 808 = .ok (.istore 6, 2) := by decide +kernel
theorem d_L_law_810 : decode b_L_law 810 = .ok (.aload_n 2, 1) := by decide +kernel
theorem d_L_law_811 : decode b_L_law 811 = .ok (.invokevirtual 73, 3) := by decide +kernel
theorem d_L_law_814 : decode b_L_law 814 = .ok (.iload 5, 2) := by decide +kernel
theorem d_L_law_816 : decode b_L_law 816 = .ok (.if_icmp .eq 5, 3) := by decide +kernel
theorem d_L_law_819 : decode b_L_law 819 = .ok (.iconst 0, 1) := by decide +kernel
theorem d_L_law_820 : decode b_L_law 820 = .ok (.ireturn, 1) := by decide +kernel
theorem d_L_law_821 : decode b_L_law 821 = .ok (.iload 5, 2) := by decide +kernel
theorem d_L_law_823 : decode b_L_law 823 = .ok (.ifCond .ne 15, 3) := by decide +kernel
theorem d_L_law_826 : decode b_L_law 826 = .ok (.aload_n 3, 1) := by decide +kernel
theorem d_L_law_827 : decode b_L_law 827 = .ok (.iconst 0, 1) := by decide +kernel
theorem d_L_law_828 : decode b_L_law 828 = .ok (.laload, 1) := by decide +kernel
theorem d_L_law_829 : decode b_L_law 829 = .ok (.iload 6, 2) := by decide +kernel
theorem d_L_law_831 : decode b_L_law 831 = .ok (.i2l, 1) := by decide +kernel
theorem d_L_law_832 : decode b_L_law 832 = .ok (.lcmp, 1) := by decide +kernel
theorem d_L_law_833 : decode b_L_law 833 = .ok (.ifCond .eq 5, 3) := by decide +kernel
theorem d_L_law_836 : decode b_L_law 836 = .ok (.iconst 0, 1) := by decide +kernel
theorem d_L_law_837 : decode b_L_law 837 = .ok (.ireturn, 1) := by decide +kernel
theorem d_L_law_838 : decode b_L_law 838 = .ok (.goto 59, 3) := by decide +kernel
theorem d_L_law_841 : decode b_L_law 841 = .ok (.aload_n 1, 1) := by decide +kernel
theorem d_L_law_842 : decode b_L_law 842 = .ok (.aload_n 0, 1) := by decide +kernel
theorem d_L_law_843 : decode b_L_law 843 = .ok (.iload 4, 2) := by decide +kernel
theorem d_L_law_845 : decode b_L_law 845 = .ok (.iconst 1, 1) := by decide +kernel
theorem d_L_law_846 : decode b_L_law 846 = .ok (.iadd, 1) := by decide +kernel
theorem d_L_law_847 : decode b_L_law 847 = .ok (.iaload, 1) := by decide +kernel
theorem d_L_law_848 : decode b_L_law 848 = .ok (.aload_n 3, 1) := by decide +kernel
theorem d_L_law_849 : decode b_L_law 849 = .ok (.invokestatic 125, 3) := by decide +kernel
theorem d_L_law_852 : decode b_L_law 852 = .ok (.istore 5, 2) := by decide +kernel
theorem d_L_law_854 : decode b_L_law 854 = .ok (.aload_n 2, 1) := by decide +kernel
theorem d_L_law_855 : decode b_L_law 855 = .ok (.aload_n 0, 1) := by decide +kernel
theorem d_L_law_856 : decode b_L_law 856 = .ok (.iload 4, 2) := by decide +kernel
theorem d_L_law_858 : decode b_L_law 858 = .ok (.iconst 1, 1) := by decide +kernel
theorem d_L_law_859 : decode b_L_law 859 = .ok (.iadd, 1) := by decide +kernel
theorem d_L_law_860 : decode b_L_law 860 = .ok (.iaload, 1) := by decide +kernel
theorem d_L_law_861 : decode b_L_law 861 = .ok (.invokevirtual 127, 3) := by decide +kernel
theorem d_L_law_864 : decode b_L_law 864 = .ok (.istore 6, 2) := by decide +kernel
theorem d_L_law_866 : decode b_L_law 866 = .ok (.aload_n 2, 1) := by decide +kernel
theorem d_L_law_867 : decode b_L_law 867 = .ok (.invokevirtual 73, 3) := by decide +kernel
theorem d_L_law_870 : decode b_L_law 870 = .ok (.iload 5, 2) := by decide +kernel
theorem d_L_law_872 : decode b_L_law 872 = .ok (.if_icmp .eq 5, 3) := by decide +kernel
theorem d_L_law_875 : decode b_L_law 875 = .ok (.iconst 0, 1) := by decide +kernel
theorem d_L_law_876 : decode b_L_law 876 = .ok (.ireturn, 1) := by decide +kernel
theorem d_L_law_877 : decode b_L_law 877 = .ok (.iload 5, 2) := by decide +kernel
theorem d_L_law_879 : decode b_L_law 879 = .ok (.ifCond .ne 15, 3) := by decide +kernel
theorem d_L_law_882 : decode b_L_law 882 = .ok (.aload_n 3, 1) := by decide +kernel
theorem d_L_law_883 : decode b_L_law 883 = .ok (.iconst 0, 1) := by decide +kernel
theorem d_L_law_884 : decode b_L_law 884 = .ok (.laload, 1) := by decide +kernel
theorem d_L_law_885 : decode b_L_law 885 = .ok (.iload 6, 2) := by decide +kernel
theorem d_L_law_887 : decode b_L_law 887 = .ok (.i2l, 1) := by decide +kernel
theorem d_L_law_888 : decode b_L_law 888 = .ok (.lcmp, 1) := by decide +kernel
theorem d_L_law_889 : decode b_L_law 889 = .ok (.ifCond .eq 5, 3) := by decide +kernel
theorem d_L_law_892 : decode b_L_law 892 = .ok (.iconst 0, 1) := by decide +kernel
theorem d_L_law_893 : decode b_L_law 893 = .ok (.ireturn, 1) := by decide +kernel
theorem d_L_law_894 : decode b_L_law 894 = .ok (.goto 3, 3) := by decide +kernel
theorem d_L_law_897 : decode b_L_law 897 = .ok (.iinc 4 5, 3) := by decide +kernel
theorem d_L_law_900 : decode b_L_law 900 = .ok (.goto (-877), 3) := by decide +kernel
theorem d_L_law_903 : decode b_L_law 903 = .ok (.iconst 1, 1) := by decide +kernel
theorem d_L_law_904 : decode b_L_law 904 = .ok (.ireturn, 1) := by decide +kernel
