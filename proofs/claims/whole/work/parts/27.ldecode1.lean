theorem dd_Law_law_468 : decode code 468 = .ok (.invokevirtual 51, 3) := by decide +kernel
theorem dd_Law_law_471 : decode code 471 = .ok (.aload_n 2, 1) := by decide +kernel
theorem dd_Law_law_472 : decode code 472 = .ok (.aload_n 0, 1) := by decide +kernel
theorem dd_Law_law_473 : decode code 473 = .ok (.iload_n 3, 1) := by decide +kernel
theorem dd_Law_law_474 : decode code 474 = .ok (.iconst 1, 1) := by decide +kernel
theorem dd_Law_law_475 : decode code 475 = .ok (.iadd, 1) := by decide +kernel
theorem dd_Law_law_476 : decode code 476 = .ok (.iaload, 1) := by decide +kernel
theorem dd_Law_law_477 : decode code 477 = .ok (.aload_n 0, 1) := by decide +kernel
theorem dd_Law_law_478 : decode code 478 = .ok (.iload_n 3, 1) := by decide +kernel
theorem dd_Law_law_479 : decode code 479 = .ok (.iconst 2, 1) := by decide +kernel
theorem dd_Law_law_480 : decode code 480 = .ok (.iadd, 1) := by decide +kernel
theorem dd_Law_law_481 : decode code 481 = .ok (.iaload, 1) := by decide +kernel
theorem dd_Law_law_482 : decode code 482 = .ok (.aload_n 0, 1) := by decide +kernel
theorem dd_Law_law_483 : decode code 483 = .ok (.iload_n 3, 1) := by decide +kernel
theorem dd_Law_law_484 : decode code 484 = .ok (.iconst 3, 1) := by decide +kernel
theorem dd_Law_law_485 : decode code 485 = .ok (.iadd, 1) := by decide +kernel
theorem dd_Law_law_486 : decode code 486 = .ok (.iaload, 1) := by decide +kernel
theorem dd_Law_law_487 : decode code 487 = .ok (.aload_n 0, 1) := by decide +kernel
theorem dd_Law_law_488 : decode code 488 = .ok (.iload_n 3, 1) := by decide +kernel
theorem dd_Law_law_489 : decode code 489 = .ok (.iconst 4, 1) := by decide +kernel
theorem dd_Law_law_490 : decode code 490 = .ok (.iadd, 1) := by decide +kernel
theorem dd_Law_law_491 : decode code 491 = .ok (.iaload, 1) := by decide +kernel
theorem dd_Law_law_492 : decode code 492 = .ok (.aload_n 0, 1) := by decide +kernel
theorem dd_Law_law_493 : decode code 493 = .ok (.iload_n 3, 1) := by decide +kernel
theorem dd_Law_law_494 : decode code 494 = .ok (.iconst 5, 1) := by decide +kernel
theorem dd_Law_law_495 : decode code 495 = .ok (.iadd, 1) := by decide +kernel
theorem dd_Law_law_496 : decode code 496 = .ok (.iaload, 1) := by decide +kernel
theorem dd_Law_law_497 : decode code 497 = .ok (.invokevirtual 55, 3) := by decide +kernel
theorem dd_Law_law_500 : decode code 500 = .ok (.if_icmp .eq 566, 3) := by decide +kernel
theorem dd_Law_law_503 : decode code 503 = .ok (.iconst 0, 1) := by decide +kernel
theorem dd_Law_law_504 : decode code 504 = .ok (.ireturn, 1) := by decide +kernel
theorem dd_Law_law_505 : decode code 505 = .ok (.aload_n 1, 1) := by decide +kernel
theorem dd_Law_law_506 : decode code 506 = .ok (.aload_n 0, 1) := by decide +kernel
theorem dd_Law_law_507 : decode code 507 = .ok (.iload_n 3, 1) := by decide +kernel
theorem dd_Law_law_508 : decode code 508 = .ok (.iconst 1, 1) := by decide +kernel
theorem dd_Law_law_509 : decode code 509 = .ok (.iadd, 1) := by decide +kernel
theorem dd_Law_law_510 : decode code 510 = .ok (.iaload, 1) := by decide +kernel
theorem dd_Law_law_511 : decode code 511 = .ok (.aload_n 0, 1) := by decide +kernel
theorem dd_Law_law_512 : decode code 512 = .ok (.iload_n 3, 1) := by decide +kernel
theorem dd_Law_law_513 : decode code 513 = .ok (.iconst 2, 1) := by decide +kernel
theorem dd_Law_law_514 : decode code 514 = .ok (.iadd, 1) := by decide +kernel
theorem dd_Law_law_515 : decode code 515 = .ok (.iaload, 1) := by decide +kernel
theorem dd_Law_law_516 : decode code 516 = .ok (.aload_n 0, 1) := by decide +kernel
theorem dd_Law_law_517 : decode code 517 = .ok (.iload_n 3, 1) := by decide +kernel
theorem dd_Law_law_518 : decode code 518 = .ok (.iconst 3, 1) := by decide +kernel
theorem dd_Law_law_519 : decode code 519 = .ok (.iadd, 1) := by decide +kernel
theorem dd_Law_law_520 : decode code 520 = .ok (.iaload, 1) := by decide +kernel
theorem dd_Law_law_521 : decode code 521 = .ok (.aload_n 0, 1) := by decide +kernel
theorem dd_Law_law_522 : decode code 522 = .ok (.iload_n 3, 1) := by decide +kernel
theorem dd_Law_law_523 : decode code 523 = .ok (.iconst 4, 1) := by decide +kernel
theorem dd_Law_law_524 : decode code 524 = .ok (.iadd, 1) := by decide +kernel
theorem dd_Law_law_525 : decode code 525 = .ok (.iaload, 1) := by decide +kernel
theorem dd_Law_law_526 : decode code 526 = .ok (.aload_n 0, 1) := by decide +kernel
theorem dd_Law_law_527 : decode code 527 = .ok (.iload_n 3, 1) := by decide +kernel
theorem dd_Law_law_528 : decode code 528 = .ok (.iconst 5, 1) := by decide +kernel
theorem dd_Law_law_529 : decode code 529 = .ok (.iadd, 1) := by decide +kernel
theorem dd_Law_law_530 : decode code 530 = .ok (.iaload, 1) := by decide +kernel
theorem dd_Law_law_531 : decode code 531 = .ok (.ifCond .eq 7, 3) := by decide +kernel
theorem dd_Law_law_534 : decode code 534 = .ok (.iconst 1, 1) := by decide +kernel
theorem dd_Law_law_535 : decode code 535 = .ok (.goto 4, 3) := by decide +kernel
theorem dd_Law_law_538 : decode code 538 = .ok (.iconst 0, 1) := by decide +kernel
theorem dd_Law_law_539 : decode code 539 = .ok (.invokevirtual 56, 3) := by decide +kernel
theorem dd_Law_law_542 : decode code 542 = .ok (.aload_n 2, 1) := by decide +kernel
theorem dd_Law_law_543 : decode code 543 = .ok (.aload_n 0, 1) := by decide +kernel
theorem dd_Law_law_544 : decode code 544 = .ok (.iload_n 3, 1) := by decide +kernel
theorem dd_Law_law_545 : decode code 545 = .ok (.iconst 1, 1) := by decide +kernel
theorem dd_Law_law_546 : decode code 546 = .ok (.iadd, 1) := by decide +kernel
theorem dd_Law_law_547 : decode code 547 = .ok (.iaload, 1) := by decide +kernel
theorem dd_Law_law_548 : decode code 548 = .ok (.aload_n 0, 1) := by decide +kernel
theorem dd_Law_law_549 : decode code 549 = .ok (.iload_n 3, 1) := by decide +kernel
theorem dd_Law_law_550 : decode code 550 = .ok (.iconst 2, 1) := by decide +kernel
theorem dd_Law_law_551 : decode code 551 = .ok (.iadd, 1) := by decide +kernel
theorem dd_Law_law_552 : decode code 552 = .ok (.iaload, 1) := by decide +kernel
theorem dd_Law_law_553 : decode code 553 = .ok (.aload_n 0, 1) := by decide +kernel
theorem dd_Law_law_554 : decode code 554 = .ok (.iload_n 3, 1) := by decide +kernel
theorem dd_Law_law_555 : decode code 555 = .ok (.iconst 3, 1) := by decide +kernel
theorem dd_Law_law_556 : decode code 556 = .ok (.iadd, 1) := by decide +kernel
theorem dd_Law_law_557 : decode code 557 = .ok (.iaload, 1) := by decide +kernel
theorem dd_Law_law_558 : decode code 558 = .ok (.aload_n 0, 1) := by decide +kernel
theorem dd_Law_law_559 : decode code 559 = .ok (.iload_n 3, 1) := by decide +kernel
theorem dd_Law_law_560 : decode code 560 = .ok (.iconst 4, 1) := by decide +kernel
theorem dd_Law_law_561 : decode code 561 = .ok (.iadd, 1) := by decide +kernel
theorem dd_Law_law_562 : decode code 562 = .ok (.iaload, 1) := by decide +kernel
theorem dd_Law_law_563 : decode code 563 = .ok (.aload_n 0, 1) := by decide +kernel
theorem dd_Law_law_564 : decode code 564 = .ok (.iload_n 3, 1) := by decide +kernel
theorem dd_Law_law_565 : decode code 565 = .ok (.iconst 5, 1) := by decide +kernel
theorem dd_Law_law_566 : decode code 566 = .ok (.iadd, 1) := by decide +kernel
theorem dd_Law_law_567 : decode code 567 = .ok (.iaload, 1) := by decide +kernel
theorem dd_Law_law_568 : decode code 568 = .ok (.ifCond .eq 7, 3) := by decide +kernel
theorem dd_Law_law_571 : decode code 571 = .ok (.iconst 1, 1) := by decide +kernel
theorem dd_Law_law_572 : decode code 572 = .ok (.goto 4, 3) := by decide +kernel
theorem dd_Law_law_575 : decode code 575 = .ok (.iconst 0, 1) := by decide +kernel
theorem dd_Law_law_576 : decode code 576 = .ok (.invokevirtual 60, 3) := by decide +kernel
theorem dd_Law_law_579 : decode code 579 = .ok (.if_icmp .eq 487, 3) := by decide +kernel
theorem dd_Law_law_582 : decode code 582 = .ok (.iconst 0, 1) := by decide +kernel
theorem dd_Law_law_583 : decode code 583 = .ok (.ireturn, 1) := by decide +kernel
theorem dd_Law_law_584 : decode code 584 = .ok (.aload_n 1, 1) := by decide +kernel
theorem dd_Law_law_585 : decode code 585 = .ok (.aload_n 0, 1) := by decide +kernel
theorem dd_Law_law_586 : decode code 586 = .ok (.iload_n 3, 1) := by decide +kernel
theorem dd_Law_law_587 : decode code 587 = .ok (.iconst 1, 1) := by decide +kernel
theorem dd_Law_law_588 : decode code 588 = .ok (.iadd, 1) := by decide +kernel
theorem dd_Law_law_589 : decode code 589 = .ok (.iaload, 1) := by decide +kernel
theorem dd_Law_law_590 : decode code 590 = .ok (.aload_n 0, 1) := by decide +kernel
theorem dd_Law_law_591 : decode code 591 = .ok (.iload_n 3, 1) := by decide +kernel
theorem dd_Law_law_592 : decode code 592 = .ok (.iconst 2, 1) := by decide +kernel
theorem dd_Law_law_593 : decode code 593 = .ok (.iadd, 1) := by decide +kernel
theorem dd_Law_law_594 : decode code 594 = .ok (.iaload, 1) := by decide +kernel
theorem dd_Law_law_595 : decode code 595 = .ok (.aload_n 0, 1) := by decide +kernel
theorem dd_Law_law_596 : decode code 596 = .ok (.iload_n 3, 1) := by decide +kernel
theorem dd_Law_law_597 : decode code 597 = .ok (.iconst 3, 1) := by decide +kernel
theorem dd_Law_law_598 : decode code 598 = .ok (.iadd, 1) := by decide +kernel
theorem dd_Law_law_599 : decode code 599 = .ok (.iaload, 1) := by decide +kernel
theorem dd_Law_law_600 : decode code 600 = .ok (.aload_n 0, 1) := by decide +kernel
theorem dd_Law_law_601 : decode code 601 = .ok (.iload_n 3, 1) := by decide +kernel
theorem dd_Law_law_602 : decode code 602 = .ok (.iconst 4, 1) := by decide +kernel
theorem dd_Law_law_603 : decode code 603 = .ok (.iadd, 1) := by decide +kernel
theorem dd_Law_law_604 : decode code 604 = .ok (.iaload, 1) := by decide +kernel
theorem dd_Law_law_605 : decode code 605 = .ok (.invokevirtual 61, 3) := by decide +kernel
theorem dd_Law_law_608 : decode code 608 = .ok (.aload_n 2, 1) := by decide +kernel
theorem dd_Law_law_609 : decode code 609 = .ok (.aload_n 0, 1) := by decide +kernel
theorem dd_Law_law_610 : decode code 610 = .ok (.iload_n 3, 1) := by decide +kernel
theorem dd_Law_law_611 : decode code 611 = .ok (.iconst 1, 1) := by decide +kernel
theorem dd_Law_law_612 : decode code 612 = .ok (.iadd, 1) := by decide +kernel
theorem dd_Law_law_613 : decode code 613 = .ok (.iaload, 1) := by decide +kernel
theorem dd_Law_law_614 : decode code 614 = .ok (.aload_n 0, 1) := by decide +kernel
theorem dd_Law_law_615 : decode code 615 = .ok (.iload_n 3, 1) := by decide +kernel
theorem dd_Law_law_616 : decode code 616 = .ok (.iconst 2, 1) := by decide +kernel
theorem dd_Law_law_617 : decode code 617 = .ok (.iadd, 1) := by decide +kernel
theorem dd_Law_law_618 : decode code 618 = .ok (.iaload, 1) := by decide +kernel
theorem dd_Law_law_619 : decode code 619 = .ok (.aload_n 0, 1) := by decide +kernel
theorem dd_Law_law_620 : decode code 620 = .ok (.iload_n 3, 1) := by decide +kernel
theorem dd_Law_law_621 : decode code 621 = .ok (.iconst 3, 1) := by decide +kernel
theorem dd_Law_law_622 : decode code 622 = .ok (.iadd, 1) := by decide +kernel
theorem dd_Law_law_623 : decode code 623 = .ok (.iaload, 1) := by decide +kernel
theorem dd_Law_law_624 : decode code 624 = .ok (.aload_n 0, 1) := by decide +kernel
theorem dd_Law_law_625 : decode code 625 = .ok (.iload_n 3, 1) := by decide +kernel
theorem dd_Law_law_626 : decode code 626 = .ok (.iconst 4, 1) := by decide +kernel
theorem dd_Law_law_627 : decode code 627 = .ok (.iadd, 1) := by decide +kernel
theorem dd_Law_law_628 : decode code 628 = .ok (.iaload, 1) := by decide +kernel
theorem dd_Law_law_629 : decode code 629 = .ok (.invokevirtual 64, 3) := by decide +kernel
theorem dd_Law_law_632 : decode code 632 = .ok (.if_icmp .eq 434, 3) := by decide +kernel
theorem dd_Law_law_635 : decode code 635 = .ok (.iconst 0, 1) := by decide +kernel
theorem dd_Law_law_636 : decode code 636 = .ok (.ireturn, 1) := by decide +kernel
theorem dd_Law_law_637 : decode code 637 = .ok (.aload_n 1, 1) := by decide +kernel
theorem dd_Law_law_638 : decode code 638 = .ok (.aload_n 0, 1) := by decide +kernel
theorem dd_Law_law_639 : decode code 639 = .ok (.iload_n 3, 1) := by decide +kernel
theorem dd_Law_law_640 : decode code 640 = .ok (.iconst 1, 1) := by decide +kernel
theorem dd_Law_law_641 : decode code 641 = .ok (.iadd, 1) := by decide +kernel
theorem dd_Law_law_642 : decode code 642 = .ok (.iaload, 1) := by decide +kernel
theorem dd_Law_law_643 : decode code 643 = .ok (.aload_n 0, 1) := by decide +kernel
theorem dd_Law_law_644 : decode code 644 = .ok (.iload_n 3, 1) := by decide +kernel
theorem dd_Law_law_645 : decode code 645 = .ok (.iconst 2, 1) := by decide +kernel
theorem dd_Law_law_646 : decode code 646 = .ok (.iadd, 1) := by decide +kernel
theorem dd_Law_law_647 : decode code 647 = .ok (.iaload, 1) := by decide +kernel
theorem dd_Law_law_648 : decode code 648 = .ok (.aload_n 0, 1) := by decide +kernel
theorem dd_Law_law_649 : decode code 649 = .ok (.iload_n 3, 1) := by decide +kernel
theorem dd_Law_law_650 : decode code 650 = .ok (.iconst 3, 1) := by decide +kernel
theorem dd_Law_law_651 : decode code 651 = .ok (.iadd, 1) := by decide +kernel
theorem dd_Law_law_652 : decode code 652 = .ok (.iaload, 1) := by decide +kernel
theorem dd_Law_law_653 : decode code 653 = .ok (.aload_n 0, 1) := by decide +kernel
theorem dd_Law_law_654 : decode code 654 = .ok (.iload_n 3, 1) := by decide +kernel
theorem dd_Law_law_655 : decode code 655 = .ok (.iconst 4, 1) := by decide +kernel
theorem dd_Law_law_656 : decode code 656 = .ok (.iadd, 1) := by decide +kernel
theorem dd_Law_law_657 : decode code 657 = .ok (.iaload, 1) := by decide +kernel
theorem dd_Law_law_658 : decode code 658 = .ok (.aload_n 0, 1) := by decide +kernel
theorem dd_Law_law_659 : decode code 659 = .ok (.iload_n 3, 1) := by decide +kernel
theorem dd_Law_law_660 : decode code 660 = .ok (.iconst 5, 1) := by decide +kernel
theorem dd_Law_law_661 : decode code 661 = .ok (.iadd, 1) := by decide +kernel
theorem dd_Law_law_662 : decode code 662 = .ok (.iaload, 1) := by decide +kernel
theorem dd_Law_law_663 : decode code 663 = .ok (.ifCond .eq 7, 3) := by decide +kernel
theorem dd_Law_law_666 : decode code 666 = .ok (.iconst 1, 1) := by decide +kernel
theorem dd_Law_law_667 : decode code 667 = .ok (.goto 4, 3) := by decide +kernel
theorem dd_Law_law_670 : decode code 670 = .ok (.iconst 0, 1) := by decide +kernel
theorem dd_Law_law_671 : decode code 671 = .ok (.invokevirtual 65, 3) := by decide +kernel
theorem dd_Law_law_674 : decode code 674 = .ok (.aload_n 2, 1) := by decide +kernel
theorem dd_Law_law_675 : decode code 675 = .ok (.aload_n 0, 1) := by decide +kernel
theorem dd_Law_law_676 : decode code 676 = .ok (.iload_n 3, 1) := by decide +kernel
theorem dd_Law_law_677 : decode code 677 = .ok (.iconst 1, 1) := by decide +kernel
theorem dd_Law_law_678 : decode code 678 = .ok (.iadd, 1) := by decide +kernel
theorem dd_Law_law_679 : decode code 679 = .ok (.iaload, 1) := by decide +kernel
theorem dd_Law_law_680 : decode code 680 = .ok (.aload_n 0, 1) := by decide +kernel
theorem dd_Law_law_681 : decode code 681 = .ok (.iload_n 3, 1) := by decide +kernel
theorem dd_Law_law_682 : decode code 682 = .ok (.iconst 2, 1) := by decide +kernel
theorem dd_Law_law_683 : decode code 683 = .ok (.iadd, 1) := by decide +kernel
theorem dd_Law_law_684 : decode code 684 = .ok (.iaload, 1) := by decide +kernel
theorem dd_Law_law_685 : decode code 685 = .ok (.aload_n 0, 1) := by decide +kernel
theorem dd_Law_law_686 : decode code 686 = .ok (.iload_n 3, 1) := by decide +kernel
theorem dd_Law_law_687 : decode code 687 = .ok (.iconst 3, 1) := by decide +kernel
theorem dd_Law_law_688 : decode code 688 = .ok (.iadd, 1) := by decide +kernel
theorem dd_Law_law_689 : decode code 689 = .ok (.iaload, 1) := by decide +kernel
theorem dd_Law_law_690 : decode code 690 = .ok (.aload_n 0, 1) := by decide +kernel
theorem dd_Law_law_691 : decode code 691 = .ok (.iload_n 3, 1) := by decide +kernel
theorem dd_Law_law_692 : decode code 692 = .ok (.iconst 4, 1) := by decide +kernel
theorem dd_Law_law_693 : decode code 693 = .ok (.iadd, 1) := by decide +kernel
theorem dd_Law_law_694 : decode code 694 = .ok (.iaload, 1) := by decide +kernel
theorem dd_Law_law_695 : decode code 695 = .ok (.aload_n 0, 1) := by decide +kernel
theorem dd_Law_law_696 : decode code 696 = .ok (.iload_n 3, 1) := by decide +kernel
theorem dd_Law_law_697 : decode code 697 = .ok (.iconst 5, 1) := by decide +kernel
theorem dd_Law_law_698 : decode code 698 = .ok (.iadd, 1) := by decide +kernel
theorem dd_Law_law_699 : decode code 699 = .ok (.iaload, 1) := by decide +kernel
theorem dd_Law_law_700 : decode code 700 = .ok (.ifCond .eq 7, 3) := by decide +kernel
theorem dd_Law_law_703 : decode code 703 = .ok (.iconst 1, 1) := by decide +kernel
theorem dd_Law_law_704 : decode code 704 = .ok (.goto 4, 3) := by decide +kernel
theorem dd_Law_law_707 : decode code 707 = .ok (.iconst 0, 1) := by decide +kernel
theorem dd_Law_law_708 : decode code 708 = .ok (.invokevirtual 68, 3) := by decide +kernel
theorem dd_Law_law_711 : decode code 711 = .ok (.if_icmp .eq 355, 3) := by decide +kernel
theorem dd_Law_law_714 : decode code 714 = .ok (.iconst 0, 1) := by decide +kernel
theorem dd_Law_law_715 : decode code 715 = .ok (.ireturn, 1) := by decide +kernel
theorem dd_Law_law_716 : decode code 716 = .ok (.aload_n 1, 1) := by decide +kernel
theorem dd_Law_law_717 : decode code 717 = .ok (.invokevirtual 69, 3) := by decide +kernel
theorem dd_Law_law_720 : decode code 720 = .ok (.aload_n 2, 1) := by decide +kernel
theorem dd_Law_law_721 : decode code 721 = .ok (.invokevirtual 73, 3) := by decide +kernel
theorem dd_Law_law_724 : decode code 724 = .ok (.if_icmp .eq 342, 3) := by decide +kernel
theorem dd_Law_law_727 : decode code 727 = .ok (.iconst 0, 1) := by decide +kernel
theorem dd_Law_law_728 : decode code 728 = .ok (.ireturn, 1) := by decide +kernel
theorem dd_Law_law_729 : decode code 729 = .ok (.aload_n 1, 1) := by decide +kernel
theorem dd_Law_law_730 : decode code 730 = .ok (.aload_n 0, 1) := by decide +kernel
theorem dd_Law_law_731 : decode code 731 = .ok (.iload_n 3, 1) := by decide +kernel
theorem dd_Law_law_732 : decode code 732 = .ok (.iconst 1, 1) := by decide +kernel
theorem dd_Law_law_733 : decode code 733 = .ok (.iadd, 1) := by decide +kernel
theorem dd_Law_law_734 : decode code 734 = .ok (.iaload, 1) := by decide +kernel
theorem dd_Law_law_735 : decode code 735 = .ok (.invokevirtual 74, 3) := by decide +kernel
theorem dd_Law_law_738 : decode code 738 = .ok (.aload_n 2, 1) := by decide +kernel
theorem dd_Law_law_739 : decode code 739 = .ok (.aload_n 0, 1) := by decide +kernel
theorem dd_Law_law_740 : decode code 740 = .ok (.iload_n 3, 1) := by decide +kernel
theorem dd_Law_law_741 : decode code 741 = .ok (.iconst 1, 1) := by decide +kernel
theorem dd_Law_law_742 : decode code 742 = .ok (.iadd, 1) := by decide +kernel
theorem dd_Law_law_743 : decode code 743 = .ok (.iaload, 1) := by decide +kernel
theorem dd_Law_law_744 : decode code 744 = .ok (.invokevirtual 77, 3) := by decide +kernel
theorem dd_Law_law_747 : decode code 747 = .ok (.if_icmp .eq 319, 3) := by decide +kernel
theorem dd_Law_law_750 : decode code 750 = .ok (.iconst 0, 1) := by decide +kernel
theorem dd_Law_law_751 : decode code 751 = .ok (.ireturn, 1) := by decide +kernel
theorem dd_Law_law_752 : decode code 752 = .ok (.aload_n 1, 1) := by decide +kernel
theorem dd_Law_law_753 : decode code 753 = .ok (.aload_n 0, 1) := by decide +kernel
theorem dd_Law_law_754 : decode code 754 = .ok (.iload_n 3, 1) := by decide +kernel
theorem dd_Law_law_755 : decode code 755 = .ok (.iconst 1, 1) := by decide +kernel
theorem dd_Law_law_756 : decode code 756 = .ok (.iadd, 1) := by decide +kernel
theorem dd_Law_law_757 : decode code 757 = .ok (.iaload, 1) := by decide +kernel
theorem dd_Law_law_758 : decode code 758 = .ok (.aload_n 0, 1) := by decide +kernel
theorem dd_Law_law_759 : decode code 759 = .ok (.iload_n 3, 1) := by decide +kernel
theorem dd_Law_law_760 : decode code 760 = .ok (.iconst 2, 1) := by decide +kernel
theorem dd_Law_law_761 : decode code 761 = .ok (.iadd, 1) := by decide +kernel
theorem dd_Law_law_762 : decode code 762 = .ok (.iaload, 1) := by decide +kernel
theorem dd_Law_law_763 : decode code 763 = .ok (.invokevirtual 78, 3) := by decide +kernel
theorem dd_Law_law_766 : decode code 766 = .ok (.aload_n 2, 1) := by decide +kernel
theorem dd_Law_law_767 : decode code 767 = .ok (.aload_n 0, 1) := by decide +kernel
theorem dd_Law_law_768 : decode code 768 = .ok (.iload_n 3, 1) := by decide +kernel
theorem dd_Law_law_769 : decode code 769 = .ok (.iconst 1, 1) := by decide +kernel
theorem dd_Law_law_770 : decode code 770 = .ok (.iadd, 1) := by decide +kernel
theorem dd_Law_law_771 : decode code 771 = .ok (.iaload, 1) := by decide +kernel
theorem dd_Law_law_772 : decode code 772 = .ok (.aload_n 0, 1) := by decide +kernel
theorem dd_Law_law_773 : decode code 773 = .ok (.iload_n 3, 1) := by decide +kernel
theorem dd_Law_law_774 : decode code 774 = .ok (.iconst 2, 1) := by decide +kernel
theorem dd_Law_law_775 : decode code 775 = .ok (.iadd, 1) := by decide +kernel
theorem dd_Law_law_776 : decode code 776 = .ok (.iaload, 1) := by decide +kernel
theorem dd_Law_law_777 : decode code 777 = .ok (.invokevirtual 81, 3) := by decide +kernel
theorem dd_Law_law_780 : decode code 780 = .ok (.if_icmp .eq 286, 3) := by decide +kernel
theorem dd_Law_law_783 : decode code 783 = .ok (.iconst 0, 1) := by decide +kernel
theorem dd_Law_law_784 : decode code 784 = .ok (.ireturn, 1) := by decide +kernel
theorem dd_Law_law_785 : decode code 785 = .ok (.aload_n 1, 1) := by decide +kernel
theorem dd_Law_law_786 : decode code 786 = .ok (.aload_n 0, 1) := by decide +kernel
theorem dd_Law_law_787 : decode code 787 = .ok (.iload_n 3, 1) := by decide +kernel
theorem dd_Law_law_788 : decode code 788 = .ok (.iconst 1, 1) := by decide +kernel
theorem dd_Law_law_789 : decode code 789 = .ok (.iadd, 1) := by decide +kernel
theorem dd_Law_law_790 : decode code 790 = .ok (.iaload, 1) := by decide +kernel
theorem dd_Law_law_791 : decode code 791 = .ok (.aload_n 0, 1) := by decide +kernel
theorem dd_Law_law_792 : decode code 792 = .ok (.iload_n 3, 1) := by decide +kernel
theorem dd_Law_law_793 : decode code 793 = .ok (.iconst 2, 1) := by decide +kernel
theorem dd_Law_law_794 : decode code 794 = .ok (.iadd, 1) := by decide +kernel
theorem dd_Law_law_795 : decode code 795 = .ok (.iaload, 1) := by decide +kernel
theorem dd_Law_law_796 : decode code 796 = .ok (.invokevirtual 82, 3) := by decide +kernel
theorem dd_Law_law_799 : decode code 799 = .ok (.aload_n 2, 1) := by decide +kernel
theorem dd_Law_law_800 : decode code 800 = .ok (.aload_n 0, 1) := by decide +kernel
theorem dd_Law_law_801 : decode code 801 = .ok (.iload_n 3, 1) := by decide +kernel
theorem dd_Law_law_802 : decode code 802 = .ok (.iconst 1, 1) := by decide +kernel
theorem dd_Law_law_803 : decode code 803 = .ok (.iadd, 1) := by decide +kernel
theorem dd_Law_law_804 : decode code 804 = .ok (.iaload, 1) := by decide +kernel
theorem dd_Law_law_805 : decode code 805 = .ok (.aload_n 0, 1) := by decide +kernel
theorem dd_Law_law_806 : decode code 806 = .ok (.iload_n 3, 1) := by decide +kernel
theorem dd_Law_law_807 : decode code 807 = .ok (.iconst 2, 1) := by decide +kernel
theorem dd_Law_law_808 : decode code 808 = .ok (.iadd, 1) := by decide +kernel
theorem dd_Law_law_809 : decode code 809 = .ok (.iaload, 1) := by decide +kernel
theorem dd_Law_law_810 : decode code 810 = .ok (.invokevirtual 86, 3) := by decide +kernel
theorem dd_Law_law_813 : decode code 813 = .ok (.if_icmp .eq 253, 3) := by decide +kernel
theorem dd_Law_law_816 : decode code 816 = .ok (.iconst 0, 1) := by decide +kernel
theorem dd_Law_law_817 : decode code 817 = .ok (.ireturn, 1) := by decide +kernel
theorem dd_Law_law_818 : decode code 818 = .ok (.aload_n 1, 1) := by decide +kernel
theorem dd_Law_law_819 : decode code 819 = .ok (.aload_n 0, 1) := by decide +kernel
theorem dd_Law_law_820 : decode code 820 = .ok (.iload_n 3, 1) := by decide +kernel
theorem dd_Law_law_821 : decode code 821 = .ok (.iconst 1, 1) := by decide +kernel
theorem dd_Law_law_822 : decode code 822 = .ok (.iadd, 1) := by decide +kernel
theorem dd_Law_law_823 : decode code 823 = .ok (.iaload, 1) := by decide +kernel
theorem dd_Law_law_824 : decode code 824 = .ok (.aload_n 0, 1) := by decide +kernel
theorem dd_Law_law_825 : decode code 825 = .ok (.iload_n 3, 1) := by decide +kernel
theorem dd_Law_law_826 : decode code 826 = .ok (.iconst 2, 1) := by decide +kernel
theorem dd_Law_law_827 : decode code 827 = .ok (.iadd, 1) := by decide +kernel
theorem dd_Law_law_828 : decode code 828 = .ok (.iaload, 1) := by decide +kernel
theorem dd_Law_law_829 : decode code 829 = .ok (.aload_n 0, 1) := by decide +kernel
theorem dd_Law_law_830 : decode code 830 = .ok (.iload_n 3, 1) := by decide +kernel
theorem dd_Law_law_831 : decode code 831 = .ok (.iconst 3, 1) := by decide +kernel
theorem dd_Law_law_832 : decode code 832 = .ok (.iadd, 1) := by decide +kernel
theorem dd_Law_law_833 : decode code 833 = .ok (.iaload, 1) := by decide +kernel
theorem dd_Law_law_834 : decode code 834 = .ok (.invokevirtual 87, 3) := by decide +kernel
theorem dd_Law_law_837 : decode code 837 = .ok (.aload_n 2, 1) := by decide +kernel
theorem dd_Law_law_838 : decode code 838 = .ok (.aload_n 0, 1) := by decide +kernel
theorem dd_Law_law_839 : decode code 839 = .ok (.iload_n 3, 1) := by decide +kernel
theorem dd_Law_law_840 : decode code 840 = .ok (.iconst 1, 1) := by decide +kernel
theorem dd_Law_law_841 : decode code 841 = .ok (.iadd, 1) := by decide +kernel
theorem dd_Law_law_842 : decode code 842 = .ok (.iaload, 1) := by decide +kernel
theorem dd_Law_law_843 : decode code 843 = .ok (.aload_n 0, 1) := by decide +kernel
theorem dd_Law_law_844 : decode code 844 = .ok (.iload_n 3, 1) := by decide +kernel
theorem dd_Law_law_845 : decode code 845 = .ok (.iconst 2, 1) := by decide +kernel
theorem dd_Law_law_846 : decode code 846 = .ok (.iadd, 1) := by decide +kernel
theorem dd_Law_law_847 : decode code 847 = .ok (.iaload, 1) := by decide +kernel
theorem dd_Law_law_848 : decode code 848 = .ok (.aload_n 0, 1) := by decide +kernel
theorem dd_Law_law_849 : decode code 849 = .ok (.iload_n 3, 1) := by decide +kernel
theorem dd_Law_law_850 : decode code 850 = .ok (.iconst 3, 1) := by decide +kernel
theorem dd_Law_law_851 : decode code 851 = .ok (.iadd, 1) := by decide +kernel
theorem dd_Law_law_852 : decode code 852 = .ok (.iaload, 1) := by decide +kernel
theorem dd_Law_law_853 : decode code 853 = .ok (.invokevirtual 91, 3) := by decide +kernel
theorem dd_Law_law_856 : decode code 856 = .ok (.if_icmp .eq 210, 3) := by decide +kernel
theorem dd_Law_law_859 : decode code 859 = .ok (.iconst 0, 1) := by decide +kernel
theorem dd_Law_law_860 : decode code 860 = .ok (.ireturn, 1) := by decide +kernel
theorem dd_Law_law_861 : decode code 861 = .ok (.aload_n 1, 1) := by decide +kernel
theorem dd_Law_law_862 : decode code 862 = .ok (.aload_n 0, 1) := by decide +kernel
theorem dd_Law_law_863 : decode code 863 = .ok (.iload_n 3, 1) := by decide +kernel
theorem dd_Law_law_864 : decode code 864 = .ok (.iconst 1, 1) := by decide +kernel
theorem dd_Law_law_865 : decode code 865 = .ok (.iadd, 1) := by decide +kernel
theorem dd_Law_law_866 : decode code 866 = .ok (.iaload, 1) := by decide +kernel
theorem dd_Law_law_867 : decode code 867 = .ok (.aload_n 0, 1) := by decide +kernel
theorem dd_Law_law_868 : decode code 868 = .ok (.iload_n 3, 1) := by decide +kernel
theorem dd_Law_law_869 : decode code 869 = .ok (.iconst 2, 1) := by decide +kernel
theorem dd_Law_law_870 : decode code 870 = .ok (.iadd, 1) := by decide +kernel
theorem dd_Law_law_871 : decode code 871 = .ok (.iaload, 1) := by decide +kernel
theorem dd_Law_law_872 : decode code 872 = .ok (.aload_n 0, 1) := by decide +kernel
theorem dd_Law_law_873 : decode code 873 = .ok (.iload_n 3, 1) := by decide +kernel
theorem dd_Law_law_874 : decode code 874 = .ok (.iconst 3, 1) := by decide +kernel
theorem dd_Law_law_875 : decode code 875 = .ok (.iadd, 1) := by decide +kernel
theorem dd_Law_law_876 : decode code 876 = .ok (.iaload, 1) := by decide +kernel
theorem dd_Law_law_877 : decode code 877 = .ok (.invokevirtual 92, 3) := by decide +kernel
theorem dd_Law_law_880 : decode code 880 = .ok (.aload_n 2, 1) := by decide +kernel
theorem dd_Law_law_881 : decode code 881 = .ok (.aload_n 0, 1) := by decide +kernel
theorem dd_Law_law_882 : decode code 882 = .ok (.iload_n 3, 1) := by decide +kernel
theorem dd_Law_law_883 : decode code 883 = .ok (.iconst 1, 1) := by decide +kernel
theorem dd_Law_law_884 : decode code 884 = .ok (.iadd, 1) := by decide +kernel
theorem dd_Law_law_885 : decode code 885 = .ok (.iaload, 1) := by decide +kernel
theorem dd_Law_law_886 : decode code 886 = .ok (.aload_n 0, 1) := by decide +kernel
theorem dd_Law_law_887 : decode code 887 = .ok (.iload_n 3, 1) := by decide +kernel
theorem dd_Law_law_888 : decode code 888 = .ok (.iconst 2, 1) := by decide +kernel
theorem dd_Law_law_889 : decode code 889 = .ok (.iadd, 1) := by decide +kernel
theorem dd_Law_law_890 : decode code 890 = .ok (.iaload, 1) := by decide +kernel
theorem dd_Law_law_891 : decode code 891 = .ok (.aload_n 0, 1) := by decide +kernel
theorem dd_Law_law_892 : decode code 892 = .ok (.iload_n 3, 1) := by decide +kernel
theorem dd_Law_law_893 : decode code 893 = .ok (.iconst 3, 1) := by decide +kernel
theorem dd_Law_law_894 : decode code 894 = .ok (.iadd, 1) := by decide +kernel
theorem dd_Law_law_895 : decode code 895 = .ok (.iaload, 1) := by decide +kernel
theorem dd_Law_law_896 : decode code 896 = .ok (.invokevirtual 95, 3) := by decide +kernel
theorem dd_Law_law_899 : decode code 899 = .ok (.if_icmp .eq 167, 3) := by decide +kernel
theorem dd_Law_law_902 : decode code 902 = .ok (.iconst 0, 1) := by decide +kernel
theorem dd_Law_law_903 : decode code 903 = .ok (.ireturn, 1) := by decide +kernel
theorem dd_Law_law_904 : decode code 904 = .ok (.aload_n 1, 1) := by decide +kernel
theorem dd_Law_law_905 : decode code 905 = .ok (.aload_n 0, 1) := by decide +kernel
theorem dd_Law_law_906 : decode code 906 = .ok (.iload_n 3, 1) := by decide +kernel
theorem dd_Law_law_907 : decode code 907 = .ok (.iconst 1, 1) := by decide +kernel
theorem dd_Law_law_908 : decode code 908 = .ok (.iadd, 1) := by decide +kernel
theorem dd_Law_law_909 : decode code 909 = .ok (.iaload, 1) := by decide +kernel
theorem dd_Law_law_910 : decode code 910 = .ok (.aload_n 0, 1) := by decide +kernel
theorem dd_Law_law_911 : decode code 911 = .ok (.iload_n 3, 1) := by decide +kernel
theorem dd_Law_law_912 : decode code 912 = .ok (.iconst 2, 1) := by decide +kernel
theorem dd_Law_law_913 : decode code 913 = .ok (.iadd, 1) := by decide +kernel
theorem dd_Law_law_914 : decode code 914 = .ok (.iaload, 1) := by decide +kernel
theorem dd_Law_law_915 : decode code 915 = .ok (.aload_n 0, 1) := by decide +kernel
theorem dd_Law_law_916 : decode code 916 = .ok (.iload_n 3, 1) := by decide +kernel
theorem dd_Law_law_917 : decode code 917 = .ok (.iconst 3, 1) := by decide +kernel
theorem dd_Law_law_918 : decode code 918 = .ok (.iadd, 1) := by decide +kernel
theorem dd_Law_law_919 : decode code 919 = .ok (.iaload, 1) := by decide +kernel
theorem dd_Law_law_920 : decode code 920 = .ok (.invokevirtual 96, 3) := by decide +kernel
theorem dd_Law_law_923 : decode code 923 = .ok (.aload_n 2, 1) := by decide +kernel
theorem dd_Law_law_924 : decode code 924 = .ok (.aload_n 0, 1) := by decide +kernel
theorem dd_Law_law_925 : decode code 925 = .ok (.iload_n 3, 1) := by decide +kernel
theorem dd_Law_law_926 : decode code 926 = .ok (.iconst 1, 1) := by decide +kernel
theorem dd_Law_law_927 : decode code 927 = .ok (.iadd, 1) := by decide +kernel
theorem dd_Law_law_928 : decode code 928 = .ok (.iaload, 1) := by decide +kernel
theorem dd_Law_law_929 : decode code 929 = .ok (.aload_n 0, 1) := by decide +kernel
theorem dd_Law_law_930 : decode code 930 = .ok (.iload_n 3, 1) := by decide +kernel
theorem dd_Law_law_931 : decode code 931 = .ok (.iconst 2, 1) := by decide +kernel
theorem dd_Law_law_932 : decode code 932 = .ok (.iadd, 1) := by decide +kernel
theorem dd_Law_law_933 : decode code 933 = .ok (.iaload, 1) := by decide +kernel
theorem dd_Law_law_934 : decode code 934 = .ok (.aload_n 0, 1) := by decide +kernel
theorem dd_Law_law_935 : decode code 935 = .ok (.iload_n 3, 1) := by decide +kernel
theorem dd_Law_law_936 : decode code 936 = .ok (.iconst 3, 1) := by decide +kernel
theorem dd_Law_law_937 : decode code 937 = .ok (.iadd, 1) := by decide +kernel
theorem dd_Law_law_938 : decode code 938 = .ok (.iaload, 1) := by decide +kernel
theorem dd_Law_law_939 : decode code 939 = .ok (.invokevirtual 99, 3) := by decide +kernel
theorem dd_Law_law_942 : decode code 942 = .ok (.if_icmp .eq 124, 3) := by decide +kernel
theorem dd_Law_law_945 : decode code 945 = .ok (.iconst 0, 1) := by decide +kernel
theorem dd_Law_law_946 : decode code 946 = .ok (.ireturn, 1) := by decide +kernel
theorem dd_Law_law_947 : decode code 947 = .ok (.aload_n 1, 1) := by decide +kernel
theorem dd_Law_law_948 : decode code 948 = .ok (.aload_n 0, 1) := by decide +kernel
theorem dd_Law_law_949 : decode code 949 = .ok (.iload_n 3, 1) := by decide +kernel
theorem dd_Law_law_950 : decode code 950 = .ok (.iconst 1, 1) := by decide +kernel
theorem dd_Law_law_951 : decode code 951 = .ok (.iadd, 1) := by decide +kernel
theorem dd_Law_law_952 : decode code 952 = .ok (.iaload, 1) := by decide +kernel
theorem dd_Law_law_953 : decode code 953 = .ok (.aload_n 0, 1) := by decide +kernel
theorem dd_Law_law_954 : decode code 954 = .ok (.iload_n 3, 1) := by decide +kernel
theorem dd_Law_law_955 : decode code 955 = .ok (.iconst 2, 1) := by decide +kernel
theorem dd_Law_law_956 : decode code 956 = .ok (.iadd, 1) := by decide +kernel
theorem dd_Law_law_957 : decode code 957 = .ok (.iaload, 1) := by decide +kernel
theorem dd_Law_law_958 : decode code 958 = .ok (.aload_n 0, 1) := by decide +kernel
theorem dd_Law_law_959 : decode code 959 = .ok (.iload_n 3, 1) := by decide +kernel
theorem dd_Law_law_960 : decode code 960 = .ok (.iconst 3, 1) := by decide +kernel
theorem dd_Law_law_961 : decode code 961 = .ok (.iadd, 1) := by decide +kernel
theorem dd_Law_law_962 : decode code 962 = .ok (.iaload, 1) := by decide +kernel
theorem dd_Law_law_963 : decode code 963 = .ok (.invokevirtual 100, 3) := by decide +kernel
theorem dd_Law_law_966 : decode code 966 = .ok (.aload_n 2, 1) := by decide +kernel
theorem dd_Law_law_967 : decode code 967 = .ok (.aload_n 0, 1) := by decide +kernel
theorem dd_Law_law_968 : decode code 968 = .ok (.iload_n 3, 1) := by decide +kernel
theorem dd_Law_law_969 : decode code 969 = .ok (.iconst 1, 1) := by decide +kernel
theorem dd_Law_law_970 : decode code 970 = .ok (.iadd, 1) := by decide +kernel
theorem dd_Law_law_971 : decode code 971 = .ok (.iaload, 1) := by decide +kernel
theorem dd_Law_law_972 : decode code 972 = .ok (.aload_n 0, 1) := by decide +kernel
theorem dd_Law_law_973 : decode code 973 = .ok (.iload_n 3, 1) := by decide +kernel
theorem dd_Law_law_974 : decode code 974 = .ok (.iconst 2, 1) := by decide +kernel
theorem dd_Law_law_975 : decode code 975 = .ok (.iadd, 1) := by decide +kernel
theorem dd_Law_law_976 : decode code 976 = .ok (.iaload, 1) := by decide +kernel
theorem dd_Law_law_977 : decode code 977 = .ok (.aload_n 0, 1) := by decide +kernel
theorem dd_Law_law_978 : decode code 978 = .ok (.iload_n 3, 1) := by decide +kernel
theorem dd_Law_law_979 : decode code 979 = .ok (.iconst 3, 1) := by decide +kernel
theorem dd_Law_law_980 : decode code 980 = .ok (.iadd, 1) := by decide +kernel
theorem dd_Law_law_981 : decode code 981 = .ok (.iaload, 1) := by decide +kernel
theorem dd_Law_law_982 : decode code 982 = .ok (.invokevirtual 103, 3) := by decide +kernel
theorem dd_Law_law_985 : decode code 985 = .ok (.if_icmp .eq 81, 3) := by decide +kernel
theorem dd_Law_law_988 : decode code 988 = .ok (.iconst 0, 1) := by decide +kernel
theorem dd_Law_law_989 : decode code 989 = .ok (.ireturn, 1) := by decide +kernel
theorem dd_Law_law_990 : decode code 990 = .ok (.aload_n 1, 1) := by decide +kernel
theorem dd_Law_law_991 : decode code 991 = .ok (.aload_n 0, 1) := by decide +kernel
theorem dd_Law_law_992 : decode code 992 = .ok (.iload_n 3, 1) := by decide +kernel
theorem dd_Law_law_993 : decode code 993 = .ok (.iconst 1, 1) := by decide +kernel
theorem dd_Law_law_994 : decode code 994 = .ok (.iadd, 1) := by decide +kernel
theorem dd_Law_law_995 : decode code 995 = .ok (.iaload, 1) := by decide +kernel
theorem dd_Law_law_996 : decode code 996 = .ok (.aload_n 0, 1) := by decide +kernel
theorem dd_Law_law_997 : decode code 997 = .ok (.iload_n 3, 1) := by decide +kernel
theorem dd_Law_law_998 : decode code 998 = .ok (.iconst 2, 1) := by decide +kernel
theorem dd_Law_law_999 : decode code 999 = .ok (.iadd, 1) := by decide +kernel
theorem dd_Law_law_1000 : decode code 1000 = .ok (.iaload, 1) := by decide +kernel
theorem dd_Law_law_1001 : decode code 1001 = .ok (.aload_n 0, 1) := by decide +kernel
theorem dd_Law_law_1002 : decode code 1002 = .ok (.iload_n 3, 1) := by decide +kernel
theorem dd_Law_law_1003 : decode code 1003 = .ok (.iconst 3, 1) := by decide +kernel
theorem dd_Law_law_1004 : decode code 1004 = .ok (.iadd, 1) := by decide +kernel
theorem dd_Law_law_1005 : decode code 1005 = .ok (.iaload, 1) := by decide +kernel
theorem dd_Law_law_1006 : decode code 1006 = .ok (.invokevirtual 104, 3) := by decide +kernel
theorem dd_Law_law_1009 : decode code 1009 = .ok (.aload_n 2, 1) := by decide +kernel
theorem dd_Law_law_1010 : decode code 1010 = .ok (.aload_n 0, 1) := by decide +kernel
theorem dd_Law_law_1011 : decode code 1011 = .ok (.iload_n 3, 1) := by decide +kernel
theorem dd_Law_law_1012 : decode code 1012 = .ok (.iconst 1, 1) := by decide +kernel
theorem dd_Law_law_1013 : decode code 1013 = .ok (.iadd, 1) := by decide +kernel
theorem dd_Law_law_1014 : decode code 1014 = .ok (.iaload, 1) := by decide +kernel
theorem dd_Law_law_1015 : decode code 1015 = .ok (.aload_n 0, 1) := by decide +kernel
theorem dd_Law_law_1016 : decode code 1016 = .ok (.iload_n 3, 1) := by decide +kernel
theorem dd_Law_law_1017 : decode code 1017 = .ok (.iconst 2, 1) := by decide +kernel
theorem dd_Law_law_1018 : decode code 1018 = .ok (.iadd, 1) := by decide +kernel
theorem dd_Law_law_1019 : decode code 1019 = .ok (.iaload, 1) := by decide +kernel
theorem dd_Law_law_1020 : decode code 1020 = .ok (.aload_n 0, 1) := by decide +kernel
theorem dd_Law_law_1021 : decode code 1021 = .ok (.iload_n 3, 1) := by decide +kernel
theorem dd_Law_law_1022 : decode code 1022 = .ok (.iconst 3, 1) := by decide +kernel
theorem dd_Law_law_1023 : decode code 1023 = .ok (.iadd, 1) := by decide +kernel
theorem dd_Law_law_1024 : decode code 1024 = .ok (.iaload, 1) := by decide +kernel
theorem dd_Law_law_1025 : decode code 1025 = .ok (.invokevirtual 107, 3) := by decide +kernel
theorem dd_Law_law_1028 : decode code 1028 = .ok (.if_icmp .eq 38, 3) := by decide +kernel
theorem dd_Law_law_1031 : decode code 1031 = .ok (.iconst 0, 1) := by decide +kernel
theorem dd_Law_law_1032 : decode code 1032 = .ok (.ireturn, 1) := by decide +kernel
theorem dd_Law_law_1033 : decode code 1033 = .ok (.aload_n 1, 1) := by decide +kernel
theorem dd_Law_law_1034 : decode code 1034 = .ok (.aload_n 0, 1) := by decide +kernel
theorem dd_Law_law_1035 : decode code 1035 = .ok (.iload_n 3, 1) := by decide +kernel
theorem dd_Law_law_1036 : decode code 1036 = .ok (.iconst 1, 1) := by decide +kernel
theorem dd_Law_law_1037 : decode code 1037 = .ok (.iadd, 1) := by decide +kernel
theorem dd_Law_law_1038 : decode code 1038 = .ok (.iaload, 1) := by decide +kernel
theorem dd_Law_law_1039 : decode code 1039 = .ok (.aload_n 0, 1) := by decide +kernel
theorem dd_Law_law_1040 : decode code 1040 = .ok (.iload_n 3, 1) := by decide +kernel
theorem dd_Law_law_1041 : decode code 1041 = .ok (.iconst 2, 1) := by decide +kernel
theorem dd_Law_law_1042 : decode code 1042 = .ok (.iadd, 1) := by decide +kernel
theorem dd_Law_law_1043 : decode code 1043 = .ok (.iaload, 1) := by decide +kernel
theorem dd_Law_law_1044 : decode code 1044 = .ok (.invokevirtual 108, 3) := by decide +kernel
theorem dd_Law_law_1047 : decode code 1047 = .ok (.aload_n 2, 1) := by decide +kernel
theorem dd_Law_law_1048 : decode code 1048 = .ok (.aload_n 0, 1) := by decide +kernel
theorem dd_Law_law_1049 : decode code 1049 = .ok (.iload_n 3, 1) := by decide +kernel
theorem dd_Law_law_1050 : decode code 1050 = .ok (.iconst 1, 1) := by decide +kernel
theorem dd_Law_law_1051 : decode code 1051 = .ok (.iadd, 1) := by decide +kernel
theorem dd_Law_law_1052 : decode code 1052 = .ok (.iaload, 1) := by decide +kernel
theorem dd_Law_law_1053 : decode code 1053 = .ok (.aload_n 0, 1) := by decide +kernel
theorem dd_Law_law_1054 : decode code 1054 = .ok (.iload_n 3, 1) := by decide +kernel
theorem dd_Law_law_1055 : decode code 1055 = .ok (.iconst 2, 1) := by decide +kernel
theorem dd_Law_law_1056 : decode code 1056 = .ok (.iadd, 1) := by decide +kernel
theorem dd_Law_law_1057 : decode code 1057 = .ok (.iaload, 1) := by decide +kernel
theorem dd_Law_law_1058 : decode code 1058 = .ok (.invokevirtual 111, 3) := by decide +kernel
theorem dd_Law_law_1061 : decode code 1061 = .ok (.if_icmp .eq 5, 3) := by decide +kernel
theorem dd_Law_law_1064 : decode code 1064 = .ok (.iconst 0, 1) := by decide +kernel
theorem dd_Law_law_1065 : decode code 1065 = .ok (.ireturn, 1) := by decide +kernel
theorem dd_Law_law_1066 : decode code 1066 = .ok (.iinc 3 6, 3) := by decide +kernel
theorem dd_Law_law_1069 : decode code 1069 = .ok (.goto (-1041), 3) := by decide +kernel
theorem dd_Law_law_1072 : decode code 1072 = .ok (.iconst 1, 1) := by decide +kernel
theorem dd_Law_law_1073 : decode code 1073 = .ok (.ireturn, 1) := by decide +kernel
