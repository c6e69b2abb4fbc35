/-! ===== the law, decoded ===== -/
theorem dL_542 : decode code 542 = .ok (.if_icmp .eq 681, 3) := by decide +kernel
theorem dL_545 : decode code 545 = .ok (.iconst 0, 1) := by decide +kernel
theorem dL_546 : decode code 546 = .ok (.ireturn, 1) := by decide +kernel
theorem dL_547 : decode code 547 = .ok (.aload_n 1, 1) := by decide +kernel
theorem dL_548 : decode code 548 = .ok (.invokevirtual 69, 3) := by decide +kernel
theorem dL_551 : decode code 551 = .ok (.aload_n 2, 1) := by decide +kernel
theorem dL_552 : decode code 552 = .ok (.invokevirtual 72, 3) := by decide +kernel
theorem dL_555 : decode code 555 = .ok (.if_icmp .eq 668, 3) := by decide +kernel
theorem dL_558 : decode code 558 = .ok (.iconst 0, 1) := by decide +kernel
theorem dL_559 : decode code 559 = .ok (.ireturn, 1) := by decide +kernel
theorem dL_560 : decode code 560 = .ok (.aload_n 1, 1) := by decide +kernel
theorem dL_561 : decode code 561 = .ok (.aload_n 0, 1) := by decide +kernel
theorem dL_562 : decode code 562 = .ok (.iload_n 3, 1) := by decide +kernel
theorem dL_563 : decode code 563 = .ok (.iconst 1, 1) := by decide +kernel
theorem dL_564 : decode code 564 = .ok (.iadd, 1) := by decide +kernel
theorem dL_565 : decode code 565 = .ok (.iaload, 1) := by decide +kernel
theorem dL_566 : decode code 566 = .ok (.aload_n 0, 1) := by decide +kernel
theorem dL_567 : decode code 567 = .ok (.iload_n 3, 1) := by decide +kernel
theorem dL_568 : decode code 568 = .ok (.iconst 2, 1) := by decide +kernel
theorem dL_569 : decode code 569 = .ok (.iadd, 1) := by decide +kernel
theorem dL_570 : decode code 570 = .ok (.iaload, 1) := by decide +kernel
theorem dL_571 : decode code 571 = .ok (.aload_n 0, 1) := by decide +kernel
theorem dL_572 : decode code 572 = .ok (.iload_n 3, 1) := by decide +kernel
theorem dL_573 : decode code 573 = .ok (.iconst 3, 1) := by decide +kernel
theorem dL_574 : decode code 574 = .ok (.iadd, 1) := by decide +kernel
theorem dL_575 : decode code 575 = .ok (.iaload, 1) := by decide +kernel
theorem dL_576 : decode code 576 = .ok (.invokevirtual 73, 3) := by decide +kernel
theorem dL_579 : decode code 579 = .ok (.aload_n 2, 1) := by decide +kernel
theorem dL_580 : decode code 580 = .ok (.aload_n 0, 1) := by decide +kernel
theorem dL_581 : decode code 581 = .ok (.iload_n 3, 1) := by decide +kernel
theorem dL_582 : decode code 582 = .ok (.iconst 1, 1) := by decide +kernel
theorem dL_583 : decode code 583 = .ok (.iadd, 1) := by decide +kernel
theorem dL_584 : decode code 584 = .ok (.iaload, 1) := by decide +kernel
theorem dL_585 : decode code 585 = .ok (.aload_n 0, 1) := by decide +kernel
theorem dL_586 : decode code 586 = .ok (.iload_n 3, 1) := by decide +kernel
theorem dL_587 : decode code 587 = .ok (.iconst 2, 1) := by decide +kernel
theorem dL_588 : decode code 588 = .ok (.iadd, 1) := by decide +kernel
theorem dL_589 : decode code 589 = .ok (.iaload, 1) := by decide +kernel
theorem dL_590 : decode code 590 = .ok (.aload_n 0, 1) := by decide +kernel
theorem dL_591 : decode code 591 = .ok (.iload_n 3, 1) := by decide +kernel
theorem dL_592 : decode code 592 = .ok (.iconst 3, 1) := by decide +kernel
theorem dL_593 : decode code 593 = .ok (.iadd, 1) := by decide +kernel
theorem dL_594 : decode code 594 = .ok (.iaload, 1) := by decide +kernel
theorem dL_595 : decode code 595 = .ok (.invokevirtual 77, 3) := by decide +kernel
theorem dL_598 : decode code 598 = .ok (.if_icmp .eq 625, 3) := by decide +kernel
theorem dL_601 : decode code 601 = .ok (.iconst 0, 1) := by decide +kernel
theorem dL_602 : decode code 602 = .ok (.ireturn, 1) := by decide +kernel
theorem dL_603 : decode code 603 = .ok (.aload_n 1, 1) := by decide +kernel
theorem dL_604 : decode code 604 = .ok (.aload_n 0, 1) := by decide +kernel
theorem dL_605 : decode code 605 = .ok (.iload_n 3, 1) := by decide +kernel
theorem dL_606 : decode code 606 = .ok (.iconst 1, 1) := by decide +kernel
theorem dL_607 : decode code 607 = .ok (.iadd, 1) := by decide +kernel
theorem dL_608 : decode code 608 = .ok (.iaload, 1) := by decide +kernel
theorem dL_609 : decode code 609 = .ok (.invokevirtual 78, 3) := by decide +kernel
theorem dL_612 : decode code 612 = .ok (.aload_n 2, 1) := by decide +kernel
theorem dL_613 : decode code 613 = .ok (.aload_n 0, 1) := by decide +kernel
theorem dL_614 : decode code 614 = .ok (.iload_n 3, 1) := by decide +kernel
theorem dL_615 : decode code 615 = .ok (.iconst 1, 1) := by decide +kernel
theorem dL_616 : decode code 616 = .ok (.iadd, 1) := by decide +kernel
theorem dL_617 : decode code 617 = .ok (.iaload, 1) := by decide +kernel
theorem dL_618 : decode code 618 = .ok (.invokevirtual 81, 3) := by decide +kernel
theorem dL_621 : decode code 621 = .ok (.if_icmp .eq 602, 3) := by decide +kernel
theorem dL_624 : decode code 624 = .ok (.iconst 0, 1) := by decide +kernel
theorem dL_625 : decode code 625 = .ok (.ireturn, 1) := by decide +kernel
theorem dL_626 : decode code 626 = .ok (.aload_n 1, 1) := by decide +kernel
theorem dL_627 : decode code 627 = .ok (.aload_n 0, 1) := by decide +kernel
theorem dL_628 : decode code 628 = .ok (.iload_n 3, 1) := by decide +kernel
theorem dL_629 : decode code 629 = .ok (.iconst 1, 1) := by decide +kernel
theorem dL_630 : decode code 630 = .ok (.iadd, 1) := by decide +kernel
theorem dL_631 : decode code 631 = .ok (.iaload, 1) := by decide +kernel
theorem dL_632 : decode code 632 = .ok (.invokevirtual 82, 3) := by decide +kernel
theorem dL_635 : decode code 635 = .ok (.aload_n 2, 1) := by decide +kernel
theorem dL_636 : decode code 636 = .ok (.aload_n 0, 1) := by decide +kernel
theorem dL_637 : decode code 637 = .ok (.iload_n 3, 1) := by decide +kernel
theorem dL_638 : decode code 638 = .ok (.iconst 1, 1) := by decide +kernel
theorem dL_639 : decode code 639 = .ok (.iadd, 1) := by decide +kernel
theorem dL_640 : decode code 640 = .ok (.iaload, 1) := by decide +kernel
theorem dL_641 : decode code 641 = .ok (.invokevirtual 85, 3) := by decide +kernel
theorem dL_644 : decode code 644 = .ok (.if_icmp .eq 579, 3) := by decide +kernel
theorem dL_647 : decode code 647 = .ok (.iconst 0, 1) := by decide +kernel
theorem dL_648 : decode code 648 = .ok (.ireturn, 1) := by decide +kernel
theorem dL_649 : decode code 649 = .ok (.aload_n 1, 1) := by decide +kernel
theorem dL_650 : decode code 650 = .ok (.aload_n 0, 1) := by decide +kernel
theorem dL_651 : decode code 651 = .ok (.iload_n 3, 1) := by decide +kernel
theorem dL_652 : decode code 652 = .ok (.iconst 1, 1) := by decide +kernel
theorem dL_653 : decode code 653 = .ok (.iadd, 1) := by decide +kernel
theorem dL_654 : decode code 654 = .ok (.iaload, 1) := by decide +kernel
theorem dL_655 : decode code 655 = .ok (.invokevirtual 86, 3) := by decide +kernel
theorem dL_658 : decode code 658 = .ok (.aload_n 2, 1) := by decide +kernel
theorem dL_659 : decode code 659 = .ok (.aload_n 0, 1) := by decide +kernel
theorem dL_660 : decode code 660 = .ok (.iload_n 3, 1) := by decide +kernel
theorem dL_661 : decode code 661 = .ok (.iconst 1, 1) := by decide +kernel
theorem dL_662 : decode code 662 = .ok (.iadd, 1) := by decide +kernel
theorem dL_663 : decode code 663 = .ok (.iaload, 1) := by decide +kernel
theorem dL_664 : decode code 664 = .ok (.invokevirtual 89, 3) := by decide +kernel
theorem dL_667 : decode code 667 = .ok (.if_icmp .eq 556, 3) := by decide +kernel
theorem dL_670 : decode code 670 = .ok (.iconst 0, 1) := by decide +kernel
theorem dL_671 : decode code 671 = .ok (.ireturn, 1) := by decide +kernel
theorem dL_672 : decode code 672 = .ok (.aload_n 1, 1) := by decide +kernel
theorem dL_673 : decode code 673 = .ok (.aload_n 0, 1) := by decide +kernel
theorem dL_674 : decode code 674 = .ok (.iload_n 3, 1) := by decide +kernel
theorem dL_675 : decode code 675 = .ok (.iconst 1, 1) := by decide +kernel
theorem dL_676 : decode code 676 = .ok (.iadd, 1) := by decide +kernel
theorem dL_677 : decode code 677 = .ok (.iaload, 1) := by decide +kernel
theorem dL_678 : decode code 678 = .ok (.aload_n 0, 1) := by decide +kernel
theorem dL_679 : decode code 679 = .ok (.iload_n 3, 1) := by decide +kernel
theorem dL_680 : decode code 680 = .ok (.iconst 2, 1) := by decide +kernel
theorem dL_681 : decode code 681 = .ok (.iadd, 1) := by decide +kernel
theorem dL_682 : decode code 682 = .ok (.iaload, 1) := by decide +kernel
theorem dL_683 : decode code 683 = .ok (.invokevirtual 90, 3) := by decide +kernel
theorem dL_686 : decode code 686 = .ok (.aload_n 2, 1) := by decide +kernel
theorem dL_687 : decode code 687 = .ok (.aload_n 0, 1) := by decide +kernel
theorem dL_688 : decode code 688 = .ok (.iload_n 3, 1) := by decide +kernel
theorem dL_689 : decode code 689 = .ok (.iconst 1, 1) := by decide +kernel
theorem dL_690 : decode code 690 = .ok (.iadd, 1) := by decide +kernel
theorem dL_691 : decode code 691 = .ok (.iaload, 1) := by decide +kernel
theorem dL_692 : decode code 692 = .ok (.aload_n 0, 1) := by decide +kernel
theorem dL_693 : decode code 693 = .ok (.iload_n 3, 1) := by decide +kernel
theorem dL_694 : decode code 694 = .ok (.iconst 2, 1) := by decide +kernel
theorem dL_695 : decode code 695 = .ok (.iadd, 1) := by decide +kernel
theorem dL_696 : decode code 696 = .ok (.iaload, 1) := by decide +kernel
theorem dL_697 : decode code 697 = .ok (.invokevirtual 93, 3) := by decide +kernel
theorem dL_700 : decode code 700 = .ok (.if_icmp .eq 523, 3) := by decide +kernel
theorem dL_703 : decode code 703 = .ok (.iconst 0, 1) := by decide +kernel
theorem dL_704 : decode code 704 = .ok (.ireturn, 1) := by decide +kernel
theorem dL_705 : decode code 705 = .ok (.aload_n 1, 1) := by decide +kernel
theorem dL_706 : decode code 706 = .ok (.aload_n 0, 1) := by decide +kernel
theorem dL_707 : decode code 707 = .ok (.iload_n 3, 1) := by decide +kernel
theorem dL_708 : decode code 708 = .ok (.iconst 1, 1) := by decide +kernel
theorem dL_709 : decode code 709 = .ok (.iadd, 1) := by decide +kernel
theorem dL_710 : decode code 710 = .ok (.iaload, 1) := by decide +kernel
theorem dL_711 : decode code 711 = .ok (.invokevirtual 94, 3) := by decide +kernel
theorem dL_714 : decode code 714 = .ok (.aload_n 2, 1) := by decide +kernel
theorem dL_715 : decode code 715 = .ok (.aload_n 0, 1) := by decide +kernel
theorem dL_716 : decode code 716 = .ok (.iload_n 3, 1) := by decide +kernel
theorem dL_717 : decode code 717 = .ok (.iconst 1, 1) := by decide +kernel
theorem dL_718 : decode code 718 = .ok (.iadd, 1) := by decide +kernel
theorem dL_719 : decode code 719 = .ok (.iaload, 1) := by decide +kernel
theorem dL_720 : decode code 720 = .ok (.invokevirtual 97, 3) := by decide +kernel
theorem dL_723 : decode code 723 = .ok (.if_icmp .eq 500, 3) := by decide +kernel
theorem dL_726 : decode code 726 = .ok (.iconst 0, 1) := by decide +kernel
theorem dL_727 : decode code 727 = .ok (.ireturn, 1) := by decide +kernel
theorem dL_728 : decode code 728 = .ok (.aload_n 1, 1) := by decide +kernel
theorem dL_729 : decode code 729 = .ok (.aload_n 0, 1) := by decide +kernel
theorem dL_730 : decode code 730 = .ok (.iload_n 3, 1) := by decide +kernel
theorem dL_731 : decode code 731 = .ok (.iconst 1, 1) := by decide +kernel
theorem dL_732 : decode code 732 = .ok (.iadd, 1) := by decide +kernel
theorem dL_733 : decode code 733 = .ok (.iaload, 1) := by decide +kernel
theorem dL_734 : decode code 734 = .ok (.invokevirtual 98, 3) := by decide +kernel
theorem dL_737 : decode code 737 = .ok (.aload_n 2, 1) := by decide +kernel
