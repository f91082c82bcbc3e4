theorem dLaw_622 : decode code 622 = .ok (.ireturn, 1) := by decide +kernel
theorem dLaw_623 : decode code 623 = .ok (.iload 5, 2) := by decide +kernel
theorem dLaw_625 : decode code 625 = .ok (.ifCond .ne 14, 3) := by decide +kernel
theorem dLaw_628 : decode code 628 = .ok (.aload_n 3, 1) := by decide +kernel
theorem dLaw_629 : decode code 629 = .ok (.iconst 0, 1) := by decide +kernel
theorem dLaw_630 : decode code 630 = .ok (.laload, 1) := by decide +kernel
theorem dLaw_631 : decode code 631 = .ok (.lload 6, 2) := by decide +kernel
theorem dLaw_633 : decode code 633 = .ok (.lcmp, 1) := by decide +kernel
theorem dLaw_634 : decode code 634 = .ok (.ifCond .eq 5, 3) := by decide +kernel
theorem dLaw_637 : decode code 637 = .ok (.iconst 0, 1) := by decide +kernel
theorem dLaw_638 : decode code 638 = .ok (.ireturn, 1) := by decide +kernel
theorem dLaw_639 : decode code 639 = .ok (.goto 234, 3) := by decide +kernel
theorem dLaw_642 : decode code 642 = .ok (.aload_n 1, 1) := by decide +kernel
theorem dLaw_643 : decode code 643 = .ok (.aload_n 0, 1) := by decide +kernel
theorem dLaw_644 : decode code 644 = .ok (.iload 4, 2) := by decide +kernel
theorem dLaw_646 : decode code 646 = .ok (.iconst 1, 1) := by decide +kernel
theorem dLaw_647 : decode code 647 = .ok (.iadd, 1) := by decide +kernel
theorem dLaw_648 : decode code 648 = .ok (.iaload, 1) := by decide +kernel
theorem dLaw_649 : decode code 649 = .ok (.aload_n 0, 1) := by decide +kernel
theorem dLaw_650 : decode code 650 = .ok (.iload 4, 2) := by decide +kernel
theorem dLaw_652 : decode code 652 = .ok (.iconst 2, 1) := by decide +kernel
theorem dLaw_653 : decode code 653 = .ok (.iadd, 1) := by decide +kernel
theorem dLaw_654 : decode code 654 = .ok (.iaload, 1) := by decide +kernel
theorem dLaw_655 : decode code 655 = .ok (.i2l, 1) := by decide +kernel
theorem dLaw_656 : decode code 656 = .ok (.bipush 32, 2) := by decide +kernel
theorem dLaw_658 : decode code 658 = .ok (.lshl, 1) := by decide +kernel
theorem dLaw_659 : decode code 659 = .ok (.aload_n 0, 1) := by decide +kernel
theorem dLaw_660 : decode code 660 = .ok (.iload 4, 2) := by decide +kernel
theorem dLaw_662 : decode code 662 = .ok (.iconst 3, 1) := by decide +kernel
theorem dLaw_663 : decode code 663 = .ok (.iadd, 1) := by decide +kernel
theorem dLaw_664 : decode code 664 = .ok (.iaload, 1) := by decide +kernel
theorem dLaw_665 : decode code 665 = .ok (.i2l, 1) := by decide +kernel
theorem dLaw_666 : decode code 666 = .ok (.ldc2_w 51, 3) := by decide +kernel
theorem dLaw_669 : decode code 669 = .ok (.land, 1) := by decide +kernel
theorem dLaw_670 : decode code 670 = .ok (.lor, 1) := by decide +kernel
theorem dLaw_671 : decode code 671 = .ok (.aload_n 3, 1) := by decide +kernel
theorem dLaw_672 : decode code 672 = .ok (.invokestatic 95, 3) := by decide +kernel
theorem dLaw_675 : decode code 675 = .ok (.istore 5, 2) := by decide +kernel
theorem dLaw_677 : decode code 677 = .ok (.aload_n 2, 1) := by decide +kernel
theorem dLaw_678 : decode code 678 = .ok (.aload_n 0, 1) := by decide +kernel
theorem dLaw_679 : decode code 679 = .ok (.iload 4, 2) := by decide +kernel
theorem dLaw_681 : decode code 681 = .ok (.iconst 1, 1) := by decide +kernel
theorem dLaw_682 : decode code 682 = .ok (.iadd, 1) := by decide +kernel
theorem dLaw_683 : decode code 683 = .ok (.iaload, 1) := by decide +kernel
theorem dLaw_684 : decode code 684 = .ok (.aload_n 0, 1) := by decide +kernel
theorem dLaw_685 : decode code 685 = .ok (.iload 4, 2) := by decide +kernel
theorem dLaw_687 : decode code 687 = .ok (.iconst 2, 1) := by decide +kernel
theorem dLaw_688 : decode code 688 = .ok (.iadd, 1) := by decide +kernel
theorem dLaw_689 : decode code 689 = .ok (.iaload, 1) := by decide +kernel
theorem dLaw_690 : decode code 690 = .ok (.i2l, 1) := by decide +kernel
theorem dLaw_691 : decode code 691 = .ok (.bipush 32, 2) := by decide +kernel
theorem dLaw_693 : decode code 693 = .ok (.lshl, 1) := by decide +kernel
theorem dLaw_694 : decode code 694 = .ok (.aload_n 0, 1) := by decide +kernel
theorem dLaw_695 : decode code 695 = .ok (.iload 4, 2) := by decide +kernel
theorem dLaw_697 : decode code 697 = .ok (.iconst 3, 1) := by decide +kernel
theorem dLaw_698 : decode code 698 = .ok (.iadd, 1) := by decide +kernel
theorem dLaw_699 : decode code 699 = .ok (.iaload, 1) := by decide +kernel
theorem dLaw_700 : decode code 700 = .ok (.i2l, 1) := by decide +kernel
theorem dLaw_701 : decode code 701 = .ok (.ldc2_w 51, 3) := by decide +kernel
theorem dLaw_704 : decode code 704 = .ok (.land, 1) := by decide +kernel
theorem dLaw_705 : decode code 705 = .ok (.lor, 1) := by decide +kernel
theorem dLaw_706 : decode code 706 = .ok (.invokevirtual 98, 3) := by decide +kernel
theorem dLaw_709 : decode code 709 = .ok (.istore 6, 2) := by decide +kernel
theorem dLaw_711 : decode code 711 = .ok (.aload_n 2, 1) := by decide +kernel
theorem dLaw_712 : decode code 712 = .ok (.invokevirtual 59, 3) := by decide +kernel
theorem dLaw_715 : decode code 715 = .ok (.iload 5, 2) := by decide +kernel
theorem dLaw_717 : decode code 717 = .ok (.if_icmp .eq 5, 3) := by decide +kernel
theorem dLaw_720 : decode code 720 = .ok (.iconst 0, 1) := by decide +kernel
theorem dLaw_721 : decode code 721 = .ok (.ireturn, 1) := by decide +kernel
theorem dLaw_722 : decode code 722 = .ok (.iload 5, 2) := by decide +kernel
theorem dLaw_724 : decode code 724 = .ok (.ifCond .ne 15, 3) := by decide +kernel
theorem dLaw_727 : decode code 727 = .ok (.aload_n 3, 1) := by decide +kernel
theorem dLaw_728 : decode code 728 = .ok (.iconst 0, 1) := by decide +kernel
theorem dLaw_729 : decode code 729 = .ok (.laload, 1) := by decide +kernel
theorem dLaw_730 : decode code 730 = .ok (.iload 6, 2) := by decide +kernel
theorem dLaw_732 : decode code 732 = .ok (.i2l, 1) := by decide +kernel
theorem dLaw_733 : decode code 733 = .ok (.lcmp, 1) := by decide +kernel
theorem dLaw_734 : decode code 734 = .ok (.ifCond .eq 5, 3) := by decide +kernel
theorem dLaw_737 : decode code 737 = .ok (.iconst 0, 1) := by decide +kernel
theorem dLaw_738 : decode code 738 = .ok (.ireturn, 1) := by decide +kernel
theorem dLaw_739 : decode code 739 = .ok (.goto 134, 3) := by decide +kernel
theorem dLaw_742 : decode code 742 = .ok (.aload_n 1, 1) := by decide +kernel
theorem dLaw_743 : decode code 743 = .ok (.aload_n 0, 1) := by decide +kernel
theorem dLaw_744 : decode code 744 = .ok (.iload 4, 2) := by decide +kernel
theorem dLaw_746 : decode code 746 = .ok (.iconst 1, 1) := by decide +kernel
theorem dLaw_747 : decode code 747 = .ok (.iadd, 1) := by decide +kernel
theorem dLaw_748 : decode code 748 = .ok (.iaload, 1) := by decide +kernel
theorem dLaw_749 : decode code 749 = .ok (.i2l, 1) := by decide +kernel
theorem dLaw_750 : decode code 750 = .ok (.bipush 32, 2) := by decide +kernel
theorem dLaw_752 : decode code 752 = .ok (.lshl, 1) := by decide +kernel
