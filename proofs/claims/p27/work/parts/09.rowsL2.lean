theorem dL_isStep_553 : decode cL_isStep 553 = .ok (.invokevirtual 15, 3) := by decide +kernel
theorem dL_isStep_556 : decode cL_isStep 556 = .ok (.ifCond .eq 14, 3) := by decide +kernel
theorem dL_isStep_559 : decode cL_isStep 559 = .ok (.aload_n 0, 1) := by decide +kernel
theorem dL_isStep_560 : decode cL_isStep 560 = .ok (.invokevirtual 47, 3) := by decide +kernel
theorem dL_isStep_563 : decode cL_isStep 563 = .ok (.aload_n 1, 1) := by decide +kernel
theorem dL_isStep_564 : decode cL_isStep 564 = .ok (.invokevirtual 47, 3) := by decide +kernel
theorem dL_isStep_567 : decode cL_isStep 567 = .ok (.if_icmp .ne 7, 3) := by decide +kernel
theorem dL_isStep_570 : decode cL_isStep 570 = .ok (.iconst 1, 1) := by decide +kernel
theorem dL_isStep_571 : decode cL_isStep 571 = .ok (.goto 4, 3) := by decide +kernel
theorem dL_isStep_574 : decode cL_isStep 574 = .ok (.iconst 0, 1) := by decide +kernel
theorem dL_isStep_575 : decode cL_isStep 575 = .ok (.ireturn, 1) := by decide +kernel
theorem dL_isStep_576 : decode cL_isStep 576 = .ok (.iload_n 3, 1) := by decide +kernel
theorem dL_isStep_577 : decode cL_isStep 577 = .ok (.iconst 2, 1) := by decide +kernel
theorem dL_isStep_578 : decode cL_isStep 578 = .ok (.invokestatic 19, 3) := by decide +kernel
theorem dL_isStep_581 : decode cL_isStep 581 = .ok (.ifCond .ne 22, 3) := by decide +kernel
theorem dL_isStep_584 : decode cL_isStep 584 = .ok (.aload_n 0, 1) := by decide +kernel
theorem dL_isStep_585 : decode cL_isStep 585 = .ok (.invokevirtual 50, 3) := by decide +kernel
theorem dL_isStep_588 : decode cL_isStep 588 = .ok (.aload_n 1, 1) := by decide +kernel
theorem dL_isStep_589 : decode cL_isStep 589 = .ok (.invokevirtual 50, 3) := by decide +kernel
theorem dL_isStep_592 : decode cL_isStep 592 = .ok (.if_icmp .ne 7, 3) := by decide +kernel
theorem dL_isStep_595 : decode cL_isStep 595 = .ok (.iconst 1, 1) := by decide +kernel
theorem dL_isStep_596 : decode cL_isStep 596 = .ok (.goto 23, 3) := by decide +kernel
theorem dL_isStep_599 : decode cL_isStep 599 = .ok (.iconst 0, 1) := by decide +kernel
theorem dL_isStep_600 : decode cL_isStep 600 = .ok (.goto 19, 3) := by decide +kernel
theorem dL_isStep_603 : decode cL_isStep 603 = .ok (.aload_n 0, 1) := by decide +kernel
theorem dL_isStep_604 : decode cL_isStep 604 = .ok (.invokevirtual 53, 3) := by decide +kernel
theorem dL_isStep_607 : decode cL_isStep 607 = .ok (.aload_n 1, 1) := by decide +kernel
theorem dL_isStep_608 : decode cL_isStep 608 = .ok (.invokevirtual 53, 3) := by decide +kernel
theorem dL_isStep_611 : decode cL_isStep 611 = .ok (.if_icmp .ne 7, 3) := by decide +kernel
theorem dL_isStep_614 : decode cL_isStep 614 = .ok (.iconst 1, 1) := by decide +kernel
theorem dL_isStep_615 : decode cL_isStep 615 = .ok (.goto 4, 3) := by decide +kernel
theorem dL_isStep_618 : decode cL_isStep 618 = .ok (.iconst 0, 1) := by decide +kernel
theorem dL_isStep_619 : decode cL_isStep 619 = .ok (.ireturn, 1) := by decide +kernel
theorem dL_isStep_620 : decode cL_isStep 620 = .ok (.iconst 1, 1) := by decide +kernel
theorem dL_isStep_621 : decode cL_isStep 621 = .ok (.iload_n 3, 1) := by decide +kernel
theorem dL_isStep_622 : decode cL_isStep 622 = .ok (.iload 4, 2) := by decide +kernel
theorem dL_isStep_624 : decode cL_isStep 624 = .ok (.bipush 6, 2) := by decide +kernel
theorem dL_isStep_626 : decode cL_isStep 626 = .ok (.invokestatic 19, 3) := by decide +kernel
theorem dL_isStep_629 : decode cL_isStep 629 = .ok (.ifCond .ne 8, 3) := by decide +kernel
theorem dL_isStep_632 : decode cL_isStep 632 = .ok (.bipush 99, 2) := by decide +kernel
theorem dL_isStep_634 : decode cL_isStep 634 = .ok (.goto 5, 3) := by decide +kernel
theorem dL_isStep_637 : decode cL_isStep 637 = .ok (.bipush 7, 2) := by decide +kernel
theorem dL_isStep_639 : decode cL_isStep 639 = .ok (.invokestatic 19, 3) := by decide +kernel
theorem dL_isStep_642 : decode cL_isStep 642 = .ok (.iadd, 1) := by decide +kernel
theorem dL_isStep_643 : decode cL_isStep 643 = .ok (.istore 6, 2) := by decide +kernel
theorem dL_isStep_645 : decode cL_isStep 645 = .ok (.aload_n 0, 1) := by decide +kernel
theorem dL_isStep_646 : decode cL_isStep 646 = .ok (.iconst 0, 1) := by decide +kernel
theorem dL_isStep_647 : decode cL_isStep 647 = .ok (.invokevirtual 15, 3) := by decide +kernel
theorem dL_isStep_650 : decode cL_isStep 650 = .ok (.istore 7, 2) := by decide +kernel
theorem dL_isStep_652 : decode cL_isStep 652 = .ok (.aload_n 0, 1) := by decide +kernel
theorem dL_isStep_653 : decode cL_isStep 653 = .ok (.bipush 7, 2) := by decide +kernel
theorem dL_isStep_655 : decode cL_isStep 655 = .ok (.invokevirtual 15, 3) := by decide +kernel
theorem dL_isStep_658 : decode cL_isStep 658 = .ok (.istore 8, 2) := by decide +kernel
theorem dL_isStep_660 : decode cL_isStep 660 = .ok (.aload_n 0, 1) := by decide +kernel
theorem dL_isStep_661 : decode cL_isStep 661 = .ok (.iload 6, 2) := by decide +kernel
theorem dL_isStep_663 : decode cL_isStep 663 = .ok (.invokevirtual 56, 3) := by decide +kernel
theorem dL_isStep_666 : decode cL_isStep 666 = .ok (.istore 9, 2) := by decide +kernel
theorem dL_isStep_668 : decode cL_isStep 668 = .ok (.iconst 0, 1) := by decide +kernel
theorem dL_isStep_669 : decode cL_isStep 669 = .ok (.istore 10, 2) := by decide +kernel
theorem dL_isStep_671 : decode cL_isStep 671 = .ok (.iconst 0, 1) := by decide +kernel
theorem dL_isStep_672 : decode cL_isStep 672 = .ok (.istore 11, 2) := by decide +kernel
theorem dL_isStep_674 : decode cL_isStep 674 = .ok (.iload 11, 2) := by decide +kernel
theorem dL_isStep_676 : decode cL_isStep 676 = .ok (.iload 6, 2) := by decide +kernel
theorem dL_isStep_678 : decode cL_isStep 678 = .ok (.if_icmp .ge 36, 3) := by decide +kernel
theorem dL_isStep_681 : decode cL_isStep 681 = .ok (.iload 10, 2) := by decide +kernel
theorem dL_isStep_683 : decode cL_isStep 683 = .ok (.iload 7, 2) := by decide +kernel
theorem dL_isStep_685 : decode cL_isStep 685 = .ok (.iload 11, 2) := by decide +kernel
theorem dL_isStep_687 : decode cL_isStep 687 = .ok (.iadd, 1) := by decide +kernel
theorem dL_isStep_688 : decode cL_isStep 688 = .ok (.iconst 1, 1) := by decide +kernel
theorem dL_isStep_689 : decode cL_isStep 689 = .ok (.iadd, 1) := by decide +kernel
theorem dL_isStep_690 : decode cL_isStep 690 = .ok (.aload_n 0, 1) := by decide +kernel
theorem dL_isStep_691 : decode cL_isStep 691 = .ok (.bipush 12, 2) := by decide +kernel
theorem dL_isStep_693 : decode cL_isStep 693 = .ok (.invokevirtual 15, 3) := by decide +kernel
theorem dL_isStep_696 : decode cL_isStep 696 = .ok (.irem, 1) := by decide +kernel
theorem dL_isStep_697 : decode cL_isStep 697 = .ok (.ifCond .ne 7, 3) := by decide +kernel
theorem dL_isStep_700 : decode cL_isStep 700 = .ok (.iconst 1, 1) := by decide +kernel
theorem dL_isStep_701 : decode cL_isStep 701 = .ok (.goto 4, 3) := by decide +kernel
theorem dL_isStep_704 : decode cL_isStep 704 = .ok (.iconst 0, 1) := by decide +kernel
theorem dL_isStep_705 : decode cL_isStep 705 = .ok (.iadd, 1) := by decide +kernel
theorem dL_isStep_706 : decode cL_isStep 706 = .ok (.istore 10, 2) := by decide +kernel
theorem dL_isStep_708 : decode cL_isStep 708 = .ok (.iinc 11 1, 3) := by decide +kernel
theorem dL_isStep_711 : decode cL_isStep 711 = .ok (.goto (-37), 3) := by decide +kernel
theorem dL_isStep_714 : decode cL_isStep 714 = .ok (.iload 9, 2) := by decide +kernel
theorem dL_isStep_716 : decode cL_isStep 716 = .ok (.aload_n 1, 1) := by decide +kernel
theorem dL_isStep_717 : decode cL_isStep 717 = .ok (.iload 6, 2) := by decide +kernel
theorem dL_isStep_719 : decode cL_isStep 719 = .ok (.invokevirtual 56, 3) := by decide +kernel
theorem dL_isStep_722 : decode cL_isStep 722 = .ok (.if_icmp .ne 41, 3) := by decide +kernel
theorem dL_isStep_725 : decode cL_isStep 725 = .ok (.iload 9, 2) := by decide +kernel
theorem dL_isStep_727 : decode cL_isStep 727 = .ok (.iload 10, 2) := by decide +kernel
theorem dL_isStep_729 : decode cL_isStep 729 = .ok (.if_icmp .ne 34, 3) := by decide +kernel
theorem dL_isStep_732 : decode cL_isStep 732 = .ok (.aload_n 0, 1) := by decide +kernel
theorem dL_isStep_733 : decode cL_isStep 733 = .ok (.iconst 0, 1) := by decide +kernel
theorem dL_isStep_734 : decode cL_isStep 734 = .ok (.invokevirtual 15, 3) := by decide +kernel
theorem dL_isStep_737 : decode cL_isStep 737 = .ok (.iload 7, 2) := by decide +kernel
theorem dL_isStep_739 : decode cL_isStep 739 = .ok (.iload 6, 2) := by decide +kernel
theorem dL_isStep_741 : decode cL_isStep 741 = .ok (.iadd, 1) := by decide +kernel
theorem dL_isStep_742 : decode cL_isStep 742 = .ok (.if_icmp .ne 21, 3) := by decide +kernel
theorem dL_isStep_745 : decode cL_isStep 745 = .ok (.aload_n 0, 1) := by decide +kernel
theorem dL_isStep_746 : decode cL_isStep 746 = .ok (.bipush 7, 2) := by decide +kernel
theorem dL_isStep_748 : decode cL_isStep 748 = .ok (.invokevirtual 15, 3) := by decide +kernel
theorem dL_isStep_751 : decode cL_isStep 751 = .ok (.iload 8, 2) := by decide +kernel
theorem dL_isStep_753 : decode cL_isStep 753 = .ok (.iload 9, 2) := by decide +kernel
theorem dL_isStep_755 : decode cL_isStep 755 = .ok (.iadd, 1) := by decide +kernel
theorem dL_isStep_756 : decode cL_isStep 756 = .ok (.if_icmp .ne 7, 3) := by decide +kernel
theorem dL_isStep_759 : decode cL_isStep 759 = .ok (.iconst 1, 1) := by decide +kernel
theorem dL_isStep_760 : decode cL_isStep 760 = .ok (.goto 4, 3) := by decide +kernel
theorem dL_isStep_763 : decode cL_isStep 763 = .ok (.iconst 0, 1) := by decide +kernel
theorem dL_isStep_764 : decode cL_isStep 764 = .ok (.ireturn, 1) := by decide +kernel
theorem dL_isStep_765 : decode cL_isStep 765 = .ok (.iconst 1, 1) := by decide +kernel
theorem dL_isStep_766 : decode cL_isStep 766 = .ok (.iload_n 3, 1) := by decide +kernel
theorem dL_isStep_767 : decode cL_isStep 767 = .ok (.bipush 9, 2) := by decide +kernel
theorem dL_isStep_769 : decode cL_isStep 769 = .ok (.invokestatic 19, 3) := by decide +kernel
theorem dL_isStep_772 : decode cL_isStep 772 = .ok (.iadd, 1) := by decide +kernel
theorem dL_isStep_773 : decode cL_isStep 773 = .ok (.istore 6, 2) := by decide +kernel
theorem dL_isStep_775 : decode cL_isStep 775 = .ok (.iload_n 3, 1) := by decide +kernel
theorem dL_isStep_776 : decode cL_isStep 776 = .ok (.iconst 4, 1) := by decide +kernel
theorem dL_isStep_777 : decode cL_isStep 777 = .ok (.ishr, 1) := by decide +kernel
theorem dL_isStep_778 : decode cL_isStep 778 = .ok (.iload 4, 2) := by decide +kernel
theorem dL_isStep_780 : decode cL_isStep 780 = .ok (.iconst 3, 1) := by decide +kernel
theorem dL_isStep_781 : decode cL_isStep 781 = .ok (.invokestatic 19, 3) := by decide +kernel
theorem dL_isStep_784 : decode cL_isStep 784 = .ok (.ifCond .ne 8, 3) := by decide +kernel
theorem dL_isStep_787 : decode cL_isStep 787 = .ok (.bipush 61, 2) := by decide +kernel
theorem dL_isStep_789 : decode cL_isStep 789 = .ok (.goto 4, 3) := by decide +kernel
theorem dL_isStep_792 : decode cL_isStep 792 = .ok (.iconst 3, 1) := by decide +kernel
theorem dL_isStep_793 : decode cL_isStep 793 = .ok (.invokestatic 19, 3) := by decide +kernel
theorem dL_isStep_796 : decode cL_isStep 796 = .ok (.istore 7, 2) := by decide +kernel
theorem dL_isStep_798 : decode cL_isStep 798 = .ok (.aload_n 0, 1) := by decide +kernel
theorem dL_isStep_799 : decode cL_isStep 799 = .ok (.iconst 0, 1) := by decide +kernel
theorem dL_isStep_800 : decode cL_isStep 800 = .ok (.invokevirtual 15, 3) := by decide +kernel
theorem dL_isStep_803 : decode cL_isStep 803 = .ok (.iload 4, 2) := by decide +kernel
theorem dL_isStep_805 : decode cL_isStep 805 = .ok (.bipush 6, 2) := by decide +kernel
theorem dL_isStep_807 : decode cL_isStep 807 = .ok (.invokestatic 19, 3) := by decide +kernel
theorem dL_isStep_810 : decode cL_isStep 810 = .ok (.iadd, 1) := by decide +kernel
theorem dL_isStep_811 : decode cL_isStep 811 = .ok (.istore 8, 2) := by decide +kernel
theorem dL_isStep_813 : decode cL_isStep 813 = .ok (.iload 8, 2) := by decide +kernel
theorem dL_isStep_815 : decode cL_isStep 815 = .ok (.sipush 9999, 3) := by decide +kernel
theorem dL_isStep_818 : decode cL_isStep 818 = .ok (.if_icmp .gt 10, 3) := by decide +kernel
theorem dL_isStep_821 : decode cL_isStep 821 = .ok (.iload 5, 2) := by decide +kernel
theorem dL_isStep_823 : decode cL_isStep 823 = .ok (.bipush 24, 2) := by decide +kernel
theorem dL_isStep_825 : decode cL_isStep 825 = .ok (.if_icmp .ne 22, 3) := by decide +kernel
theorem dL_isStep_828 : decode cL_isStep 828 = .ok (.aload_n 0, 1) := by decide +kernel
theorem dL_isStep_829 : decode cL_isStep 829 = .ok (.iload 6, 2) := by decide +kernel
theorem dL_isStep_831 : decode cL_isStep 831 = .ok (.iload 7, 2) := by decide +kernel
theorem dL_isStep_833 : decode cL_isStep 833 = .ok (.iload 8, 2) := by decide +kernel
theorem dL_isStep_835 : decode cL_isStep 835 = .ok (.invokevirtual 59, 3) := by decide +kernel
theorem dL_isStep_838 : decode cL_isStep 838 = .ok (.ifCond .ge 7, 3) := by decide +kernel
theorem dL_isStep_841 : decode cL_isStep 841 = .ok (.iconst 1, 1) := by decide +kernel
theorem dL_isStep_842 : decode cL_isStep 842 = .ok (.goto 4, 3) := by decide +kernel
theorem dL_isStep_845 : decode cL_isStep 845 = .ok (.iconst 0, 1) := by decide +kernel
theorem dL_isStep_846 : decode cL_isStep 846 = .ok (.ireturn, 1) := by decide +kernel
theorem dL_isStep_847 : decode cL_isStep 847 = .ok (.aload_n 0, 1) := by decide +kernel
theorem dL_isStep_848 : decode cL_isStep 848 = .ok (.iload 6, 2) := by decide +kernel
theorem dL_isStep_850 : decode cL_isStep 850 = .ok (.iload 7, 2) := by decide +kernel
theorem dL_isStep_852 : decode cL_isStep 852 = .ok (.iload 8, 2) := by decide +kernel
theorem dL_isStep_854 : decode cL_isStep 854 = .ok (.invokevirtual 59, 3) := by decide +kernel
theorem dL_isStep_857 : decode cL_isStep 857 = .ok (.iload 5, 2) := by decide +kernel
theorem dL_isStep_859 : decode cL_isStep 859 = .ok (.if_icmp .ne 100, 3) := by decide +kernel
theorem dL_isStep_862 : decode cL_isStep 862 = .ok (.aload_n 1, 1) := by decide +kernel
theorem dL_isStep_863 : decode cL_isStep 863 = .ok (.invokevirtual 63, 3) := by decide +kernel
theorem dL_isStep_866 : decode cL_isStep 866 = .ok (.ifCond .lt 93, 3) := by decide +kernel
