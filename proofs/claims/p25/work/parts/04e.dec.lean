theorem dL_law_508 : decode cL_law 508 = .ok (.iload 17, 2) := by decide +kernel
theorem dL_law_510 : decode cL_law 510 = .ok (.iconst 1, 1) := by decide +kernel
theorem dL_law_511 : decode cL_law 511 = .ok (.iastore, 1) := by decide +kernel
theorem dL_law_512 : decode cL_law 512 = .ok (.lload 15, 2) := by decide +kernel
theorem dL_law_514 : decode cL_law 514 = .ok (.aload_n 2, 1) := by decide +kernel
theorem dL_law_515 : decode cL_law 515 = .ok (.aload 4, 2) := by decide +kernel
theorem dL_law_517 : decode cL_law 517 = .ok (.iload 17, 2) := by decide +kernel
theorem dL_law_519 : decode cL_law 519 = .ok (.invokestatic 32, 3) := by decide +kernel
theorem dL_law_522 : decode cL_law 522 = .ok (.ladd, 1) := by decide +kernel
theorem dL_law_523 : decode cL_law 523 = .ok (.lstore 15, 2) := by decide +kernel
theorem dL_law_525 : decode cL_law 525 = .ok (.iinc 17 1, 3) := by decide +kernel
theorem dL_law_528 : decode cL_law 528 = .ok (.goto 1104, 3) := by decide +kernel
theorem dL_law_531 : decode cL_law 531 = .ok (.iload 25, 2) := by decide +kernel
theorem dL_law_533 : decode cL_law 533 = .ok (.iconst 3, 1) := by decide +kernel
theorem dL_law_534 : decode cL_law 534 = .ok (.if_icmp .ne 98, 3) := by decide +kernel
theorem dL_law_537 : decode cL_law 537 = .ok (.aload 9, 2) := by decide +kernel
theorem dL_law_539 : decode cL_law 539 = .ok (.bipush 6, 2) := by decide +kernel
theorem dL_law_541 : decode cL_law 541 = .ok (.iload 24, 2) := by decide +kernel
theorem dL_law_543 : decode cL_law 543 = .ok (.sipush 1001, 3) := by decide +kernel
theorem dL_law_546 : decode cL_law 546 = .ok (.invokestatic 20, 3) := by decide +kernel
theorem dL_law_549 : decode cL_law 549 = .ok (.iastore, 1) := by decide +kernel
theorem dL_law_550 : decode cL_law 550 = .ok (.aload_n 1, 1) := by decide +kernel
theorem dL_law_551 : decode cL_law 551 = .ok (.aload 9, 2) := by decide +kernel
theorem dL_law_553 : decode cL_law 553 = .ok (.bipush 6, 2) := by decide +kernel
theorem dL_law_555 : decode cL_law 555 = .ok (.iaload, 1) := by decide +kernel
theorem dL_law_556 : decode cL_law 556 = .ok (.invokevirtual 36, 3) := by decide +kernel
theorem dL_law_559 : decode cL_law 559 = .ok (.pop, 1) := by decide +kernel
theorem dL_law_560 : decode cL_law 560 = .ok (.aload 9, 2) := by decide +kernel
theorem dL_law_562 : decode cL_law 562 = .ok (.bipush 7, 2) := by decide +kernel
theorem dL_law_564 : decode cL_law 564 = .ok (.iload 24, 2) := by decide +kernel
theorem dL_law_566 : decode cL_law 566 = .ok (.iconst 4, 1) := by decide +kernel
theorem dL_law_567 : decode cL_law 567 = .ok (.ishr, 1) := by decide +kernel
theorem dL_law_568 : decode cL_law 568 = .ok (.bipush 120, 2) := by decide +kernel
theorem dL_law_570 : decode cL_law 570 = .ok (.invokestatic 20, 3) := by decide +kernel
theorem dL_law_573 : decode cL_law 573 = .ok (.iastore, 1) := by decide +kernel
theorem dL_law_574 : decode cL_law 574 = .ok (.aload 9, 2) := by decide +kernel
theorem dL_law_576 : decode cL_law 576 = .ok (.bipush 8, 2) := by decide +kernel
theorem dL_law_578 : decode cL_law 578 = .ok (.aload 9, 2) := by decide +kernel
theorem dL_law_580 : decode cL_law 580 = .ok (.bipush 7, 2) := by decide +kernel
theorem dL_law_582 : decode cL_law 582 = .ok (.iaload, 1) := by decide +kernel
theorem dL_law_583 : decode cL_law 583 = .ok (.iload 24, 2) := by decide +kernel
theorem dL_law_585 : decode cL_law 585 = .ok (.bipush 11, 2) := by decide +kernel
theorem dL_law_587 : decode cL_law 587 = .ok (.ishr, 1) := by decide +kernel
theorem dL_law_588 : decode cL_law 588 = .ok (.bipush 120, 2) := by decide +kernel
theorem dL_law_590 : decode cL_law 590 = .ok (.invokestatic 20, 3) := by decide +kernel
theorem dL_law_593 : decode cL_law 593 = .ok (.iadd, 1) := by decide +kernel
theorem dL_law_594 : decode cL_law 594 = .ok (.iastore, 1) := by decide +kernel
theorem dL_law_595 : decode cL_law 595 = .ok (.aload 9, 2) := by decide +kernel
theorem dL_law_597 : decode cL_law 597 = .ok (.bipush 9, 2) := by decide +kernel
theorem dL_law_599 : decode cL_law 599 = .ok (.iload 24, 2) := by decide +kernel
theorem dL_law_601 : decode cL_law 601 = .ok (.bipush 18, 2) := by decide +kernel
theorem dL_law_603 : decode cL_law 603 = .ok (.ishr, 1) := by decide +kernel
theorem dL_law_604 : decode cL_law 604 = .ok (.bipush 101, 2) := by decide +kernel
theorem dL_law_606 : decode cL_law 606 = .ok (.invokestatic 20, 3) := by decide +kernel
theorem dL_law_609 : decode cL_law 609 = .ok (.iastore, 1) := by decide +kernel
theorem dL_law_610 : decode cL_law 610 = .ok (.aload_n 1, 1) := by decide +kernel
theorem dL_law_611 : decode cL_law 611 = .ok (.aload 9, 2) := by decide +kernel
theorem dL_law_613 : decode cL_law 613 = .ok (.bipush 7, 2) := by decide +kernel
theorem dL_law_615 : decode cL_law 615 = .ok (.iaload, 1) := by decide +kernel
theorem dL_law_616 : decode cL_law 616 = .ok (.aload 9, 2) := by decide +kernel
theorem dL_law_618 : decode cL_law 618 = .ok (.bipush 8, 2) := by decide +kernel
theorem dL_law_620 : decode cL_law 620 = .ok (.iaload, 1) := by decide +kernel
theorem dL_law_621 : decode cL_law 621 = .ok (.aload 9, 2) := by decide +kernel
theorem dL_law_623 : decode cL_law 623 = .ok (.bipush 9, 2) := by decide +kernel
theorem dL_law_625 : decode cL_law 625 = .ok (.iaload, 1) := by decide +kernel
theorem dL_law_626 : decode cL_law 626 = .ok (.invokevirtual 40, 3) := by decide +kernel
theorem dL_law_629 : decode cL_law 629 = .ok (.goto 1003, 3) := by decide +kernel
theorem dL_law_632 : decode cL_law 632 = .ok (.aload_n 1, 1) := by decide +kernel
theorem dL_law_633 : decode cL_law 633 = .ok (.iconst 1, 1) := by decide +kernel
theorem dL_law_634 : decode cL_law 634 = .ok (.invokevirtual 44, 3) := by decide +kernel
theorem dL_law_637 : decode cL_law 637 = .ok (.iconst 1, 1) := by decide +kernel
theorem dL_law_638 : decode cL_law 638 = .ok (.if_icmp .ge 5, 3) := by decide +kernel
theorem dL_law_641 : decode cL_law 641 = .ok (.iconst 0, 1) := by decide +kernel
theorem dL_law_642 : decode cL_law 642 = .ok (.ireturn, 1) := by decide +kernel
theorem dL_law_643 : decode cL_law 643 = .ok (.iconst 0, 1) := by decide +kernel
theorem dL_law_644 : decode cL_law 644 = .ok (.istore 26, 2) := by decide +kernel
theorem dL_law_646 : decode cL_law 646 = .ok (.iload 26, 2) := by decide +kernel
theorem dL_law_648 : decode cL_law 648 = .ok (.iload 17, 2) := by decide +kernel
theorem dL_law_650 : decode cL_law 650 = .ok (.if_icmp .ge 45, 3) := by decide +kernel
theorem dL_law_653 : decode cL_law 653 = .ok (.aload 7, 2) := by decide +kernel
theorem dL_law_655 : decode cL_law 655 = .ok (.iload 26, 2) := by decide +kernel
theorem dL_law_657 : decode cL_law 657 = .ok (.iaload, 1) := by decide +kernel
theorem dL_law_658 : decode cL_law 658 = .ok (.iconst 1, 1) := by decide +kernel
theorem dL_law_659 : decode cL_law 659 = .ok (.if_icmp .ne 24, 3) := by decide +kernel
theorem dL_law_662 : decode cL_law 662 = .ok (.aload_n 3, 1) := by decide +kernel
theorem dL_law_663 : decode cL_law 663 = .ok (.iload 26, 2) := by decide +kernel
theorem dL_law_665 : decode cL_law 665 = .ok (.aload_n 3, 1) := by decide +kernel
theorem dL_law_666 : decode cL_law 666 = .ok (.iload 26, 2) := by decide +kernel
theorem dL_law_668 : decode cL_law 668 = .ok (.iaload, 1) := by decide +kernel
theorem dL_law_669 : decode cL_law 669 = .ok (.aload 9, 2) := by decide +kernel
theorem dL_law_671 : decode cL_law 671 = .ok (.aload_n 2, 1) := by decide +kernel
theorem dL_law_672 : decode cL_law 672 = .ok (.iload 26, 2) := by decide +kernel
theorem dL_law_674 : decode cL_law 674 = .ok (.iaload, 1) := by decide +kernel
theorem dL_law_675 : decode cL_law 675 = .ok (.invokestatic 47, 3) := by decide +kernel
theorem dL_law_678 : decode cL_law 678 = .ok (.iadd, 1) := by decide +kernel
theorem dL_law_679 : decode cL_law 679 = .ok (.ldc 10, 2) := by decide +kernel
theorem dL_law_681 : decode cL_law 681 = .ok (.irem, 1) := by decide +kernel
theorem dL_law_682 : decode cL_law 682 = .ok (.iastore, 1) := by decide +kernel
theorem dL_law_683 : decode cL_law 683 = .ok (.aload 8, 2) := by decide +kernel
theorem dL_law_685 : decode cL_law 685 = .ok (.iload 26, 2) := by decide +kernel
theorem dL_law_687 : decode cL_law 687 = .ok (.iconst 0, 1) := by decide +kernel
theorem dL_law_688 : decode cL_law 688 = .ok (.iastore, 1) := by decide +kernel
theorem dL_law_689 : decode cL_law 689 = .ok (.iinc 26 1, 3) := by decide +kernel
theorem dL_law_692 : decode cL_law 692 = .ok (.goto (-46), 3) := by decide +kernel
theorem dL_law_695 : decode cL_law 695 = .ok (.iconst 0, 1) := by decide +kernel
theorem dL_law_696 : decode cL_law 696 = .ok (.istore 26, 2) := by decide +kernel
theorem dL_law_698 : decode cL_law 698 = .ok (.iload 26, 2) := by decide +kernel
theorem dL_law_700 : decode cL_law 700 = .ok (.iload 18, 2) := by decide +kernel
theorem dL_law_702 : decode cL_law 702 = .ok (.if_icmp .ge 43, 3) := by decide +kernel
theorem dL_law_705 : decode cL_law 705 = .ok (.aload 10, 2) := by decide +kernel
theorem dL_law_707 : decode cL_law 707 = .ok (.iconst 3, 1) := by decide +kernel
theorem dL_law_708 : decode cL_law 708 = .ok (.iload 26, 2) := by decide +kernel
theorem dL_law_710 : decode cL_law 710 = .ok (.imul, 1) := by decide +kernel
theorem dL_law_711 : decode cL_law 711 = .ok (.iconst 1, 1) := by decide +kernel
theorem dL_law_712 : decode cL_law 712 = .ok (.iadd, 1) := by decide +kernel
theorem dL_law_713 : decode cL_law 713 = .ok (.aload 10, 2) := by decide +kernel
theorem dL_law_715 : decode cL_law 715 = .ok (.iconst 3, 1) := by decide +kernel
theorem dL_law_716 : decode cL_law 716 = .ok (.iload 26, 2) := by decide +kernel
theorem dL_law_718 : decode cL_law 718 = .ok (.imul, 1) := by decide +kernel
theorem dL_law_719 : decode cL_law 719 = .ok (.iconst 1, 1) := by decide +kernel
theorem dL_law_720 : decode cL_law 720 = .ok (.iadd, 1) := by decide +kernel
theorem dL_law_721 : decode cL_law 721 = .ok (.iaload, 1) := by decide +kernel
theorem dL_law_722 : decode cL_law 722 = .ok (.aload 9, 2) := by decide +kernel
theorem dL_law_724 : decode cL_law 724 = .ok (.aload 10, 2) := by decide +kernel
theorem dL_law_726 : decode cL_law 726 = .ok (.iconst 3, 1) := by decide +kernel
theorem dL_law_727 : decode cL_law 727 = .ok (.iload 26, 2) := by decide +kernel
theorem dL_law_729 : decode cL_law 729 = .ok (.imul, 1) := by decide +kernel
theorem dL_law_730 : decode cL_law 730 = .ok (.iaload, 1) := by decide +kernel
theorem dL_law_731 : decode cL_law 731 = .ok (.invokestatic 47, 3) := by decide +kernel
theorem dL_law_734 : decode cL_law 734 = .ok (.iadd, 1) := by decide +kernel
theorem dL_law_735 : decode cL_law 735 = .ok (.ldc 10, 2) := by decide +kernel
theorem dL_law_737 : decode cL_law 737 = .ok (.irem, 1) := by decide +kernel
theorem dL_law_738 : decode cL_law 738 = .ok (.iastore, 1) := by decide +kernel
theorem dL_law_739 : decode cL_law 739 = .ok (.iinc 26 1, 3) := by decide +kernel
theorem dL_law_742 : decode cL_law 742 = .ok (.goto (-44), 3) := by decide +kernel
theorem dL_law_745 : decode cL_law 745 = .ok (.iconst 0, 1) := by decide +kernel
theorem dL_law_746 : decode cL_law 746 = .ok (.istore 26, 2) := by decide +kernel
theorem dL_law_748 : decode cL_law 748 = .ok (.iload 26, 2) := by decide +kernel
theorem dL_law_750 : decode cL_law 750 = .ok (.iload 18, 2) := by decide +kernel
theorem dL_law_752 : decode cL_law 752 = .ok (.if_icmp .ge 178, 3) := by decide +kernel
theorem dL_law_755 : decode cL_law 755 = .ok (.iconst 0, 1) := by decide +kernel
theorem dL_law_756 : decode cL_law 756 = .ok (.istore 27, 2) := by decide +kernel
theorem dL_law_758 : decode cL_law 758 = .ok (.iload 27, 2) := by decide +kernel
theorem dL_law_760 : decode cL_law 760 = .ok (.iload 17, 2) := by decide +kernel
theorem dL_law_762 : decode cL_law 762 = .ok (.if_icmp .ge 162, 3) := by decide +kernel
theorem dL_law_765 : decode cL_law 765 = .ok (.aload_n 2, 1) := by decide +kernel
theorem dL_law_766 : decode cL_law 766 = .ok (.iload 27, 2) := by decide +kernel
theorem dL_law_768 : decode cL_law 768 = .ok (.iaload, 1) := by decide +kernel
theorem dL_law_769 : decode cL_law 769 = .ok (.aload 10, 2) := by decide +kernel
theorem dL_law_771 : decode cL_law 771 = .ok (.iconst 3, 1) := by decide +kernel
theorem dL_law_772 : decode cL_law 772 = .ok (.iload 26, 2) := by decide +kernel
theorem dL_law_774 : decode cL_law 774 = .ok (.imul, 1) := by decide +kernel
theorem dL_law_775 : decode cL_law 775 = .ok (.iaload, 1) := by decide +kernel
theorem dL_law_776 : decode cL_law 776 = .ok (.isub, 1) := by decide +kernel
theorem dL_law_777 : decode cL_law 777 = .ok (.istore 28, 2) := by decide +kernel
theorem dL_law_779 : decode cL_law 779 = .ok (.aload 7, 2) := by decide +kernel
theorem dL_law_781 : decode cL_law 781 = .ok (.iload 27, 2) := by decide +kernel
theorem dL_law_783 : decode cL_law 783 = .ok (.iaload, 1) := by decide +kernel
theorem dL_law_784 : decode cL_law 784 = .ok (.ifCond .eq 134, 3) := by decide +kernel
theorem dL_law_787 : decode cL_law 787 = .ok (.iload 28, 2) := by decide +kernel
theorem dL_law_789 : decode cL_law 789 = .ok (.aload 10, 2) := by decide +kernel
theorem dL_law_791 : decode cL_law 791 = .ok (.iconst 3, 1) := by decide +kernel
theorem dL_law_792 : decode cL_law 792 = .ok (.iload 26, 2) := by decide +kernel
theorem dL_law_794 : decode cL_law 794 = .ok (.imul, 1) := by decide +kernel
theorem dL_law_795 : decode cL_law 795 = .ok (.iconst 2, 1) := by decide +kernel
theorem dL_law_796 : decode cL_law 796 = .ok (.iadd, 1) := by decide +kernel
theorem dL_law_797 : decode cL_law 797 = .ok (.iaload, 1) := by decide +kernel
theorem dL_law_798 : decode cL_law 798 = .ok (.if_icmp .gt 120, 3) := by decide +kernel
theorem dL_law_801 : decode cL_law 801 = .ok (.iload 28, 2) := by decide +kernel
theorem dL_law_803 : decode cL_law 803 = .ok (.ineg, 1) := by decide +kernel
theorem dL_law_804 : decode cL_law 804 = .ok (.aload 10, 2) := by decide +kernel
theorem dL_law_806 : decode cL_law 806 = .ok (.iconst 3, 1) := by decide +kernel
theorem dL_law_807 : decode cL_law 807 = .ok (.iload 26, 2) := by decide +kernel
theorem dL_law_809 : decode cL_law 809 = .ok (.imul, 1) := by decide +kernel
theorem dL_law_810 : decode cL_law 810 = .ok (.iconst 2, 1) := by decide +kernel
theorem dL_law_811 : decode cL_law 811 = .ok (.iadd, 1) := by decide +kernel
theorem dL_law_812 : decode cL_law 812 = .ok (.iaload, 1) := by decide +kernel
theorem dL_law_813 : decode cL_law 813 = .ok (.if_icmp .gt 105, 3) := by decide +kernel
theorem dL_law_816 : decode cL_law 816 = .ok (.aload_n 3, 1) := by decide +kernel
theorem dL_law_817 : decode cL_law 817 = .ok (.iload 27, 2) := by decide +kernel
theorem dL_law_819 : decode cL_law 819 = .ok (.iaload, 1) := by decide +kernel
theorem dL_law_820 : decode cL_law 820 = .ok (.aload 10, 2) := by decide +kernel
theorem dL_law_822 : decode cL_law 822 = .ok (.iconst 3, 1) := by decide +kernel
theorem dL_law_823 : decode cL_law 823 = .ok (.iload 26, 2) := by decide +kernel
theorem dL_law_825 : decode cL_law 825 = .ok (.imul, 1) := by decide +kernel
theorem dL_law_826 : decode cL_law 826 = .ok (.iconst 1, 1) := by decide +kernel
theorem dL_law_827 : decode cL_law 827 = .ok (.iadd, 1) := by decide +kernel
theorem dL_law_828 : decode cL_law 828 = .ok (.iaload, 1) := by decide +kernel
theorem dL_law_829 : decode cL_law 829 = .ok (.invokestatic 50, 3) := by decide +kernel
theorem dL_law_832 : decode cL_law 832 = .ok (.sipush 1000, 3) := by decide +kernel
theorem dL_law_835 : decode cL_law 835 = .ok (.if_icmp .le 6, 3) := by decide +kernel
theorem dL_law_838 : decode cL_law 838 = .ok (.goto 80, 3) := by decide +kernel
theorem dL_law_841 : decode cL_law 841 = .ok (.lload 11, 2) := by decide +kernel
theorem dL_law_843 : decode cL_law 843 = .ok (.aload_n 2, 1) := by decide +kernel
theorem dL_law_844 : decode cL_law 844 = .ok (.aload 4, 2) := by decide +kernel
theorem dL_law_846 : decode cL_law 846 = .ok (.iload 27, 2) := by decide +kernel
theorem dL_law_848 : decode cL_law 848 = .ok (.invokestatic 32, 3) := by decide +kernel
theorem dL_law_851 : decode cL_law 851 = .ok (.lsub, 1) := by decide +kernel
theorem dL_law_852 : decode cL_law 852 = .ok (.lstore 11, 2) := by decide +kernel
theorem dL_law_854 : decode cL_law 854 = .ok (.lload 11, 2) := by decide +kernel
theorem dL_law_856 : decode cL_law 856 = .ok (.aload_n 2, 1) := by decide +kernel
theorem dL_law_857 : decode cL_law 857 = .ok (.aload 4, 2) := by decide +kernel
theorem dL_law_859 : decode cL_law 859 = .ok (.aload 7, 2) := by decide +kernel
theorem dL_law_861 : decode cL_law 861 = .ok (.aload 9, 2) := by decide +kernel
theorem dL_law_863 : decode cL_law 863 = .ok (.iload 27, 2) := by decide +kernel
theorem dL_law_865 : decode cL_law 865 = .ok (.iload 28, 2) := by decide +kernel
theorem dL_law_867 : decode cL_law 867 = .ok (.ifCond .ge 12, 3) := by decide +kernel
theorem dL_law_870 : decode cL_law 870 = .ok (.aload_n 2, 1) := by decide +kernel
theorem dL_law_871 : decode cL_law 871 = .ok (.iload 27, 2) := by decide +kernel
theorem dL_law_873 : decode cL_law 873 = .ok (.iaload, 1) := by decide +kernel
theorem dL_law_874 : decode cL_law 874 = .ok (.iconst 1, 1) := by decide +kernel
theorem dL_law_875 : decode cL_law 875 = .ok (.isub, 1) := by decide +kernel
theorem dL_law_876 : decode cL_law 876 = .ok (.goto 9, 3) := by decide +kernel
theorem dL_law_879 : decode cL_law 879 = .ok (.aload_n 2, 1) := by decide +kernel
theorem dL_law_880 : decode cL_law 880 = .ok (.iload 27, 2) := by decide +kernel
theorem dL_law_882 : decode cL_law 882 = .ok (.iaload, 1) := by decide +kernel
theorem dL_law_883 : decode cL_law 883 = .ok (.iconst 1, 1) := by decide +kernel
theorem dL_law_884 : decode cL_law 884 = .ok (.iadd, 1) := by decide +kernel
theorem dL_law_885 : decode cL_law 885 = .ok (.invokestatic 53, 3) := by decide +kernel
theorem dL_law_888 : decode cL_law 888 = .ok (.ladd, 1) := by decide +kernel
theorem dL_law_889 : decode cL_law 889 = .ok (.lstore 11, 2) := by decide +kernel
theorem dL_law_891 : decode cL_law 891 = .ok (.aload 5, 2) := by decide +kernel
theorem dL_law_893 : decode cL_law 893 = .ok (.iload 27, 2) := by decide +kernel
theorem dL_law_895 : decode cL_law 895 = .ok (.aload 5, 2) := by decide +kernel
theorem dL_law_897 : decode cL_law 897 = .ok (.iload 27, 2) := by decide +kernel
theorem dL_law_899 : decode cL_law 899 = .ok (.iaload, 1) := by decide +kernel
theorem dL_law_900 : decode cL_law 900 = .ok (.bipush 94, 2) := by decide +kernel
theorem dL_law_902 : decode cL_law 902 = .ok (.if_icmp .le 8, 3) := by decide +kernel
theorem dL_law_905 : decode cL_law 905 = .ok (.bipush 99, 2) := by decide +kernel
theorem dL_law_907 : decode cL_law 907 = .ok (.goto 10, 3) := by decide +kernel
theorem dL_law_910 : decode cL_law 910 = .ok (.aload 5, 2) := by decide +kernel
theorem dL_law_912 : decode cL_law 912 = .ok (.iload 27, 2) := by decide +kernel
theorem dL_law_914 : decode cL_law 914 = .ok (.iaload, 1) := by decide +kernel
theorem dL_law_915 : decode cL_law 915 = .ok (.iconst 5, 1) := by decide +kernel
theorem dL_law_916 : decode cL_law 916 = .ok (.iadd, 1) := by decide +kernel
theorem dL_law_917 : decode cL_law 917 = .ok (.iastore, 1) := by decide +kernel
theorem dL_law_918 : decode cL_law 918 = .ok (.iinc 27 1, 3) := by decide +kernel
theorem dL_law_921 : decode cL_law 921 = .ok (.goto (-163), 3) := by decide +kernel
theorem dL_law_924 : decode cL_law 924 = .ok (.iinc 26 1, 3) := by decide +kernel
theorem dL_law_927 : decode cL_law 927 = .ok (.goto (-179), 3) := by decide +kernel
theorem dL_law_930 : decode cL_law 930 = .ok (.iload 17, 2) := by decide +kernel
theorem dL_law_932 : decode cL_law 932 = .ok (.istore 26, 2) := by decide +kernel
theorem dL_law_934 : decode cL_law 934 = .ok (.iconst 0, 1) := by decide +kernel
theorem dL_law_935 : decode cL_law 935 = .ok (.istore 27, 2) := by decide +kernel
theorem dL_law_937 : decode cL_law 937 = .ok (.iload 27, 2) := by decide +kernel
theorem dL_law_939 : decode cL_law 939 = .ok (.iload 26, 2) := by decide +kernel
theorem dL_law_941 : decode cL_law 941 = .ok (.if_icmp .ge 646, 3) := by decide +kernel
theorem dL_law_944 : decode cL_law 944 = .ok (.iload 27, 2) := by decide +kernel
theorem dL_law_946 : decode cL_law 946 = .ok (.iconst 1, 1) := by decide +kernel
theorem dL_law_947 : decode cL_law 947 = .ok (.iadd, 1) := by decide +kernel
theorem dL_law_948 : decode cL_law 948 = .ok (.istore 28, 2) := by decide +kernel
theorem dL_law_950 : decode cL_law 950 = .ok (.iload 28, 2) := by decide +kernel
theorem dL_law_952 : decode cL_law 952 = .ok (.iload 26, 2) := by decide +kernel
theorem dL_law_954 : decode cL_law 954 = .ok (.if_icmp .ge 627, 3) := by decide +kernel
theorem dL_law_957 : decode cL_law 957 = .ok (.aload_n 2, 1) := by decide +kernel
theorem dL_law_958 : decode cL_law 958 = .ok (.iload 28, 2) := by decide +kernel
theorem dL_law_960 : decode cL_law 960 = .ok (.iaload, 1) := by decide +kernel
theorem dL_law_961 : decode cL_law 961 = .ok (.aload_n 2, 1) := by decide +kernel
theorem dL_law_962 : decode cL_law 962 = .ok (.iload 27, 2) := by decide +kernel
theorem dL_law_964 : decode cL_law 964 = .ok (.iaload, 1) := by decide +kernel
theorem dL_law_965 : decode cL_law 965 = .ok (.isub, 1) := by decide +kernel
theorem dL_law_966 : decode cL_law 966 = .ok (.istore 29, 2) := by decide +kernel
theorem dL_law_968 : decode cL_law 968 = .ok (.aload 7, 2) := by decide +kernel
theorem dL_law_970 : decode cL_law 970 = .ok (.iload 27, 2) := by decide +kernel
theorem dL_law_972 : decode cL_law 972 = .ok (.iaload, 1) := by decide +kernel
theorem dL_law_973 : decode cL_law 973 = .ok (.ifCond .eq 602, 3) := by decide +kernel
theorem dL_law_976 : decode cL_law 976 = .ok (.aload 7, 2) := by decide +kernel
theorem dL_law_978 : decode cL_law 978 = .ok (.iload 28, 2) := by decide +kernel
theorem dL_law_980 : decode cL_law 980 = .ok (.iaload, 1) := by decide +kernel
theorem dL_law_981 : decode cL_law 981 = .ok (.ifCond .eq 594, 3) := by decide +kernel
theorem dL_law_984 : decode cL_law 984 = .ok (.aload 8, 2) := by decide +kernel
theorem dL_law_986 : decode cL_law 986 = .ok (.iload 27, 2) := by decide +kernel
theorem dL_law_988 : decode cL_law 988 = .ok (.iaload, 1) := by decide +kernel
theorem dL_law_989 : decode cL_law 989 = .ok (.iconst 1, 1) := by decide +kernel
theorem dL_law_990 : decode cL_law 990 = .ok (.if_icmp .eq 585, 3) := by decide +kernel
theorem dL_law_993 : decode cL_law 993 = .ok (.aload 8, 2) := by decide +kernel
theorem dL_law_995 : decode cL_law 995 = .ok (.iload 28, 2) := by decide +kernel
theorem dL_law_997 : decode cL_law 997 = .ok (.iaload, 1) := by decide +kernel
theorem dL_law_998 : decode cL_law 998 = .ok (.iconst 1, 1) := by decide +kernel
theorem dL_law_999 : decode cL_law 999 = .ok (.if_icmp .eq 576, 3) := by decide +kernel
theorem dL_law_1002 : decode cL_law 1002 = .ok (.iload 29, 2) := by decide +kernel
theorem dL_law_1004 : decode cL_law 1004 = .ok (.iconst 1, 1) := by decide +kernel
theorem dL_law_1005 : decode cL_law 1005 = .ok (.if_icmp .gt 570, 3) := by decide +kernel
theorem dL_law_1008 : decode cL_law 1008 = .ok (.iload 29, 2) := by decide +kernel
theorem dL_law_1010 : decode cL_law 1010 = .ok (.iconst (-1), 1) := by decide +kernel
theorem dL_law_1011 : decode cL_law 1011 = .ok (.if_icmp .lt 564, 3) := by decide +kernel
theorem dL_law_1014 : decode cL_law 1014 = .ok (.aload_n 3, 1) := by decide +kernel
theorem dL_law_1015 : decode cL_law 1015 = .ok (.iload 27, 2) := by decide +kernel
theorem dL_law_1017 : decode cL_law 1017 = .ok (.iaload, 1) := by decide +kernel
theorem dL_law_1018 : decode cL_law 1018 = .ok (.aload_n 3, 1) := by decide +kernel
theorem dL_law_1019 : decode cL_law 1019 = .ok (.iload 28, 2) := by decide +kernel
theorem dL_law_1021 : decode cL_law 1021 = .ok (.iaload, 1) := by decide +kernel
theorem dL_law_1022 : decode cL_law 1022 = .ok (.invokestatic 50, 3) := by decide +kernel
theorem dL_law_1025 : decode cL_law 1025 = .ok (.bipush 100, 2) := by decide +kernel
theorem dL_law_1027 : decode cL_law 1027 = .ok (.if_icmp .le 6, 3) := by decide +kernel
theorem dL_law_1030 : decode cL_law 1030 = .ok (.goto 545, 3) := by decide +kernel
theorem dL_law_1033 : decode cL_law 1033 = .ok (.aload 8, 2) := by decide +kernel
theorem dL_law_1035 : decode cL_law 1035 = .ok (.iload 27, 2) := by decide +kernel
theorem dL_law_1037 : decode cL_law 1037 = .ok (.iconst 1, 1) := by decide +kernel
theorem dL_law_1038 : decode cL_law 1038 = .ok (.iastore, 1) := by decide +kernel
theorem dL_law_1039 : decode cL_law 1039 = .ok (.aload 8, 2) := by decide +kernel
theorem dL_law_1041 : decode cL_law 1041 = .ok (.iload 28, 2) := by decide +kernel
theorem dL_law_1043 : decode cL_law 1043 = .ok (.iconst 1, 1) := by decide +kernel
theorem dL_law_1044 : decode cL_law 1044 = .ok (.iastore, 1) := by decide +kernel
theorem dL_law_1045 : decode cL_law 1045 = .ok (.aload 9, 2) := by decide +kernel
theorem dL_law_1047 : decode cL_law 1047 = .ok (.aload_n 2, 1) := by decide +kernel
theorem dL_law_1048 : decode cL_law 1048 = .ok (.iload 27, 2) := by decide +kernel
theorem dL_law_1050 : decode cL_law 1050 = .ok (.iaload, 1) := by decide +kernel
theorem dL_law_1051 : decode cL_law 1051 = .ok (.invokestatic 47, 3) := by decide +kernel
theorem dL_law_1054 : decode cL_law 1054 = .ok (.aload 9, 2) := by decide +kernel
theorem dL_law_1056 : decode cL_law 1056 = .ok (.aload_n 2, 1) := by decide +kernel
theorem dL_law_1057 : decode cL_law 1057 = .ok (.iload 28, 2) := by decide +kernel
theorem dL_law_1059 : decode cL_law 1059 = .ok (.iaload, 1) := by decide +kernel
theorem dL_law_1060 : decode cL_law 1060 = .ok (.invokestatic 47, 3) := by decide +kernel
theorem dL_law_1063 : decode cL_law 1063 = .ok (.isub, 1) := by decide +kernel
theorem dL_law_1064 : decode cL_law 1064 = .ok (.istore 30, 2) := by decide +kernel
theorem dL_law_1066 : decode cL_law 1066 = .ok (.aload 5, 2) := by decide +kernel
theorem dL_law_1068 : decode cL_law 1068 = .ok (.iload 27, 2) := by decide +kernel
theorem dL_law_1070 : decode cL_law 1070 = .ok (.iaload, 1) := by decide +kernel
theorem dL_law_1071 : decode cL_law 1071 = .ok (.aload 5, 2) := by decide +kernel
theorem dL_law_1073 : decode cL_law 1073 = .ok (.iload 28, 2) := by decide +kernel
theorem dL_law_1075 : decode cL_law 1075 = .ok (.iaload, 1) := by decide +kernel
theorem dL_law_1076 : decode cL_law 1076 = .ok (.iadd, 1) := by decide +kernel
theorem dL_law_1077 : decode cL_law 1077 = .ok (.iload 30, 2) := by decide +kernel
theorem dL_law_1079 : decode cL_law 1079 = .ok (.ifCond .ge 9, 3) := by decide +kernel
theorem dL_law_1082 : decode cL_law 1082 = .ok (.iload 30, 2) := by decide +kernel
theorem dL_law_1084 : decode cL_law 1084 = .ok (.ineg, 1) := by decide +kernel
theorem dL_law_1085 : decode cL_law 1085 = .ok (.goto 5, 3) := by decide +kernel
theorem dL_law_1088 : decode cL_law 1088 = .ok (.iload 30, 2) := by decide +kernel
theorem dL_law_1090 : decode cL_law 1090 = .ok (.iadd, 1) := by decide +kernel
theorem dL_law_1091 : decode cL_law 1091 = .ok (.istore 31, 2) := by decide +kernel
theorem dL_law_1093 : decode cL_law 1093 = .ok (.lload 13, 2) := by decide +kernel
theorem dL_law_1095 : decode cL_law 1095 = .ok (.aload_n 2, 1) := by decide +kernel
theorem dL_law_1096 : decode cL_law 1096 = .ok (.aload 4, 2) := by decide +kernel
theorem dL_law_1098 : decode cL_law 1098 = .ok (.iload 27, 2) := by decide +kernel
theorem dL_law_1100 : decode cL_law 1100 = .ok (.invokestatic 32, 3) := by decide +kernel
theorem dL_law_1103 : decode cL_law 1103 = .ok (.aload_n 2, 1) := by decide +kernel
theorem dL_law_1104 : decode cL_law 1104 = .ok (.aload 4, 2) := by decide +kernel
theorem dL_law_1106 : decode cL_law 1106 = .ok (.iload 28, 2) := by decide +kernel
theorem dL_law_1108 : decode cL_law 1108 = .ok (.invokestatic 32, 3) := by decide +kernel
theorem dL_law_1111 : decode cL_law 1111 = .ok (.ladd, 1) := by decide +kernel
theorem dL_law_1112 : decode cL_law 1112 = .ok (.ladd, 1) := by decide +kernel
theorem dL_law_1113 : decode cL_law 1113 = .ok (.lstore 13, 2) := by decide +kernel
theorem dL_law_1115 : decode cL_law 1115 = .ok (.aload 4, 2) := by decide +kernel
theorem dL_law_1117 : decode cL_law 1117 = .ok (.iload 27, 2) := by decide +kernel
theorem dL_law_1119 : decode cL_law 1119 = .ok (.iaload, 1) := by decide +kernel
theorem dL_law_1120 : decode cL_law 1120 = .ok (.aload 4, 2) := by decide +kernel
theorem dL_law_1122 : decode cL_law 1122 = .ok (.iload 28, 2) := by decide +kernel
theorem dL_law_1124 : decode cL_law 1124 = .ok (.iaload, 1) := by decide +kernel
theorem dL_law_1125 : decode cL_law 1125 = .ok (.if_icmp .ge 8, 3) := by decide +kernel
theorem dL_law_1128 : decode cL_law 1128 = .ok (.iload 27, 2) := by decide +kernel
theorem dL_law_1130 : decode cL_law 1130 = .ok (.goto 5, 3) := by decide +kernel
theorem dL_law_1133 : decode cL_law 1133 = .ok (.iload 28, 2) := by decide +kernel
theorem dL_law_1135 : decode cL_law 1135 = .ok (.istore 32, 2) := by decide +kernel
theorem dL_law_1137 : decode cL_law 1137 = .ok (.iload 31, 2) := by decide +kernel
theorem dL_law_1139 : decode cL_law 1139 = .ok (.aload 9, 2) := by decide +kernel
theorem dL_law_1141 : decode cL_law 1141 = .ok (.bipush 7, 2) := by decide +kernel
theorem dL_law_1143 : decode cL_law 1143 = .ok (.iaload, 1) := by decide +kernel
theorem dL_law_1144 : decode cL_law 1144 = .ok (.if_icmp .gt 135, 3) := by decide +kernel
theorem dL_law_1147 : decode cL_law 1147 = .ok (.aload 4, 2) := by decide +kernel
theorem dL_law_1149 : decode cL_law 1149 = .ok (.iload 27, 2) := by decide +kernel
theorem dL_law_1151 : decode cL_law 1151 = .ok (.iaload, 1) := by decide +kernel
theorem dL_law_1152 : decode cL_law 1152 = .ok (.aload 4, 2) := by decide +kernel
theorem dL_law_1154 : decode cL_law 1154 = .ok (.iload 28, 2) := by decide +kernel
theorem dL_law_1156 : decode cL_law 1156 = .ok (.iaload, 1) := by decide +kernel
theorem dL_law_1157 : decode cL_law 1157 = .ok (.iadd, 1) := by decide +kernel
theorem dL_law_1158 : decode cL_law 1158 = .ok (.istore 33, 2) := by decide +kernel
theorem dL_law_1160 : decode cL_law 1160 = .ok (.aload_n 2, 1) := by decide +kernel
theorem dL_law_1161 : decode cL_law 1161 = .ok (.iload 27, 2) := by decide +kernel
theorem dL_law_1163 : decode cL_law 1163 = .ok (.aload 4, 2) := by decide +kernel
theorem dL_law_1165 : decode cL_law 1165 = .ok (.iload 27, 2) := by decide +kernel
theorem dL_law_1167 : decode cL_law 1167 = .ok (.iaload, 1) := by decide +kernel
theorem dL_law_1168 : decode cL_law 1168 = .ok (.aload_n 2, 1) := by decide +kernel
theorem dL_law_1169 : decode cL_law 1169 = .ok (.iload 27, 2) := by decide +kernel
theorem dL_law_1171 : decode cL_law 1171 = .ok (.iaload, 1) := by decide +kernel
theorem dL_law_1172 : decode cL_law 1172 = .ok (.imul, 1) := by decide +kernel
theorem dL_law_1173 : decode cL_law 1173 = .ok (.aload 4, 2) := by decide +kernel
theorem dL_law_1175 : decode cL_law 1175 = .ok (.iload 28, 2) := by decide +kernel
theorem dL_law_1177 : decode cL_law 1177 = .ok (.iaload, 1) := by decide +kernel
theorem dL_law_1178 : decode cL_law 1178 = .ok (.aload_n 2, 1) := by decide +kernel
theorem dL_law_1179 : decode cL_law 1179 = .ok (.iload 28, 2) := by decide +kernel
theorem dL_law_1181 : decode cL_law 1181 = .ok (.iaload, 1) := by decide +kernel
theorem dL_law_1182 : decode cL_law 1182 = .ok (.imul, 1) := by decide +kernel
theorem dL_law_1183 : decode cL_law 1183 = .ok (.iadd, 1) := by decide +kernel
theorem dL_law_1184 : decode cL_law 1184 = .ok (.iload 33, 2) := by decide +kernel
theorem dL_law_1186 : decode cL_law 1186 = .ok (.idiv, 1) := by decide +kernel
theorem dL_law_1187 : decode cL_law 1187 = .ok (.iastore, 1) := by decide +kernel
theorem dL_law_1188 : decode cL_law 1188 = .ok (.aload 6, 2) := by decide +kernel
theorem dL_law_1190 : decode cL_law 1190 = .ok (.iload 27, 2) := by decide +kernel
theorem dL_law_1192 : decode cL_law 1192 = .ok (.aload 4, 2) := by decide +kernel
theorem dL_law_1194 : decode cL_law 1194 = .ok (.iload 27, 2) := by decide +kernel
theorem dL_law_1196 : decode cL_law 1196 = .ok (.iaload, 1) := by decide +kernel
theorem dL_law_1197 : decode cL_law 1197 = .ok (.aload 6, 2) := by decide +kernel
theorem dL_law_1199 : decode cL_law 1199 = .ok (.iload 27, 2) := by decide +kernel
theorem dL_law_1201 : decode cL_law 1201 = .ok (.iaload, 1) := by decide +kernel
theorem dL_law_1202 : decode cL_law 1202 = .ok (.imul, 1) := by decide +kernel
theorem dL_law_1203 : decode cL_law 1203 = .ok (.aload 4, 2) := by decide +kernel
theorem dL_law_1205 : decode cL_law 1205 = .ok (.iload 28, 2) := by decide +kernel
theorem dL_law_1207 : decode cL_law 1207 = .ok (.iaload, 1) := by decide +kernel
theorem dL_law_1208 : decode cL_law 1208 = .ok (.aload 6, 2) := by decide +kernel
theorem dL_law_1210 : decode cL_law 1210 = .ok (.iload 28, 2) := by decide +kernel
theorem dL_law_1212 : decode cL_law 1212 = .ok (.iaload, 1) := by decide +kernel
theorem dL_law_1213 : decode cL_law 1213 = .ok (.imul, 1) := by decide +kernel
theorem dL_law_1214 : decode cL_law 1214 = .ok (.iadd, 1) := by decide +kernel
theorem dL_law_1215 : decode cL_law 1215 = .ok (.iload 33, 2) := by decide +kernel
theorem dL_law_1217 : decode cL_law 1217 = .ok (.idiv, 1) := by decide +kernel
theorem dL_law_1218 : decode cL_law 1218 = .ok (.iastore, 1) := by decide +kernel
theorem dL_law_1219 : decode cL_law 1219 = .ok (.aload 4, 2) := by decide +kernel
theorem dL_law_1221 : decode cL_law 1221 = .ok (.iload 27, 2) := by decide +kernel
theorem dL_law_1223 : decode cL_law 1223 = .ok (.iload 33, 2) := by decide +kernel
theorem dL_law_1225 : decode cL_law 1225 = .ok (.iastore, 1) := by decide +kernel
theorem dL_law_1226 : decode cL_law 1226 = .ok (.aload 5, 2) := by decide +kernel
theorem dL_law_1228 : decode cL_law 1228 = .ok (.iload 28, 2) := by decide +kernel
theorem dL_law_1230 : decode cL_law 1230 = .ok (.iaload, 1) := by decide +kernel
theorem dL_law_1231 : decode cL_law 1231 = .ok (.aload 5, 2) := by decide +kernel
theorem dL_law_1233 : decode cL_law 1233 = .ok (.iload 27, 2) := by decide +kernel
theorem dL_law_1235 : decode cL_law 1235 = .ok (.iaload, 1) := by decide +kernel
theorem dL_law_1236 : decode cL_law 1236 = .ok (.if_icmp .ge 13, 3) := by decide +kernel
theorem dL_law_1239 : decode cL_law 1239 = .ok (.aload 5, 2) := by decide +kernel
theorem dL_law_1241 : decode cL_law 1241 = .ok (.iload 27, 2) := by decide +kernel
theorem dL_law_1243 : decode cL_law 1243 = .ok (.aload 5, 2) := by decide +kernel
theorem dL_law_1245 : decode cL_law 1245 = .ok (.iload 28, 2) := by decide +kernel
theorem dL_law_1247 : decode cL_law 1247 = .ok (.iaload, 1) := by decide +kernel
theorem dL_law_1248 : decode cL_law 1248 = .ok (.iastore, 1) := by decide +kernel
theorem dL_law_1249 : decode cL_law 1249 = .ok (.aload 7, 2) := by decide +kernel
theorem dL_law_1251 : decode cL_law 1251 = .ok (.iload 28, 2) := by decide +kernel
theorem dL_law_1253 : decode cL_law 1253 = .ok (.iconst 0, 1) := by decide +kernel
theorem dL_law_1254 : decode cL_law 1254 = .ok (.iastore, 1) := by decide +kernel
theorem dL_law_1255 : decode cL_law 1255 = .ok (.aload 9, 2) := by decide +kernel
theorem dL_law_1257 : decode cL_law 1257 = .ok (.iconst 1, 1) := by decide +kernel
theorem dL_law_1258 : decode cL_law 1258 = .ok (.dup2, 1) := by decide +kernel
theorem dL_law_1259 : decode cL_law 1259 = .ok (.iaload, 1) := by decide +kernel
theorem dL_law_1260 : decode cL_law 1260 = .ok (.iconst 1, 1) := by decide +kernel
theorem dL_law_1261 : decode cL_law 1261 = .ok (.iadd, 1) := by decide +kernel
theorem dL_law_1262 : decode cL_law 1262 = .ok (.iastore, 1) := by decide +kernel
theorem dL_law_1263 : decode cL_law 1263 = .ok (.lload 13, 2) := by decide +kernel
theorem dL_law_1265 : decode cL_law 1265 = .ok (.aload_n 2, 1) := by decide +kernel
theorem dL_law_1266 : decode cL_law 1266 = .ok (.aload 4, 2) := by decide +kernel
theorem dL_law_1268 : decode cL_law 1268 = .ok (.iload 27, 2) := by decide +kernel
theorem dL_law_1270 : decode cL_law 1270 = .ok (.invokestatic 32, 3) := by decide +kernel
theorem dL_law_1273 : decode cL_law 1273 = .ok (.lsub, 1) := by decide +kernel
theorem dL_law_1274 : decode cL_law 1274 = .ok (.lstore 13, 2) := by decide +kernel
theorem dL_law_1276 : decode cL_law 1276 = .ok (.goto 299, 3) := by decide +kernel
theorem dL_law_1279 : decode cL_law 1279 = .ok (.iload 31, 2) := by decide +kernel
theorem dL_law_1281 : decode cL_law 1281 = .ok (.aload 9, 2) := by decide +kernel
theorem dL_law_1283 : decode cL_law 1283 = .ok (.bipush 8, 2) := by decide +kernel
theorem dL_law_1285 : decode cL_law 1285 = .ok (.iaload, 1) := by decide +kernel
theorem dL_law_1286 : decode cL_law 1286 = .ok (.if_icmp .le 163, 3) := by decide +kernel
theorem dL_law_1289 : decode cL_law 1289 = .ok (.aload 4, 2) := by decide +kernel
theorem dL_law_1291 : decode cL_law 1291 = .ok (.iload 32, 2) := by decide +kernel
theorem dL_law_1293 : decode cL_law 1293 = .ok (.iaload, 1) := by decide +kernel
theorem dL_law_1294 : decode cL_law 1294 = .ok (.iconst 1, 1) := by decide +kernel
theorem dL_law_1295 : decode cL_law 1295 = .ok (.if_icmp .le 154, 3) := by decide +kernel
theorem dL_law_1298 : decode cL_law 1298 = .ok (.aload_n 2, 1) := by decide +kernel
theorem dL_law_1299 : decode cL_law 1299 = .ok (.iload 17, 2) := by decide +kernel
theorem dL_law_1301 : decode cL_law 1301 = .ok (.aload_n 2, 1) := by decide +kernel
theorem dL_law_1302 : decode cL_law 1302 = .ok (.iload 32, 2) := by decide +kernel
