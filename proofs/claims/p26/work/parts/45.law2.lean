theorem dL_law_530 : decode cL_law 530 = .ok (.iload 6, 2) := by decide +kernel
theorem dL_law_532 : decode cL_law 532 = .ok (.ifCond .le 103, 3) := by decide +kernel
theorem dL_law_535 : decode cL_law 535 = .ok (.aload_n 2, 1) := by decide +kernel
theorem dL_law_536 : decode cL_law 536 = .ok (.iload 16, 2) := by decide +kernel
theorem dL_law_538 : decode cL_law 538 = .ok (.iaload, 1) := by decide +kernel
theorem dL_law_539 : decode cL_law 539 = .ok (.iconst 1, 1) := by decide +kernel
theorem dL_law_540 : decode cL_law 540 = .ok (.if_icmp .ne 95, 3) := by decide +kernel
theorem dL_law_543 : decode cL_law 543 = .ok (.iload 13, 2) := by decide +kernel
theorem dL_law_545 : decode cL_law 545 = .ok (.bipush 6, 2) := by decide +kernel
theorem dL_law_547 : decode cL_law 547 = .ok (.ishr, 1) := by decide +kernel
theorem dL_law_548 : decode cL_law 548 = .ok (.iconst 3, 1) := by decide +kernel
theorem dL_law_549 : decode cL_law 549 = .ok (.invokestatic 31, 3) := by decide +kernel
theorem dL_law_552 : decode cL_law 552 = .ok (.ifCond .ne 83, 3) := by decide +kernel
theorem dL_law_555 : decode cL_law 555 = .ok (.iconst 0, 1) := by decide +kernel
theorem dL_law_556 : decode cL_law 556 = .ok (.istore 19, 2) := by decide +kernel
theorem dL_law_558 : decode cL_law 558 = .ok (.iconst 0, 1) := by decide +kernel
theorem dL_law_559 : decode cL_law 559 = .ok (.istore 20, 2) := by decide +kernel
theorem dL_law_561 : decode cL_law 561 = .ok (.iload 20, 2) := by decide +kernel
theorem dL_law_563 : decode cL_law 563 = .ok (.iconst 3, 1) := by decide +kernel
theorem dL_law_564 : decode cL_law 564 = .ok (.if_icmp .ge 45, 3) := by decide +kernel
theorem dL_law_567 : decode cL_law 567 = .ok (.iload 19, 2) := by decide +kernel
theorem dL_law_569 : decode cL_law 569 = .ok (.aload 4, 2) := by decide +kernel
theorem dL_law_571 : decode cL_law 571 = .ok (.bipush 8, 2) := by decide +kernel
theorem dL_law_573 : decode cL_law 573 = .ok (.iload 20, 2) := by decide +kernel
theorem dL_law_575 : decode cL_law 575 = .ok (.imul, 1) := by decide +kernel
theorem dL_law_576 : decode cL_law 576 = .ok (.iload 16, 2) := by decide +kernel
theorem dL_law_578 : decode cL_law 578 = .ok (.iadd, 1) := by decide +kernel
theorem dL_law_579 : decode cL_law 579 = .ok (.iaload, 1) := by decide +kernel
theorem dL_law_580 : decode cL_law 580 = .ok (.ifCond .le 7, 3) := by decide +kernel
theorem dL_law_583 : decode cL_law 583 = .ok (.iconst 1, 1) := by decide +kernel
theorem dL_law_584 : decode cL_law 584 = .ok (.goto 4, 3) := by decide +kernel
theorem dL_law_587 : decode cL_law 587 = .ok (.iconst 0, 1) := by decide +kernel
theorem dL_law_588 : decode cL_law 588 = .ok (.iadd, 1) := by decide +kernel
theorem dL_law_589 : decode cL_law 589 = .ok (.istore 19, 2) := by decide +kernel
theorem dL_law_591 : decode cL_law 591 = .ok (.aload 4, 2) := by decide +kernel
theorem dL_law_593 : decode cL_law 593 = .ok (.bipush 8, 2) := by decide +kernel
theorem dL_law_595 : decode cL_law 595 = .ok (.iload 20, 2) := by decide +kernel
theorem dL_law_597 : decode cL_law 597 = .ok (.imul, 1) := by decide +kernel
theorem dL_law_598 : decode cL_law 598 = .ok (.iload 16, 2) := by decide +kernel
theorem dL_law_600 : decode cL_law 600 = .ok (.iadd, 1) := by decide +kernel
theorem dL_law_601 : decode cL_law 601 = .ok (.iconst 0, 1) := by decide +kernel
theorem dL_law_602 : decode cL_law 602 = .ok (.iastore, 1) := by decide +kernel
theorem dL_law_603 : decode cL_law 603 = .ok (.iinc 20 1, 3) := by decide +kernel
theorem dL_law_606 : decode cL_law 606 = .ok (.goto (-45), 3) := by decide +kernel
theorem dL_law_609 : decode cL_law 609 = .ok (.aload_n 2, 1) := by decide +kernel
theorem dL_law_610 : decode cL_law 610 = .ok (.iload 16, 2) := by decide +kernel
theorem dL_law_612 : decode cL_law 612 = .ok (.iconst 0, 1) := by decide +kernel
theorem dL_law_613 : decode cL_law 613 = .ok (.iastore, 1) := by decide +kernel
theorem dL_law_614 : decode cL_law 614 = .ok (.aload_n 1, 1) := by decide +kernel
theorem dL_law_615 : decode cL_law 615 = .ok (.iload 16, 2) := by decide +kernel
theorem dL_law_617 : decode cL_law 617 = .ok (.invokevirtual 57, 3) := by decide +kernel
theorem dL_law_620 : decode cL_law 620 = .ok (.iload 19, 2) := by decide +kernel
theorem dL_law_622 : decode cL_law 622 = .ok (.if_icmp .ne 7, 3) := by decide +kernel
theorem dL_law_625 : decode cL_law 625 = .ok (.iconst 1, 1) := by decide +kernel
theorem dL_law_626 : decode cL_law 626 = .ok (.goto 4, 3) := by decide +kernel
theorem dL_law_629 : decode cL_law 629 = .ok (.iconst 0, 1) := by decide +kernel
theorem dL_law_630 : decode cL_law 630 = .ok (.istore 15, 2) := by decide +kernel
theorem dL_law_632 : decode cL_law 632 = .ok (.goto 248, 3) := by decide +kernel
theorem dL_law_635 : decode cL_law 635 = .ok (.iload 14, 2) := by decide +kernel
theorem dL_law_637 : decode cL_law 637 = .ok (.bipush 11, 2) := by decide +kernel
theorem dL_law_639 : decode cL_law 639 = .ok (.if_icmp .ne 42, 3) := by decide +kernel
theorem dL_law_642 : decode cL_law 642 = .ok (.iconst 1, 1) := by decide +kernel
theorem dL_law_643 : decode cL_law 643 = .ok (.iload 13, 2) := by decide +kernel
theorem dL_law_645 : decode cL_law 645 = .ok (.bipush 9, 2) := by decide +kernel
theorem dL_law_647 : decode cL_law 647 = .ok (.invokestatic 31, 3) := by decide +kernel
theorem dL_law_650 : decode cL_law 650 = .ok (.iadd, 1) := by decide +kernel
theorem dL_law_651 : decode cL_law 651 = .ok (.istore 19, 2) := by decide +kernel
theorem dL_law_653 : decode cL_law 653 = .ok (.iload 10, 2) := by decide +kernel
theorem dL_law_655 : decode cL_law 655 = .ok (.iload 19, 2) := by decide +kernel
theorem dL_law_657 : decode cL_law 657 = .ok (.iadd, 1) := by decide +kernel
theorem dL_law_658 : decode cL_law 658 = .ok (.istore 10, 2) := by decide +kernel
theorem dL_law_660 : decode cL_law 660 = .ok (.aload_n 1, 1) := by decide +kernel
theorem dL_law_661 : decode cL_law 661 = .ok (.iload 19, 2) := by decide +kernel
theorem dL_law_663 : decode cL_law 663 = .ok (.invokevirtual 60, 3) := by decide +kernel
theorem dL_law_666 : decode cL_law 666 = .ok (.iload 10, 2) := by decide +kernel
theorem dL_law_668 : decode cL_law 668 = .ok (.if_icmp .ne 7, 3) := by decide +kernel
theorem dL_law_671 : decode cL_law 671 = .ok (.iconst 1, 1) := by decide +kernel
theorem dL_law_672 : decode cL_law 672 = .ok (.goto 4, 3) := by decide +kernel
theorem dL_law_675 : decode cL_law 675 = .ok (.iconst 0, 1) := by decide +kernel
theorem dL_law_676 : decode cL_law 676 = .ok (.istore 15, 2) := by decide +kernel
theorem dL_law_678 : decode cL_law 678 = .ok (.goto 202, 3) := by decide +kernel
theorem dL_law_681 : decode cL_law 681 = .ok (.iload 6, 2) := by decide +kernel
theorem dL_law_683 : decode cL_law 683 = .ok (.ifCond .le 197, 3) := by decide +kernel
theorem dL_law_686 : decode cL_law 686 = .ok (.aload_n 2, 1) := by decide +kernel
theorem dL_law_687 : decode cL_law 687 = .ok (.iload 16, 2) := by decide +kernel
theorem dL_law_689 : decode cL_law 689 = .ok (.iaload, 1) := by decide +kernel
theorem dL_law_690 : decode cL_law 690 = .ok (.iconst 1, 1) := by decide +kernel
theorem dL_law_691 : decode cL_law 691 = .ok (.if_icmp .ne 189, 3) := by decide +kernel
theorem dL_law_694 : decode cL_law 694 = .ok (.aload 4, 2) := by decide +kernel
theorem dL_law_696 : decode cL_law 696 = .ok (.iload 18, 2) := by decide +kernel
theorem dL_law_698 : decode cL_law 698 = .ok (.iaload, 1) := by decide +kernel
theorem dL_law_699 : decode cL_law 699 = .ok (.ifCond .ne 40, 3) := by decide +kernel
theorem dL_law_702 : decode cL_law 702 = .ok (.aload 4, 2) := by decide +kernel
theorem dL_law_704 : decode cL_law 704 = .ok (.iload 18, 2) := by decide +kernel
theorem dL_law_706 : decode cL_law 706 = .ok (.iconst 1, 1) := by decide +kernel
theorem dL_law_707 : decode cL_law 707 = .ok (.iastore, 1) := by decide +kernel
theorem dL_law_708 : decode cL_law 708 = .ok (.aload 5, 2) := by decide +kernel
theorem dL_law_710 : decode cL_law 710 = .ok (.iload 18, 2) := by decide +kernel
theorem dL_law_712 : decode cL_law 712 = .ok (.iload 10, 2) := by decide +kernel
theorem dL_law_714 : decode cL_law 714 = .ok (.iconst 1, 1) := by decide +kernel
theorem dL_law_715 : decode cL_law 715 = .ok (.iadd, 1) := by decide +kernel
theorem dL_law_716 : decode cL_law 716 = .ok (.iastore, 1) := by decide +kernel
theorem dL_law_717 : decode cL_law 717 = .ok (.aload_n 1, 1) := by decide +kernel
theorem dL_law_718 : decode cL_law 718 = .ok (.iload 17, 2) := by decide +kernel
theorem dL_law_720 : decode cL_law 720 = .ok (.iload 16, 2) := by decide +kernel
theorem dL_law_722 : decode cL_law 722 = .ok (.invokevirtual 63, 3) := by decide +kernel
theorem dL_law_725 : decode cL_law 725 = .ok (.iconst 1, 1) := by decide +kernel
theorem dL_law_726 : decode cL_law 726 = .ok (.if_icmp .lt 7, 3) := by decide +kernel
theorem dL_law_729 : decode cL_law 729 = .ok (.iconst 1, 1) := by decide +kernel
theorem dL_law_730 : decode cL_law 730 = .ok (.goto 4, 3) := by decide +kernel
theorem dL_law_733 : decode cL_law 733 = .ok (.iconst 0, 1) := by decide +kernel
theorem dL_law_734 : decode cL_law 734 = .ok (.istore 15, 2) := by decide +kernel
theorem dL_law_736 : decode cL_law 736 = .ok (.goto 106, 3) := by decide +kernel
theorem dL_law_739 : decode cL_law 739 = .ok (.aload 5, 2) := by decide +kernel
theorem dL_law_741 : decode cL_law 741 = .ok (.iload 18, 2) := by decide +kernel
theorem dL_law_743 : decode cL_law 743 = .ok (.iaload, 1) := by decide +kernel
theorem dL_law_744 : decode cL_law 744 = .ok (.iload 10, 2) := by decide +kernel
theorem dL_law_746 : decode cL_law 746 = .ok (.if_icmp .gt 96, 3) := by decide +kernel
theorem dL_law_749 : decode cL_law 749 = .ok (.iload 13, 2) := by decide +kernel
theorem dL_law_751 : decode cL_law 751 = .ok (.bipush 6, 2) := by decide +kernel
theorem dL_law_753 : decode cL_law 753 = .ok (.ishr, 1) := by decide +kernel
theorem dL_law_754 : decode cL_law 754 = .ok (.iconst 4, 1) := by decide +kernel
theorem dL_law_755 : decode cL_law 755 = .ok (.invokestatic 31, 3) := by decide +kernel
theorem dL_law_758 : decode cL_law 758 = .ok (.ifCond .le 7, 3) := by decide +kernel
theorem dL_law_761 : decode cL_law 761 = .ok (.iconst 1, 1) := by decide +kernel
theorem dL_law_762 : decode cL_law 762 = .ok (.goto 4, 3) := by decide +kernel
theorem dL_law_765 : decode cL_law 765 = .ok (.iconst 0, 1) := by decide +kernel
theorem dL_law_766 : decode cL_law 766 = .ok (.istore 19, 2) := by decide +kernel
theorem dL_law_768 : decode cL_law 768 = .ok (.aload 4, 2) := by decide +kernel
theorem dL_law_770 : decode cL_law 770 = .ok (.iload 18, 2) := by decide +kernel
theorem dL_law_772 : decode cL_law 772 = .ok (.iload 19, 2) := by decide +kernel
theorem dL_law_774 : decode cL_law 774 = .ok (.ifCond .ne 7, 3) := by decide +kernel
theorem dL_law_777 : decode cL_law 777 = .ok (.iconst 1, 1) := by decide +kernel
theorem dL_law_778 : decode cL_law 778 = .ok (.goto 25, 3) := by decide +kernel
theorem dL_law_781 : decode cL_law 781 = .ok (.aload 4, 2) := by decide +kernel
theorem dL_law_783 : decode cL_law 783 = .ok (.iload 18, 2) := by decide +kernel
theorem dL_law_785 : decode cL_law 785 = .ok (.iaload, 1) := by decide +kernel
theorem dL_law_786 : decode cL_law 786 = .ok (.bipush 64, 2) := by decide +kernel
theorem dL_law_788 : decode cL_law 788 = .ok (.if_icmp .ge 13, 3) := by decide +kernel
theorem dL_law_791 : decode cL_law 791 = .ok (.iconst 2, 1) := by decide +kernel
theorem dL_law_792 : decode cL_law 792 = .ok (.aload 4, 2) := by decide +kernel
theorem dL_law_794 : decode cL_law 794 = .ok (.iload 18, 2) := by decide +kernel
theorem dL_law_796 : decode cL_law 796 = .ok (.iaload, 1) := by decide +kernel
theorem dL_law_797 : decode cL_law 797 = .ok (.imul, 1) := by decide +kernel
theorem dL_law_798 : decode cL_law 798 = .ok (.goto 5, 3) := by decide +kernel
theorem dL_law_801 : decode cL_law 801 = .ok (.bipush 64, 2) := by decide +kernel
theorem dL_law_803 : decode cL_law 803 = .ok (.iastore, 1) := by decide +kernel
theorem dL_law_804 : decode cL_law 804 = .ok (.aload 5, 2) := by decide +kernel
theorem dL_law_806 : decode cL_law 806 = .ok (.iload 18, 2) := by decide +kernel
theorem dL_law_808 : decode cL_law 808 = .ok (.iload 10, 2) := by decide +kernel
theorem dL_law_810 : decode cL_law 810 = .ok (.aload 4, 2) := by decide +kernel
theorem dL_law_812 : decode cL_law 812 = .ok (.iload 18, 2) := by decide +kernel
theorem dL_law_814 : decode cL_law 814 = .ok (.iaload, 1) := by decide +kernel
theorem dL_law_815 : decode cL_law 815 = .ok (.iadd, 1) := by decide +kernel
theorem dL_law_816 : decode cL_law 816 = .ok (.iastore, 1) := by decide +kernel
theorem dL_law_817 : decode cL_law 817 = .ok (.aload_n 1, 1) := by decide +kernel
theorem dL_law_818 : decode cL_law 818 = .ok (.iload 17, 2) := by decide +kernel
theorem dL_law_820 : decode cL_law 820 = .ok (.iload 16, 2) := by decide +kernel
theorem dL_law_822 : decode cL_law 822 = .ok (.iload 19, 2) := by decide +kernel
theorem dL_law_824 : decode cL_law 824 = .ok (.invokevirtual 66, 3) := by decide +kernel
theorem dL_law_827 : decode cL_law 827 = .ok (.aload 4, 2) := by decide +kernel
theorem dL_law_829 : decode cL_law 829 = .ok (.iload 18, 2) := by decide +kernel
theorem dL_law_831 : decode cL_law 831 = .ok (.iaload, 1) := by decide +kernel
theorem dL_law_832 : decode cL_law 832 = .ok (.if_icmp .ne 7, 3) := by decide +kernel
theorem dL_law_835 : decode cL_law 835 = .ok (.iconst 1, 1) := by decide +kernel
theorem dL_law_836 : decode cL_law 836 = .ok (.goto 4, 3) := by decide +kernel
theorem dL_law_839 : decode cL_law 839 = .ok (.iconst 0, 1) := by decide +kernel
theorem dL_law_840 : decode cL_law 840 = .ok (.istore 15, 2) := by decide +kernel
theorem dL_law_842 : decode cL_law 842 = .ok (.iload 15, 2) := by decide +kernel
theorem dL_law_844 : decode cL_law 844 = .ok (.ifCond .eq 33, 3) := by decide +kernel
theorem dL_law_847 : decode cL_law 847 = .ok (.aload_n 1, 1) := by decide +kernel
theorem dL_law_848 : decode cL_law 848 = .ok (.iload 17, 2) := by decide +kernel
theorem dL_law_850 : decode cL_law 850 = .ok (.iload 16, 2) := by decide +kernel
theorem dL_law_852 : decode cL_law 852 = .ok (.invokevirtual 70, 3) := by decide +kernel
theorem dL_law_855 : decode cL_law 855 = .ok (.aload 4, 2) := by decide +kernel
theorem dL_law_857 : decode cL_law 857 = .ok (.iload 18, 2) := by decide +kernel
theorem dL_law_859 : decode cL_law 859 = .ok (.iaload, 1) := by decide +kernel
theorem dL_law_860 : decode cL_law 860 = .ok (.bipush 7, 2) := by decide +kernel
theorem dL_law_862 : decode cL_law 862 = .ok (.if_icmp .le 7, 3) := by decide +kernel
theorem dL_law_865 : decode cL_law 865 = .ok (.iconst 1, 1) := by decide +kernel
theorem dL_law_866 : decode cL_law 866 = .ok (.goto 4, 3) := by decide +kernel
theorem dL_law_869 : decode cL_law 869 = .ok (.iconst 0, 1) := by decide +kernel
theorem dL_law_870 : decode cL_law 870 = .ok (.if_icmp .ne 7, 3) := by decide +kernel
theorem dL_law_873 : decode cL_law 873 = .ok (.iconst 1, 1) := by decide +kernel
theorem dL_law_874 : decode cL_law 874 = .ok (.goto 4, 3) := by decide +kernel
theorem dL_law_877 : decode cL_law 877 = .ok (.iconst 0, 1) := by decide +kernel
theorem dL_law_878 : decode cL_law 878 = .ok (.istore 15, 2) := by decide +kernel
theorem dL_law_880 : decode cL_law 880 = .ok (.iconst 0, 1) := by decide +kernel
theorem dL_law_881 : decode cL_law 881 = .ok (.istore 19, 2) := by decide +kernel
theorem dL_law_883 : decode cL_law 883 = .ok (.iconst (-1), 1) := by decide +kernel
theorem dL_law_884 : decode cL_law 884 = .ok (.istore 20, 2) := by decide +kernel
theorem dL_law_886 : decode cL_law 886 = .ok (.iconst 0, 1) := by decide +kernel
theorem dL_law_887 : decode cL_law 887 = .ok (.istore 21, 2) := by decide +kernel
theorem dL_law_889 : decode cL_law 889 = .ok (.iload 21, 2) := by decide +kernel
theorem dL_law_891 : decode cL_law 891 = .ok (.iload 6, 2) := by decide +kernel
theorem dL_law_893 : decode cL_law 893 = .ok (.if_icmp .ge 105, 3) := by decide +kernel
theorem dL_law_896 : decode cL_law 896 = .ok (.aload 4, 2) := by decide +kernel
theorem dL_law_898 : decode cL_law 898 = .ok (.bipush 8, 2) := by decide +kernel
theorem dL_law_900 : decode cL_law 900 = .ok (.iload 17, 2) := by decide +kernel
theorem dL_law_902 : decode cL_law 902 = .ok (.imul, 1) := by decide +kernel
theorem dL_law_903 : decode cL_law 903 = .ok (.iload 21, 2) := by decide +kernel
theorem dL_law_905 : decode cL_law 905 = .ok (.iadd, 1) := by decide +kernel
theorem dL_law_906 : decode cL_law 906 = .ok (.iaload, 1) := by decide +kernel
theorem dL_law_907 : decode cL_law 907 = .ok (.ifCond .le 7, 3) := by decide +kernel
theorem dL_law_910 : decode cL_law 910 = .ok (.iconst 1, 1) := by decide +kernel
theorem dL_law_911 : decode cL_law 911 = .ok (.goto 4, 3) := by decide +kernel
theorem dL_law_914 : decode cL_law 914 = .ok (.iconst 0, 1) := by decide +kernel
theorem dL_law_915 : decode cL_law 915 = .ok (.istore 22, 2) := by decide +kernel
theorem dL_law_917 : decode cL_law 917 = .ok (.iload 19, 2) := by decide +kernel
theorem dL_law_919 : decode cL_law 919 = .ok (.iload 22, 2) := by decide +kernel
theorem dL_law_921 : decode cL_law 921 = .ok (.ifCond .eq 23, 3) := by decide +kernel
theorem dL_law_924 : decode cL_law 924 = .ok (.aload 5, 2) := by decide +kernel
theorem dL_law_926 : decode cL_law 926 = .ok (.bipush 8, 2) := by decide +kernel
theorem dL_law_928 : decode cL_law 928 = .ok (.iload 17, 2) := by decide +kernel
theorem dL_law_930 : decode cL_law 930 = .ok (.imul, 1) := by decide +kernel
theorem dL_law_931 : decode cL_law 931 = .ok (.iload 21, 2) := by decide +kernel
theorem dL_law_933 : decode cL_law 933 = .ok (.iadd, 1) := by decide +kernel
theorem dL_law_934 : decode cL_law 934 = .ok (.iaload, 1) := by decide +kernel
theorem dL_law_935 : decode cL_law 935 = .ok (.iload 10, 2) := by decide +kernel
theorem dL_law_937 : decode cL_law 937 = .ok (.if_icmp .gt 7, 3) := by decide +kernel
theorem dL_law_940 : decode cL_law 940 = .ok (.iconst 1, 1) := by decide +kernel
theorem dL_law_941 : decode cL_law 941 = .ok (.goto 4, 3) := by decide +kernel
theorem dL_law_944 : decode cL_law 944 = .ok (.iconst 0, 1) := by decide +kernel
theorem dL_law_945 : decode cL_law 945 = .ok (.iadd, 1) := by decide +kernel
theorem dL_law_946 : decode cL_law 946 = .ok (.istore 19, 2) := by decide +kernel
theorem dL_law_948 : decode cL_law 948 = .ok (.iload 22, 2) := by decide +kernel
theorem dL_law_950 : decode cL_law 950 = .ok (.ifCond .eq 38, 3) := by decide +kernel
theorem dL_law_953 : decode cL_law 953 = .ok (.iload 20, 2) := by decide +kernel
theorem dL_law_955 : decode cL_law 955 = .ok (.ifCond .lt 28, 3) := by decide +kernel
theorem dL_law_958 : decode cL_law 958 = .ok (.aload 5, 2) := by decide +kernel
theorem dL_law_960 : decode cL_law 960 = .ok (.bipush 8, 2) := by decide +kernel
theorem dL_law_962 : decode cL_law 962 = .ok (.iload 17, 2) := by decide +kernel
theorem dL_law_964 : decode cL_law 964 = .ok (.imul, 1) := by decide +kernel
theorem dL_law_965 : decode cL_law 965 = .ok (.iload 21, 2) := by decide +kernel
theorem dL_law_967 : decode cL_law 967 = .ok (.iadd, 1) := by decide +kernel
theorem dL_law_968 : decode cL_law 968 = .ok (.iaload, 1) := by decide +kernel
theorem dL_law_969 : decode cL_law 969 = .ok (.aload 5, 2) := by decide +kernel
theorem dL_law_971 : decode cL_law 971 = .ok (.bipush 8, 2) := by decide +kernel
theorem dL_law_973 : decode cL_law 973 = .ok (.iload 17, 2) := by decide +kernel
theorem dL_law_975 : decode cL_law 975 = .ok (.imul, 1) := by decide +kernel
theorem dL_law_976 : decode cL_law 976 = .ok (.iload 20, 2) := by decide +kernel
theorem dL_law_978 : decode cL_law 978 = .ok (.iadd, 1) := by decide +kernel
theorem dL_law_979 : decode cL_law 979 = .ok (.iaload, 1) := by decide +kernel
theorem dL_law_980 : decode cL_law 980 = .ok (.if_icmp .ge 8, 3) := by decide +kernel
theorem dL_law_983 : decode cL_law 983 = .ok (.iload 21, 2) := by decide +kernel
theorem dL_law_985 : decode cL_law 985 = .ok (.goto 5, 3) := by decide +kernel
theorem dL_law_988 : decode cL_law 988 = .ok (.iload 20, 2) := by decide +kernel
theorem dL_law_990 : decode cL_law 990 = .ok (.istore 20, 2) := by decide +kernel
theorem dL_law_992 : decode cL_law 992 = .ok (.iinc 21 1, 3) := by decide +kernel
theorem dL_law_995 : decode cL_law 995 = .ok (.goto (-106), 3) := by decide +kernel
theorem dL_law_998 : decode cL_law 998 = .ok (.iload 15, 2) := by decide +kernel
theorem dL_law_1000 : decode cL_law 1000 = .ok (.ifCond .eq 40, 3) := by decide +kernel
theorem dL_law_1003 : decode cL_law 1003 = .ok (.aload_n 1, 1) := by decide +kernel
theorem dL_law_1004 : decode cL_law 1004 = .ok (.iload 17, 2) := by decide +kernel
theorem dL_law_1006 : decode cL_law 1006 = .ok (.invokevirtual 74, 3) := by decide +kernel
theorem dL_law_1009 : decode cL_law 1009 = .ok (.iload 19, 2) := by decide +kernel
theorem dL_law_1011 : decode cL_law 1011 = .ok (.if_icmp .ne 29, 3) := by decide +kernel
theorem dL_law_1014 : decode cL_law 1014 = .ok (.aload_n 1, 1) := by decide +kernel
theorem dL_law_1015 : decode cL_law 1015 = .ok (.iload 17, 2) := by decide +kernel
theorem dL_law_1017 : decode cL_law 1017 = .ok (.invokevirtual 77, 3) := by decide +kernel
theorem dL_law_1020 : decode cL_law 1020 = .ok (.iload 20, 2) := by decide +kernel
theorem dL_law_1022 : decode cL_law 1022 = .ok (.if_icmp .ne 18, 3) := by decide +kernel
theorem dL_law_1025 : decode cL_law 1025 = .ok (.aload_n 1, 1) := by decide +kernel
theorem dL_law_1026 : decode cL_law 1026 = .ok (.aload_n 2, 1) := by decide +kernel
theorem dL_law_1027 : decode cL_law 1027 = .ok (.aload_n 3, 1) := by decide +kernel
theorem dL_law_1028 : decode cL_law 1028 = .ok (.iload 6, 2) := by decide +kernel
theorem dL_law_1030 : decode cL_law 1030 = .ok (.iload 8, 2) := by decide +kernel
theorem dL_law_1032 : decode cL_law 1032 = .ok (.iload 9, 2) := by decide +kernel
theorem dL_law_1034 : decode cL_law 1034 = .ok (.invokestatic 80, 3) := by decide +kernel
theorem dL_law_1037 : decode cL_law 1037 = .ok (.ifCond .ne 5, 3) := by decide +kernel
theorem dL_law_1040 : decode cL_law 1040 = .ok (.iconst 0, 1) := by decide +kernel
theorem dL_law_1041 : decode cL_law 1041 = .ok (.ireturn, 1) := by decide +kernel
theorem dL_law_1042 : decode cL_law 1042 = .ok (.iinc 11 1, 3) := by decide +kernel
theorem dL_law_1045 : decode cL_law 1045 = .ok (.goto (-996), 3) := by decide +kernel
theorem dL_law_1048 : decode cL_law 1048 = .ok (.iconst 1, 1) := by decide +kernel
theorem dL_law_1049 : decode cL_law 1049 = .ok (.ireturn, 1) := by decide +kernel
