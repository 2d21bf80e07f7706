theorem dL_law_571 : decode cL_law 571 = .ok (.iconst 0, 1) := by decide +kernel
theorem dL_law_572 : decode cL_law 572 = .ok (.iadd, 1) := by decide +kernel
theorem dL_law_573 : decode cL_law 573 = .ok (.istore 23, 2) := by decide +kernel
theorem dL_law_575 : decode cL_law 575 = .ok (.bipush (-13), 2) := by decide +kernel
theorem dL_law_577 : decode cL_law 577 = .ok (.istore 24, 2) := by decide +kernel
theorem dL_law_579 : decode cL_law 579 = .ok (.aload 6, 2) := by decide +kernel
theorem dL_law_581 : decode cL_law 581 = .ok (.iconst 0, 1) := by decide +kernel
theorem dL_law_582 : decode cL_law 582 = .ok (.iaload, 1) := by decide +kernel
theorem dL_law_583 : decode cL_law 583 = .ok (.iconst 5, 1) := by decide +kernel
theorem dL_law_584 : decode cL_law 584 = .ok (.if_icmp .ge 35, 3) := by decide +kernel
theorem dL_law_587 : decode cL_law 587 = .ok (.aload 5, 2) := by decide +kernel
theorem dL_law_589 : decode cL_law 589 = .ok (.aload 6, 2) := by decide +kernel
theorem dL_law_591 : decode cL_law 591 = .ok (.iconst 0, 1) := by decide +kernel
theorem dL_law_592 : decode cL_law 592 = .ok (.iaload, 1) := by decide +kernel
theorem dL_law_593 : decode cL_law 593 = .ok (.iload 23, 2) := by decide +kernel
theorem dL_law_595 : decode cL_law 595 = .ok (.iastore, 1) := by decide +kernel
theorem dL_law_596 : decode cL_law 596 = .ok (.aload 6, 2) := by decide +kernel
theorem dL_law_598 : decode cL_law 598 = .ok (.iconst 0, 1) := by decide +kernel
theorem dL_law_599 : decode cL_law 599 = .ok (.dup2, 1) := by decide +kernel
theorem dL_law_600 : decode cL_law 600 = .ok (.iaload, 1) := by decide +kernel
theorem dL_law_601 : decode cL_law 601 = .ok (.iconst 1, 1) := by decide +kernel
theorem dL_law_602 : decode cL_law 602 = .ok (.iadd, 1) := by decide +kernel
theorem dL_law_603 : decode cL_law 603 = .ok (.iastore, 1) := by decide +kernel
theorem dL_law_604 : decode cL_law 604 = .ok (.aload_n 3, 1) := by decide +kernel
theorem dL_law_605 : decode cL_law 605 = .ok (.aload 5, 2) := by decide +kernel
theorem dL_law_607 : decode cL_law 607 = .ok (.aload 6, 2) := by decide +kernel
theorem dL_law_609 : decode cL_law 609 = .ok (.iconst 0, 1) := by decide +kernel
theorem dL_law_610 : decode cL_law 610 = .ok (.iconst (-1), 1) := by decide +kernel
theorem dL_law_611 : decode cL_law 611 = .ok (.invokestatic 83, 3) := by decide +kernel
theorem dL_law_614 : decode cL_law 614 = .ok (.invokestatic 90, 3) := by decide +kernel
theorem dL_law_617 : decode cL_law 617 = .ok (.istore 24, 2) := by decide +kernel
theorem dL_law_619 : decode cL_law 619 = .ok (.aload_n 1, 1) := by decide +kernel
theorem dL_law_620 : decode cL_law 620 = .ok (.iconst 0, 1) := by decide +kernel
theorem dL_law_621 : decode cL_law 621 = .ok (.iload 23, 2) := by decide +kernel
theorem dL_law_623 : decode cL_law 623 = .ok (.iconst 0, 1) := by decide +kernel
theorem dL_law_624 : decode cL_law 624 = .ok (.iconst 0, 1) := by decide +kernel
theorem dL_law_625 : decode cL_law 625 = .ok (.invokestatic 110, 3) := by decide +kernel
theorem dL_law_628 : decode cL_law 628 = .ok (.iload 24, 2) := by decide +kernel
theorem dL_law_630 : decode cL_law 630 = .ok (.if_icmp .ne 7, 3) := by decide +kernel
theorem dL_law_633 : decode cL_law 633 = .ok (.iconst 1, 1) := by decide +kernel
theorem dL_law_634 : decode cL_law 634 = .ok (.goto 4, 3) := by decide +kernel
theorem dL_law_637 : decode cL_law 637 = .ok (.iconst 0, 1) := by decide +kernel
theorem dL_law_638 : decode cL_law 638 = .ok (.istore 15, 2) := by decide +kernel
theorem dL_law_640 : decode cL_law 640 = .ok (.goto 1387, 3) := by decide +kernel
theorem dL_law_643 : decode cL_law 643 = .ok (.iload 18, 2) := by decide +kernel
theorem dL_law_645 : decode cL_law 645 = .ok (.bipush 8, 2) := by decide +kernel
theorem dL_law_647 : decode cL_law 647 = .ok (.if_icmp .ne 29, 3) := by decide +kernel
theorem dL_law_650 : decode cL_law 650 = .ok (.aload_n 1, 1) := by decide +kernel
theorem dL_law_651 : decode cL_law 651 = .ok (.invokevirtual 158, 3) := by decide +kernel
theorem dL_law_654 : decode cL_law 654 = .ok (.aload 6, 2) := by decide +kernel
theorem dL_law_656 : decode cL_law 656 = .ok (.iconst 0, 1) := by decide +kernel
theorem dL_law_657 : decode cL_law 657 = .ok (.iaload, 1) := by decide +kernel
theorem dL_law_658 : decode cL_law 658 = .ok (.if_icmp .ne 7, 3) := by decide +kernel
theorem dL_law_661 : decode cL_law 661 = .ok (.iconst 1, 1) := by decide +kernel
theorem dL_law_662 : decode cL_law 662 = .ok (.goto 4, 3) := by decide +kernel
theorem dL_law_665 : decode cL_law 665 = .ok (.iconst 0, 1) := by decide +kernel
theorem dL_law_666 : decode cL_law 666 = .ok (.istore 15, 2) := by decide +kernel
theorem dL_law_668 : decode cL_law 668 = .ok (.aload 6, 2) := by decide +kernel
theorem dL_law_670 : decode cL_law 670 = .ok (.iconst 0, 1) := by decide +kernel
theorem dL_law_671 : decode cL_law 671 = .ok (.iconst 0, 1) := by decide +kernel
theorem dL_law_672 : decode cL_law 672 = .ok (.iastore, 1) := by decide +kernel
theorem dL_law_673 : decode cL_law 673 = .ok (.goto 1354, 3) := by decide +kernel
theorem dL_law_676 : decode cL_law 676 = .ok (.iload 18, 2) := by decide +kernel
theorem dL_law_678 : decode cL_law 678 = .ok (.bipush 12, 2) := by decide +kernel
theorem dL_law_680 : decode cL_law 680 = .ok (.if_icmp .ge 218, 3) := by decide +kernel
theorem dL_law_683 : decode cL_law 683 = .ok (.aload_n 3, 1) := by decide +kernel
theorem dL_law_684 : decode cL_law 684 = .ok (.aload 5, 2) := by decide +kernel
theorem dL_law_686 : decode cL_law 686 = .ok (.aload 6, 2) := by decide +kernel
theorem dL_law_688 : decode cL_law 688 = .ok (.iconst 0, 1) := by decide +kernel
theorem dL_law_689 : decode cL_law 689 = .ok (.iconst (-1), 1) := by decide +kernel
theorem dL_law_690 : decode cL_law 690 = .ok (.invokestatic 83, 3) := by decide +kernel
theorem dL_law_693 : decode cL_law 693 = .ok (.invokestatic 94, 3) := by decide +kernel
theorem dL_law_696 : decode cL_law 696 = .ok (.ifCond .lt 25, 3) := by decide +kernel
theorem dL_law_699 : decode cL_law 699 = .ok (.aload 8, 2) := by decide +kernel
theorem dL_law_701 : decode cL_law 701 = .ok (.iconst 0, 1) := by decide +kernel
theorem dL_law_702 : decode cL_law 702 = .ok (.iaload, 1) := by decide +kernel
theorem dL_law_703 : decode cL_law 703 = .ok (.bipush 25, 2) := by decide +kernel
theorem dL_law_705 : decode cL_law 705 = .ok (.ishr, 1) := by decide +kernel
theorem dL_law_706 : decode cL_law 706 = .ok (.ifCond .le 15, 3) := by decide +kernel
theorem dL_law_709 : decode cL_law 709 = .ok (.aload_n 2, 1) := by decide +kernel
theorem dL_law_710 : decode cL_law 710 = .ok (.iconst 0, 1) := by decide +kernel
theorem dL_law_711 : decode cL_law 711 = .ok (.iaload, 1) := by decide +kernel
theorem dL_law_712 : decode cL_law 712 = .ok (.bipush 6, 2) := by decide +kernel
theorem dL_law_714 : decode cL_law 714 = .ok (.if_icmp .ge 7, 3) := by decide +kernel
theorem dL_law_717 : decode cL_law 717 = .ok (.iconst 1, 1) := by decide +kernel
theorem dL_law_718 : decode cL_law 718 = .ok (.goto 4, 3) := by decide +kernel
theorem dL_law_721 : decode cL_law 721 = .ok (.iconst 0, 1) := by decide +kernel
theorem dL_law_722 : decode cL_law 722 = .ok (.istore 23, 2) := by decide +kernel
theorem dL_law_724 : decode cL_law 724 = .ok (.iconst 0, 1) := by decide +kernel
theorem dL_law_725 : decode cL_law 725 = .ok (.istore 24, 2) := by decide +kernel
theorem dL_law_727 : decode cL_law 727 = .ok (.iload 24, 2) := by decide +kernel
theorem dL_law_729 : decode cL_law 729 = .ok (.aload 6, 2) := by decide +kernel
theorem dL_law_731 : decode cL_law 731 = .ok (.iconst 0, 1) := by decide +kernel
theorem dL_law_732 : decode cL_law 732 = .ok (.iaload, 1) := by decide +kernel
theorem dL_law_733 : decode cL_law 733 = .ok (.if_icmp .ge 38, 3) := by decide +kernel
theorem dL_law_736 : decode cL_law 736 = .ok (.iload 23, 2) := by decide +kernel
theorem dL_law_738 : decode cL_law 738 = .ok (.ifCond .eq 24, 3) := by decide +kernel
theorem dL_law_741 : decode cL_law 741 = .ok (.aload_n 3, 1) := by decide +kernel
theorem dL_law_742 : decode cL_law 742 = .ok (.aload 5, 2) := by decide +kernel
theorem dL_law_744 : decode cL_law 744 = .ok (.aload 6, 2) := by decide +kernel
theorem dL_law_746 : decode cL_law 746 = .ok (.iconst 0, 1) := by decide +kernel
theorem dL_law_747 : decode cL_law 747 = .ok (.iload 24, 2) := by decide +kernel
theorem dL_law_749 : decode cL_law 749 = .ok (.invokestatic 83, 3) := by decide +kernel
theorem dL_law_752 : decode cL_law 752 = .ok (.invokestatic 94, 3) := by decide +kernel
theorem dL_law_755 : decode cL_law 755 = .ok (.ifCond .ge 7, 3) := by decide +kernel
theorem dL_law_758 : decode cL_law 758 = .ok (.iconst 1, 1) := by decide +kernel
theorem dL_law_759 : decode cL_law 759 = .ok (.goto 4, 3) := by decide +kernel
theorem dL_law_762 : decode cL_law 762 = .ok (.iconst 0, 1) := by decide +kernel
theorem dL_law_763 : decode cL_law 763 = .ok (.istore 23, 2) := by decide +kernel
theorem dL_law_765 : decode cL_law 765 = .ok (.iinc 24 1, 3) := by decide +kernel
theorem dL_law_768 : decode cL_law 768 = .ok (.goto (-41), 3) := by decide +kernel
theorem dL_law_771 : decode cL_law 771 = .ok (.aload_n 1, 1) := by decide +kernel
theorem dL_law_772 : decode cL_law 772 = .ok (.iconst 1, 1) := by decide +kernel
theorem dL_law_773 : decode cL_law 773 = .ok (.iconst 0, 1) := by decide +kernel
theorem dL_law_774 : decode cL_law 774 = .ok (.iconst 0, 1) := by decide +kernel
theorem dL_law_775 : decode cL_law 775 = .ok (.iconst 0, 1) := by decide +kernel
theorem dL_law_776 : decode cL_law 776 = .ok (.invokestatic 110, 3) := by decide +kernel
theorem dL_law_779 : decode cL_law 779 = .ok (.iload 23, 2) := by decide +kernel
theorem dL_law_781 : decode cL_law 781 = .ok (.ifCond .eq 9, 3) := by decide +kernel
theorem dL_law_784 : decode cL_law 784 = .ok (.aload_n 2, 1) := by decide +kernel
theorem dL_law_785 : decode cL_law 785 = .ok (.iconst 0, 1) := by decide +kernel
theorem dL_law_786 : decode cL_law 786 = .ok (.iaload, 1) := by decide +kernel
theorem dL_law_787 : decode cL_law 787 = .ok (.goto 5, 3) := by decide +kernel
theorem dL_law_790 : decode cL_law 790 = .ok (.bipush (-13), 2) := by decide +kernel
theorem dL_law_792 : decode cL_law 792 = .ok (.if_icmp .ne 7, 3) := by decide +kernel
theorem dL_law_795 : decode cL_law 795 = .ok (.iconst 1, 1) := by decide +kernel
theorem dL_law_796 : decode cL_law 796 = .ok (.goto 4, 3) := by decide +kernel
theorem dL_law_799 : decode cL_law 799 = .ok (.iconst 0, 1) := by decide +kernel
theorem dL_law_800 : decode cL_law 800 = .ok (.istore 15, 2) := by decide +kernel
theorem dL_law_802 : decode cL_law 802 = .ok (.iload 23, 2) := by decide +kernel
theorem dL_law_804 : decode cL_law 804 = .ok (.ifCond .eq 91, 3) := by decide +kernel
theorem dL_law_807 : decode cL_law 807 = .ok (.aload_n 2, 1) := by decide +kernel
theorem dL_law_808 : decode cL_law 808 = .ok (.iconst 0, 1) := by decide +kernel
theorem dL_law_809 : decode cL_law 809 = .ok (.dup2, 1) := by decide +kernel
theorem dL_law_810 : decode cL_law 810 = .ok (.iaload, 1) := by decide +kernel
theorem dL_law_811 : decode cL_law 811 = .ok (.iconst 1, 1) := by decide +kernel
theorem dL_law_812 : decode cL_law 812 = .ok (.iadd, 1) := by decide +kernel
theorem dL_law_813 : decode cL_law 813 = .ok (.iastore, 1) := by decide +kernel
theorem dL_law_814 : decode cL_law 814 = .ok (.iconst 0, 1) := by decide +kernel
theorem dL_law_815 : decode cL_law 815 = .ok (.istore 24, 2) := by decide +kernel
theorem dL_law_817 : decode cL_law 817 = .ok (.iload 24, 2) := by decide +kernel
theorem dL_law_819 : decode cL_law 819 = .ok (.iconst 5, 1) := by decide +kernel
theorem dL_law_820 : decode cL_law 820 = .ok (.if_icmp .ge 25, 3) := by decide +kernel
theorem dL_law_823 : decode cL_law 823 = .ok (.aload 5, 2) := by decide +kernel
theorem dL_law_825 : decode cL_law 825 = .ok (.iconst 5, 1) := by decide +kernel
theorem dL_law_826 : decode cL_law 826 = .ok (.aload_n 2, 1) := by decide +kernel
theorem dL_law_827 : decode cL_law 827 = .ok (.iconst 0, 1) := by decide +kernel
theorem dL_law_828 : decode cL_law 828 = .ok (.iaload, 1) := by decide +kernel
theorem dL_law_829 : decode cL_law 829 = .ok (.imul, 1) := by decide +kernel
theorem dL_law_830 : decode cL_law 830 = .ok (.iload 24, 2) := by decide +kernel
theorem dL_law_832 : decode cL_law 832 = .ok (.iadd, 1) := by decide +kernel
theorem dL_law_833 : decode cL_law 833 = .ok (.aload 5, 2) := by decide +kernel
theorem dL_law_835 : decode cL_law 835 = .ok (.iload 24, 2) := by decide +kernel
theorem dL_law_837 : decode cL_law 837 = .ok (.iaload, 1) := by decide +kernel
theorem dL_law_838 : decode cL_law 838 = .ok (.iastore, 1) := by decide +kernel
theorem dL_law_839 : decode cL_law 839 = .ok (.iinc 24 1, 3) := by decide +kernel
theorem dL_law_842 : decode cL_law 842 = .ok (.goto (-25), 3) := by decide +kernel
theorem dL_law_845 : decode cL_law 845 = .ok (.aload 6, 2) := by decide +kernel
theorem dL_law_847 : decode cL_law 847 = .ok (.aload_n 2, 1) := by decide +kernel
theorem dL_law_848 : decode cL_law 848 = .ok (.iconst 0, 1) := by decide +kernel
theorem dL_law_849 : decode cL_law 849 = .ok (.iaload, 1) := by decide +kernel
theorem dL_law_850 : decode cL_law 850 = .ok (.aload 6, 2) := by decide +kernel
theorem dL_law_852 : decode cL_law 852 = .ok (.iconst 0, 1) := by decide +kernel
theorem dL_law_853 : decode cL_law 853 = .ok (.iaload, 1) := by decide +kernel
theorem dL_law_854 : decode cL_law 854 = .ok (.iastore, 1) := by decide +kernel
theorem dL_law_855 : decode cL_law 855 = .ok (.aload 6, 2) := by decide +kernel
theorem dL_law_857 : decode cL_law 857 = .ok (.iconst 0, 1) := by decide +kernel
theorem dL_law_858 : decode cL_law 858 = .ok (.iconst 0, 1) := by decide +kernel
theorem dL_law_859 : decode cL_law 859 = .ok (.iastore, 1) := by decide +kernel
theorem dL_law_860 : decode cL_law 860 = .ok (.aload 8, 2) := by decide +kernel
theorem dL_law_862 : decode cL_law 862 = .ok (.aload_n 2, 1) := by decide +kernel
theorem dL_law_863 : decode cL_law 863 = .ok (.iconst 0, 1) := by decide +kernel
theorem dL_law_864 : decode cL_law 864 = .ok (.iaload, 1) := by decide +kernel
theorem dL_law_865 : decode cL_law 865 = .ok (.aload 8, 2) := by decide +kernel
theorem dL_law_867 : decode cL_law 867 = .ok (.iconst 0, 1) := by decide +kernel
theorem dL_law_868 : decode cL_law 868 = .ok (.iaload, 1) := by decide +kernel
theorem dL_law_869 : decode cL_law 869 = .ok (.iastore, 1) := by decide +kernel
theorem dL_law_870 : decode cL_law 870 = .ok (.aload 7, 2) := by decide +kernel
theorem dL_law_872 : decode cL_law 872 = .ok (.iconst 2, 1) := by decide +kernel
theorem dL_law_873 : decode cL_law 873 = .ok (.aload_n 2, 1) := by decide +kernel
theorem dL_law_874 : decode cL_law 874 = .ok (.iconst 0, 1) := by decide +kernel
theorem dL_law_875 : decode cL_law 875 = .ok (.iaload, 1) := by decide +kernel
theorem dL_law_876 : decode cL_law 876 = .ok (.imul, 1) := by decide +kernel
theorem dL_law_877 : decode cL_law 877 = .ok (.iconst 2, 1) := by decide +kernel
theorem dL_law_878 : decode cL_law 878 = .ok (.isub, 1) := by decide +kernel
theorem dL_law_879 : decode cL_law 879 = .ok (.aload_n 3, 1) := by decide +kernel
theorem dL_law_880 : decode cL_law 880 = .ok (.aload 5, 2) := by decide +kernel
theorem dL_law_882 : decode cL_law 882 = .ok (.aload 6, 2) := by decide +kernel
theorem dL_law_884 : decode cL_law 884 = .ok (.aload_n 2, 1) := by decide +kernel
theorem dL_law_885 : decode cL_law 885 = .ok (.iconst 0, 1) := by decide +kernel
theorem dL_law_886 : decode cL_law 886 = .ok (.iaload, 1) := by decide +kernel
theorem dL_law_887 : decode cL_law 887 = .ok (.iconst (-1), 1) := by decide +kernel
theorem dL_law_888 : decode cL_law 888 = .ok (.invokestatic 83, 3) := by decide +kernel
theorem dL_law_891 : decode cL_law 891 = .ok (.invokestatic 94, 3) := by decide +kernel
theorem dL_law_894 : decode cL_law 894 = .ok (.iastore, 1) := by decide +kernel
theorem dL_law_895 : decode cL_law 895 = .ok (.goto 1132, 3) := by decide +kernel
theorem dL_law_898 : decode cL_law 898 = .ok (.iload 18, 2) := by decide +kernel
theorem dL_law_900 : decode cL_law 900 = .ok (.bipush 12, 2) := by decide +kernel
theorem dL_law_902 : decode cL_law 902 = .ok (.if_icmp .ne 144, 3) := by decide +kernel
theorem dL_law_905 : decode cL_law 905 = .ok (.aload 8, 2) := by decide +kernel
theorem dL_law_907 : decode cL_law 907 = .ok (.iconst 0, 1) := by decide +kernel
theorem dL_law_908 : decode cL_law 908 = .ok (.iaload, 1) := by decide +kernel
theorem dL_law_909 : decode cL_law 909 = .ok (.bipush 25, 2) := by decide +kernel
theorem dL_law_911 : decode cL_law 911 = .ok (.ishr, 1) := by decide +kernel
theorem dL_law_912 : decode cL_law 912 = .ok (.istore 23, 2) := by decide +kernel
theorem dL_law_914 : decode cL_law 914 = .ok (.iload 19, 2) := by decide +kernel
theorem dL_law_916 : decode cL_law 916 = .ok (.iconst 3, 1) := by decide +kernel
theorem dL_law_917 : decode cL_law 917 = .ok (.irem, 1) := by decide +kernel
theorem dL_law_918 : decode cL_law 918 = .ok (.ifCond .ne 8, 3) := by decide +kernel
theorem dL_law_921 : decode cL_law 921 = .ok (.bipush 26, 2) := by decide +kernel
theorem dL_law_923 : decode cL_law 923 = .ok (.goto 10, 3) := by decide +kernel
theorem dL_law_926 : decode cL_law 926 = .ok (.iload 19, 2) := by decide +kernel
theorem dL_law_928 : decode cL_law 928 = .ok (.iconst 3, 1) := by decide +kernel
theorem dL_law_929 : decode cL_law 929 = .ok (.idiv, 1) := by decide +kernel
theorem dL_law_930 : decode cL_law 930 = .ok (.bipush 27, 2) := by decide +kernel
theorem dL_law_932 : decode cL_law 932 = .ok (.irem, 1) := by decide +kernel
theorem dL_law_933 : decode cL_law 933 = .ok (.istore 24, 2) := by decide +kernel
theorem dL_law_935 : decode cL_law 935 = .ok (.iconst 0, 1) := by decide +kernel
theorem dL_law_936 : decode cL_law 936 = .ok (.istore 25, 2) := by decide +kernel
theorem dL_law_938 : decode cL_law 938 = .ok (.iload 23, 2) := by decide +kernel
theorem dL_law_940 : decode cL_law 940 = .ok (.iconst 5, 1) := by decide +kernel
theorem dL_law_941 : decode cL_law 941 = .ok (.if_icmp .ge 70, 3) := by decide +kernel
theorem dL_law_944 : decode cL_law 944 = .ok (.aload 8, 2) := by decide +kernel
theorem dL_law_946 : decode cL_law 946 = .ok (.iconst 0, 1) := by decide +kernel
theorem dL_law_947 : decode cL_law 947 = .ok (.aload 8, 2) := by decide +kernel
theorem dL_law_949 : decode cL_law 949 = .ok (.iconst 0, 1) := by decide +kernel
theorem dL_law_950 : decode cL_law 950 = .ok (.iaload, 1) := by decide +kernel
theorem dL_law_951 : decode cL_law 951 = .ok (.ldc 161, 2) := by decide +kernel
theorem dL_law_953 : decode cL_law 953 = .ok (.iand, 1) := by decide +kernel
theorem dL_law_954 : decode cL_law 954 = .ok (.iload 24, 2) := by decide +kernel
theorem dL_law_956 : decode cL_law 956 = .ok (.iconst 5, 1) := by decide +kernel
theorem dL_law_957 : decode cL_law 957 = .ok (.iload 23, 2) := by decide +kernel
theorem dL_law_959 : decode cL_law 959 = .ok (.imul, 1) := by decide +kernel
theorem dL_law_960 : decode cL_law 960 = .ok (.ishl, 1) := by decide +kernel
theorem dL_law_961 : decode cL_law 961 = .ok (.ior, 1) := by decide +kernel
theorem dL_law_962 : decode cL_law 962 = .ok (.iload 23, 2) := by decide +kernel
theorem dL_law_964 : decode cL_law 964 = .ok (.iconst 1, 1) := by decide +kernel
theorem dL_law_965 : decode cL_law 965 = .ok (.iadd, 1) := by decide +kernel
theorem dL_law_966 : decode cL_law 966 = .ok (.bipush 25, 2) := by decide +kernel
theorem dL_law_968 : decode cL_law 968 = .ok (.ishl, 1) := by decide +kernel
theorem dL_law_969 : decode cL_law 969 = .ok (.ior, 1) := by decide +kernel
theorem dL_law_970 : decode cL_law 970 = .ok (.iastore, 1) := by decide +kernel
theorem dL_law_971 : decode cL_law 971 = .ok (.iconst 0, 1) := by decide +kernel
theorem dL_law_972 : decode cL_law 972 = .ok (.istore 26, 2) := by decide +kernel
theorem dL_law_974 : decode cL_law 974 = .ok (.iload 26, 2) := by decide +kernel
theorem dL_law_976 : decode cL_law 976 = .ok (.iload 23, 2) := by decide +kernel
theorem dL_law_978 : decode cL_law 978 = .ok (.if_icmp .gt 33, 3) := by decide +kernel
theorem dL_law_981 : decode cL_law 981 = .ok (.iload 25, 2) := by decide +kernel
theorem dL_law_983 : decode cL_law 983 = .ok (.aload 8, 2) := by decide +kernel
theorem dL_law_985 : decode cL_law 985 = .ok (.iconst 0, 1) := by decide +kernel
theorem dL_law_986 : decode cL_law 986 = .ok (.iaload, 1) := by decide +kernel
theorem dL_law_987 : decode cL_law 987 = .ok (.iload 26, 2) := by decide +kernel
theorem dL_law_989 : decode cL_law 989 = .ok (.invokestatic 28, 3) := by decide +kernel
theorem dL_law_992 : decode cL_law 992 = .ok (.bipush 26, 2) := by decide +kernel
theorem dL_law_994 : decode cL_law 994 = .ok (.if_icmp .ne 7, 3) := by decide +kernel
theorem dL_law_997 : decode cL_law 997 = .ok (.iconst 2, 1) := by decide +kernel
theorem dL_law_998 : decode cL_law 998 = .ok (.goto 4, 3) := by decide +kernel
theorem dL_law_1001 : decode cL_law 1001 = .ok (.iconst 1, 1) := by decide +kernel
theorem dL_law_1002 : decode cL_law 1002 = .ok (.iadd, 1) := by decide +kernel
theorem dL_law_1003 : decode cL_law 1003 = .ok (.istore 25, 2) := by decide +kernel
theorem dL_law_1005 : decode cL_law 1005 = .ok (.iinc 26 1, 3) := by decide +kernel
theorem dL_law_1008 : decode cL_law 1008 = .ok (.goto (-34), 3) := by decide +kernel
theorem dL_law_1011 : decode cL_law 1011 = .ok (.aload_n 1, 1) := by decide +kernel
theorem dL_law_1012 : decode cL_law 1012 = .ok (.iconst 2, 1) := by decide +kernel
theorem dL_law_1013 : decode cL_law 1013 = .ok (.iload 24, 2) := by decide +kernel
theorem dL_law_1015 : decode cL_law 1015 = .ok (.iconst 0, 1) := by decide +kernel
theorem dL_law_1016 : decode cL_law 1016 = .ok (.iconst 0, 1) := by decide +kernel
theorem dL_law_1017 : decode cL_law 1017 = .ok (.invokestatic 110, 3) := by decide +kernel
theorem dL_law_1020 : decode cL_law 1020 = .ok (.iload 23, 2) := by decide +kernel
theorem dL_law_1022 : decode cL_law 1022 = .ok (.iconst 5, 1) := by decide +kernel
theorem dL_law_1023 : decode cL_law 1023 = .ok (.if_icmp .ge 8, 3) := by decide +kernel
theorem dL_law_1026 : decode cL_law 1026 = .ok (.iload 25, 2) := by decide +kernel
theorem dL_law_1028 : decode cL_law 1028 = .ok (.goto 5, 3) := by decide +kernel
theorem dL_law_1031 : decode cL_law 1031 = .ok (.bipush (-13), 2) := by decide +kernel
theorem dL_law_1033 : decode cL_law 1033 = .ok (.if_icmp .ne 7, 3) := by decide +kernel
theorem dL_law_1036 : decode cL_law 1036 = .ok (.iconst 1, 1) := by decide +kernel
theorem dL_law_1037 : decode cL_law 1037 = .ok (.goto 4, 3) := by decide +kernel
theorem dL_law_1040 : decode cL_law 1040 = .ok (.iconst 0, 1) := by decide +kernel
theorem dL_law_1041 : decode cL_law 1041 = .ok (.istore 15, 2) := by decide +kernel
theorem dL_law_1043 : decode cL_law 1043 = .ok (.goto 984, 3) := by decide +kernel
theorem dL_law_1046 : decode cL_law 1046 = .ok (.iload 18, 2) := by decide +kernel
theorem dL_law_1048 : decode cL_law 1048 = .ok (.bipush 13, 2) := by decide +kernel
theorem dL_law_1050 : decode cL_law 1050 = .ok (.if_icmp .ne 113, 3) := by decide +kernel
theorem dL_law_1053 : decode cL_law 1053 = .ok (.iconst 1, 1) := by decide +kernel
theorem dL_law_1054 : decode cL_law 1054 = .ok (.iload 19, 2) := by decide +kernel
theorem dL_law_1056 : decode cL_law 1056 = .ok (.sipush 400, 3) := by decide +kernel
theorem dL_law_1059 : decode cL_law 1059 = .ok (.idiv, 1) := by decide +kernel
theorem dL_law_1060 : decode cL_law 1060 = .ok (.iconst 5, 1) := by decide +kernel
theorem dL_law_1061 : decode cL_law 1061 = .ok (.irem, 1) := by decide +kernel
theorem dL_law_1062 : decode cL_law 1062 = .ok (.iadd, 1) := by decide +kernel
theorem dL_law_1063 : decode cL_law 1063 = .ok (.istore 23, 2) := by decide +kernel
theorem dL_law_1065 : decode cL_law 1065 = .ok (.aload_n 1, 1) := by decide +kernel
theorem dL_law_1066 : decode cL_law 1066 = .ok (.iconst 5, 1) := by decide +kernel
theorem dL_law_1067 : decode cL_law 1067 = .ok (.iload 20, 2) := by decide +kernel
theorem dL_law_1069 : decode cL_law 1069 = .ok (.iload 23, 2) := by decide +kernel
theorem dL_law_1071 : decode cL_law 1071 = .ok (.iconst 0, 1) := by decide +kernel
theorem dL_law_1072 : decode cL_law 1072 = .ok (.invokestatic 110, 3) := by decide +kernel
theorem dL_law_1075 : decode cL_law 1075 = .ok (.aload_n 2, 1) := by decide +kernel
theorem dL_law_1076 : decode cL_law 1076 = .ok (.iconst 1, 1) := by decide +kernel
theorem dL_law_1077 : decode cL_law 1077 = .ok (.iaload, 1) := by decide +kernel
theorem dL_law_1078 : decode cL_law 1078 = .ok (.bipush 6, 2) := by decide +kernel
theorem dL_law_1080 : decode cL_law 1080 = .ok (.if_icmp .ne 8, 3) := by decide +kernel
theorem dL_law_1083 : decode cL_law 1083 = .ok (.bipush (-13), 2) := by decide +kernel
theorem dL_law_1085 : decode cL_law 1085 = .ok (.goto 6, 3) := by decide +kernel
theorem dL_law_1088 : decode cL_law 1088 = .ok (.aload_n 2, 1) := by decide +kernel
theorem dL_law_1089 : decode cL_law 1089 = .ok (.iconst 1, 1) := by decide +kernel
theorem dL_law_1090 : decode cL_law 1090 = .ok (.iaload, 1) := by decide +kernel
theorem dL_law_1091 : decode cL_law 1091 = .ok (.if_icmp .ne 7, 3) := by decide +kernel
theorem dL_law_1094 : decode cL_law 1094 = .ok (.iconst 1, 1) := by decide +kernel
theorem dL_law_1095 : decode cL_law 1095 = .ok (.goto 4, 3) := by decide +kernel
theorem dL_law_1098 : decode cL_law 1098 = .ok (.iconst 0, 1) := by decide +kernel
theorem dL_law_1099 : decode cL_law 1099 = .ok (.istore 15, 2) := by decide +kernel
theorem dL_law_1101 : decode cL_law 1101 = .ok (.aload_n 2, 1) := by decide +kernel
theorem dL_law_1102 : decode cL_law 1102 = .ok (.iconst 1, 1) := by decide +kernel
theorem dL_law_1103 : decode cL_law 1103 = .ok (.iaload, 1) := by decide +kernel
theorem dL_law_1104 : decode cL_law 1104 = .ok (.bipush 6, 2) := by decide +kernel
theorem dL_law_1106 : decode cL_law 1106 = .ok (.if_icmp .ge 54, 3) := by decide +kernel
theorem dL_law_1109 : decode cL_law 1109 = .ok (.aload 9, 2) := by decide +kernel
theorem dL_law_1111 : decode cL_law 1111 = .ok (.iconst 5, 1) := by decide +kernel
theorem dL_law_1112 : decode cL_law 1112 = .ok (.aload_n 2, 1) := by decide +kernel
theorem dL_law_1113 : decode cL_law 1113 = .ok (.iconst 1, 1) := by decide +kernel
theorem dL_law_1114 : decode cL_law 1114 = .ok (.iaload, 1) := by decide +kernel
theorem dL_law_1115 : decode cL_law 1115 = .ok (.imul, 1) := by decide +kernel
theorem dL_law_1116 : decode cL_law 1116 = .ok (.iload 23, 2) := by decide +kernel
theorem dL_law_1118 : decode cL_law 1118 = .ok (.iastore, 1) := by decide +kernel
theorem dL_law_1119 : decode cL_law 1119 = .ok (.aload 9, 2) := by decide +kernel
theorem dL_law_1121 : decode cL_law 1121 = .ok (.iconst 5, 1) := by decide +kernel
theorem dL_law_1122 : decode cL_law 1122 = .ok (.aload_n 2, 1) := by decide +kernel
theorem dL_law_1123 : decode cL_law 1123 = .ok (.iconst 1, 1) := by decide +kernel
theorem dL_law_1124 : decode cL_law 1124 = .ok (.iaload, 1) := by decide +kernel
theorem dL_law_1125 : decode cL_law 1125 = .ok (.imul, 1) := by decide +kernel
theorem dL_law_1126 : decode cL_law 1126 = .ok (.iconst 1, 1) := by decide +kernel
theorem dL_law_1127 : decode cL_law 1127 = .ok (.iadd, 1) := by decide +kernel
theorem dL_law_1128 : decode cL_law 1128 = .ok (.iload 20, 2) := by decide +kernel
theorem dL_law_1130 : decode cL_law 1130 = .ok (.iastore, 1) := by decide +kernel
theorem dL_law_1131 : decode cL_law 1131 = .ok (.aload 9, 2) := by decide +kernel
theorem dL_law_1133 : decode cL_law 1133 = .ok (.iconst 5, 1) := by decide +kernel
theorem dL_law_1134 : decode cL_law 1134 = .ok (.aload_n 2, 1) := by decide +kernel
theorem dL_law_1135 : decode cL_law 1135 = .ok (.iconst 1, 1) := by decide +kernel
theorem dL_law_1136 : decode cL_law 1136 = .ok (.iaload, 1) := by decide +kernel
theorem dL_law_1137 : decode cL_law 1137 = .ok (.imul, 1) := by decide +kernel
theorem dL_law_1138 : decode cL_law 1138 = .ok (.iconst 2, 1) := by decide +kernel
theorem dL_law_1139 : decode cL_law 1139 = .ok (.iadd, 1) := by decide +kernel
theorem dL_law_1140 : decode cL_law 1140 = .ok (.iconst (-1), 1) := by decide +kernel
theorem dL_law_1141 : decode cL_law 1141 = .ok (.iastore, 1) := by decide +kernel
theorem dL_law_1142 : decode cL_law 1142 = .ok (.aload 9, 2) := by decide +kernel
theorem dL_law_1144 : decode cL_law 1144 = .ok (.iconst 5, 1) := by decide +kernel
theorem dL_law_1145 : decode cL_law 1145 = .ok (.aload_n 2, 1) := by decide +kernel
theorem dL_law_1146 : decode cL_law 1146 = .ok (.iconst 1, 1) := by decide +kernel
theorem dL_law_1147 : decode cL_law 1147 = .ok (.iaload, 1) := by decide +kernel
theorem dL_law_1148 : decode cL_law 1148 = .ok (.imul, 1) := by decide +kernel
theorem dL_law_1149 : decode cL_law 1149 = .ok (.iconst 3, 1) := by decide +kernel
theorem dL_law_1150 : decode cL_law 1150 = .ok (.iadd, 1) := by decide +kernel
theorem dL_law_1151 : decode cL_law 1151 = .ok (.iconst (-1), 1) := by decide +kernel
theorem dL_law_1152 : decode cL_law 1152 = .ok (.iastore, 1) := by decide +kernel
theorem dL_law_1153 : decode cL_law 1153 = .ok (.aload_n 2, 1) := by decide +kernel
theorem dL_law_1154 : decode cL_law 1154 = .ok (.iconst 1, 1) := by decide +kernel
theorem dL_law_1155 : decode cL_law 1155 = .ok (.dup2, 1) := by decide +kernel
theorem dL_law_1156 : decode cL_law 1156 = .ok (.iaload, 1) := by decide +kernel
theorem dL_law_1157 : decode cL_law 1157 = .ok (.iconst 1, 1) := by decide +kernel
theorem dL_law_1158 : decode cL_law 1158 = .ok (.iadd, 1) := by decide +kernel
theorem dL_law_1159 : decode cL_law 1159 = .ok (.iastore, 1) := by decide +kernel
theorem dL_law_1160 : decode cL_law 1160 = .ok (.goto 867, 3) := by decide +kernel
theorem dL_law_1163 : decode cL_law 1163 = .ok (.iload 18, 2) := by decide +kernel
theorem dL_law_1165 : decode cL_law 1165 = .ok (.bipush 14, 2) := by decide +kernel
theorem dL_law_1167 : decode cL_law 1167 = .ok (.if_icmp .ne 63, 3) := by decide +kernel
theorem dL_law_1170 : decode cL_law 1170 = .ok (.aload_n 1, 1) := by decide +kernel
theorem dL_law_1171 : decode cL_law 1171 = .ok (.bipush 6, 2) := by decide +kernel
theorem dL_law_1173 : decode cL_law 1173 = .ok (.iload 20, 2) := by decide +kernel
theorem dL_law_1175 : decode cL_law 1175 = .ok (.iconst 0, 1) := by decide +kernel
theorem dL_law_1176 : decode cL_law 1176 = .ok (.iconst 0, 1) := by decide +kernel
theorem dL_law_1177 : decode cL_law 1177 = .ok (.invokestatic 110, 3) := by decide +kernel
theorem dL_law_1180 : decode cL_law 1180 = .ok (.aload_n 2, 1) := by decide +kernel
theorem dL_law_1181 : decode cL_law 1181 = .ok (.iconst 2, 1) := by decide +kernel
theorem dL_law_1182 : decode cL_law 1182 = .ok (.iaload, 1) := by decide +kernel
theorem dL_law_1183 : decode cL_law 1183 = .ok (.iconst 4, 1) := by decide +kernel
theorem dL_law_1184 : decode cL_law 1184 = .ok (.if_icmp .ne 8, 3) := by decide +kernel
theorem dL_law_1187 : decode cL_law 1187 = .ok (.bipush (-13), 2) := by decide +kernel
theorem dL_law_1189 : decode cL_law 1189 = .ok (.goto 6, 3) := by decide +kernel
theorem dL_law_1192 : decode cL_law 1192 = .ok (.aload_n 2, 1) := by decide +kernel
theorem dL_law_1193 : decode cL_law 1193 = .ok (.iconst 2, 1) := by decide +kernel
theorem dL_law_1194 : decode cL_law 1194 = .ok (.iaload, 1) := by decide +kernel
theorem dL_law_1195 : decode cL_law 1195 = .ok (.if_icmp .ne 7, 3) := by decide +kernel
theorem dL_law_1198 : decode cL_law 1198 = .ok (.iconst 1, 1) := by decide +kernel
theorem dL_law_1199 : decode cL_law 1199 = .ok (.goto 4, 3) := by decide +kernel
theorem dL_law_1202 : decode cL_law 1202 = .ok (.iconst 0, 1) := by decide +kernel
theorem dL_law_1203 : decode cL_law 1203 = .ok (.istore 15, 2) := by decide +kernel
theorem dL_law_1205 : decode cL_law 1205 = .ok (.aload_n 2, 1) := by decide +kernel
theorem dL_law_1206 : decode cL_law 1206 = .ok (.iconst 2, 1) := by decide +kernel
theorem dL_law_1207 : decode cL_law 1207 = .ok (.iaload, 1) := by decide +kernel
theorem dL_law_1208 : decode cL_law 1208 = .ok (.iconst 4, 1) := by decide +kernel
theorem dL_law_1209 : decode cL_law 1209 = .ok (.if_icmp .ge 818, 3) := by decide +kernel
theorem dL_law_1212 : decode cL_law 1212 = .ok (.aload 13, 2) := by decide +kernel
theorem dL_law_1214 : decode cL_law 1214 = .ok (.aload_n 2, 1) := by decide +kernel
theorem dL_law_1215 : decode cL_law 1215 = .ok (.iconst 2, 1) := by decide +kernel
theorem dL_law_1216 : decode cL_law 1216 = .ok (.iaload, 1) := by decide +kernel
theorem dL_law_1217 : decode cL_law 1217 = .ok (.iload 20, 2) := by decide +kernel
theorem dL_law_1219 : decode cL_law 1219 = .ok (.iastore, 1) := by decide +kernel
theorem dL_law_1220 : decode cL_law 1220 = .ok (.aload_n 2, 1) := by decide +kernel
theorem dL_law_1221 : decode cL_law 1221 = .ok (.iconst 2, 1) := by decide +kernel
theorem dL_law_1222 : decode cL_law 1222 = .ok (.dup2, 1) := by decide +kernel
theorem dL_law_1223 : decode cL_law 1223 = .ok (.iaload, 1) := by decide +kernel
theorem dL_law_1224 : decode cL_law 1224 = .ok (.iconst 1, 1) := by decide +kernel
theorem dL_law_1225 : decode cL_law 1225 = .ok (.iadd, 1) := by decide +kernel
theorem dL_law_1226 : decode cL_law 1226 = .ok (.iastore, 1) := by decide +kernel
theorem dL_law_1227 : decode cL_law 1227 = .ok (.goto 800, 3) := by decide +kernel
theorem dL_law_1230 : decode cL_law 1230 = .ok (.iload 18, 2) := by decide +kernel
theorem dL_law_1232 : decode cL_law 1232 = .ok (.bipush 18, 2) := by decide +kernel
theorem dL_law_1234 : decode cL_law 1234 = .ok (.if_icmp .ge 147, 3) := by decide +kernel
theorem dL_law_1237 : decode cL_law 1237 = .ok (.aload_n 2, 1) := by decide +kernel
theorem dL_law_1238 : decode cL_law 1238 = .ok (.iconst 1, 1) := by decide +kernel
theorem dL_law_1239 : decode cL_law 1239 = .ok (.iaload, 1) := by decide +kernel
theorem dL_law_1240 : decode cL_law 1240 = .ok (.ifCond .le 141, 3) := by decide +kernel
theorem dL_law_1243 : decode cL_law 1243 = .ok (.iload 19, 2) := by decide +kernel
theorem dL_law_1245 : decode cL_law 1245 = .ok (.iconst 4, 1) := by decide +kernel
theorem dL_law_1246 : decode cL_law 1246 = .ok (.irem, 1) := by decide +kernel
theorem dL_law_1247 : decode cL_law 1247 = .ok (.ifCond .le 29, 3) := by decide +kernel
theorem dL_law_1250 : decode cL_law 1250 = .ok (.aload_n 2, 1) := by decide +kernel
theorem dL_law_1251 : decode cL_law 1251 = .ok (.iconst 0, 1) := by decide +kernel
theorem dL_law_1252 : decode cL_law 1252 = .ok (.iaload, 1) := by decide +kernel
theorem dL_law_1253 : decode cL_law 1253 = .ok (.ifCond .le 23, 3) := by decide +kernel
theorem dL_law_1256 : decode cL_law 1256 = .ok (.aload 7, 2) := by decide +kernel
theorem dL_law_1258 : decode cL_law 1258 = .ok (.iconst 2, 1) := by decide +kernel
theorem dL_law_1259 : decode cL_law 1259 = .ok (.iload 22, 2) := by decide +kernel
theorem dL_law_1261 : decode cL_law 1261 = .ok (.imul, 1) := by decide +kernel
theorem dL_law_1262 : decode cL_law 1262 = .ok (.iaload, 1) := by decide +kernel
theorem dL_law_1263 : decode cL_law 1263 = .ok (.ifCond .lt 13, 3) := by decide +kernel
theorem dL_law_1266 : decode cL_law 1266 = .ok (.aload 7, 2) := by decide +kernel
theorem dL_law_1268 : decode cL_law 1268 = .ok (.iconst 2, 1) := by decide +kernel
theorem dL_law_1269 : decode cL_law 1269 = .ok (.iload 22, 2) := by decide +kernel
theorem dL_law_1271 : decode cL_law 1271 = .ok (.imul, 1) := by decide +kernel
theorem dL_law_1272 : decode cL_law 1272 = .ok (.iaload, 1) := by decide +kernel
theorem dL_law_1273 : decode cL_law 1273 = .ok (.goto 5, 3) := by decide +kernel
theorem dL_law_1276 : decode cL_law 1276 = .ok (.iload 20, 2) := by decide +kernel
theorem dL_law_1278 : decode cL_law 1278 = .ok (.istore 23, 2) := by decide +kernel
theorem dL_law_1280 : decode cL_law 1280 = .ok (.iconst 5, 1) := by decide +kernel
theorem dL_law_1281 : decode cL_law 1281 = .ok (.iload 21, 2) := by decide +kernel
theorem dL_law_1283 : decode cL_law 1283 = .ok (.imul, 1) := by decide +kernel
theorem dL_law_1284 : decode cL_law 1284 = .ok (.istore 24, 2) := by decide +kernel
theorem dL_law_1286 : decode cL_law 1286 = .ok (.aload_n 3, 1) := by decide +kernel
theorem dL_law_1287 : decode cL_law 1287 = .ok (.aload 4, 2) := by decide +kernel
theorem dL_law_1289 : decode cL_law 1289 = .ok (.iload 23, 2) := by decide +kernel
theorem dL_law_1291 : decode cL_law 1291 = .ok (.aload 14, 2) := by decide +kernel
theorem dL_law_1293 : decode cL_law 1293 = .ok (.invokestatic 20, 3) := by decide +kernel
theorem dL_law_1296 : decode cL_law 1296 = .ok (.aload 9, 2) := by decide +kernel
theorem dL_law_1298 : decode cL_law 1298 = .ok (.iload 24, 2) := by decide +kernel
theorem dL_law_1300 : decode cL_law 1300 = .ok (.iconst 2, 1) := by decide +kernel
theorem dL_law_1301 : decode cL_law 1301 = .ok (.iadd, 1) := by decide +kernel
theorem dL_law_1302 : decode cL_law 1302 = .ok (.aload 9, 2) := by decide +kernel
theorem dL_law_1304 : decode cL_law 1304 = .ok (.iload 24, 2) := by decide +kernel
theorem dL_law_1306 : decode cL_law 1306 = .ok (.iconst 3, 1) := by decide +kernel
theorem dL_law_1307 : decode cL_law 1307 = .ok (.iadd, 1) := by decide +kernel
theorem dL_law_1308 : decode cL_law 1308 = .ok (.iaload, 1) := by decide +kernel
theorem dL_law_1309 : decode cL_law 1309 = .ok (.ifCond .ge 19, 3) := by decide +kernel
theorem dL_law_1312 : decode cL_law 1312 = .ok (.aload 9, 2) := by decide +kernel
theorem dL_law_1314 : decode cL_law 1314 = .ok (.iload 24, 2) := by decide +kernel
theorem dL_law_1316 : decode cL_law 1316 = .ok (.iconst 1, 1) := by decide +kernel
theorem dL_law_1317 : decode cL_law 1317 = .ok (.iadd, 1) := by decide +kernel
theorem dL_law_1318 : decode cL_law 1318 = .ok (.iaload, 1) := by decide +kernel
theorem dL_law_1319 : decode cL_law 1319 = .ok (.iload 23, 2) := by decide +kernel
theorem dL_law_1321 : decode cL_law 1321 = .ok (.if_icmp .ne 7, 3) := by decide +kernel
theorem dL_law_1324 : decode cL_law 1324 = .ok (.iconst (-1), 1) := by decide +kernel
theorem dL_law_1325 : decode cL_law 1325 = .ok (.goto 5, 3) := by decide +kernel
theorem dL_law_1328 : decode cL_law 1328 = .ok (.iload 23, 2) := by decide +kernel
theorem dL_law_1330 : decode cL_law 1330 = .ok (.iastore, 1) := by decide +kernel
theorem dL_law_1331 : decode cL_law 1331 = .ok (.aload_n 1, 1) := by decide +kernel
theorem dL_law_1332 : decode cL_law 1332 = .ok (.iload 21, 2) := by decide +kernel
theorem dL_law_1334 : decode cL_law 1334 = .ok (.iload 23, 2) := by decide +kernel
theorem dL_law_1336 : decode cL_law 1336 = .ok (.invokevirtual 162, 3) := by decide +kernel
theorem dL_law_1339 : decode cL_law 1339 = .ok (.aload 14, 2) := by decide +kernel
theorem dL_law_1341 : decode cL_law 1341 = .ok (.aload 9, 2) := by decide +kernel
theorem dL_law_1343 : decode cL_law 1343 = .ok (.iload 24, 2) := by decide +kernel
theorem dL_law_1345 : decode cL_law 1345 = .ok (.iconst 1, 1) := by decide +kernel
theorem dL_law_1346 : decode cL_law 1346 = .ok (.iadd, 1) := by decide +kernel
theorem dL_law_1347 : decode cL_law 1347 = .ok (.iaload, 1) := by decide +kernel
theorem dL_law_1348 : decode cL_law 1348 = .ok (.iaload, 1) := by decide +kernel
theorem dL_law_1349 : decode cL_law 1349 = .ok (.ldc 19, 2) := by decide +kernel
theorem dL_law_1351 : decode cL_law 1351 = .ok (.if_icmp .ne 7, 3) := by decide +kernel
theorem dL_law_1354 : decode cL_law 1354 = .ok (.iconst (-1), 1) := by decide +kernel
theorem dL_law_1355 : decode cL_law 1355 = .ok (.goto 13, 3) := by decide +kernel
theorem dL_law_1358 : decode cL_law 1358 = .ok (.aload 14, 2) := by decide +kernel
theorem dL_law_1360 : decode cL_law 1360 = .ok (.aload 9, 2) := by decide +kernel
theorem dL_law_1362 : decode cL_law 1362 = .ok (.iload 24, 2) := by decide +kernel
theorem dL_law_1364 : decode cL_law 1364 = .ok (.iconst 1, 1) := by decide +kernel
theorem dL_law_1365 : decode cL_law 1365 = .ok (.iadd, 1) := by decide +kernel
theorem dL_law_1366 : decode cL_law 1366 = .ok (.iaload, 1) := by decide +kernel
theorem dL_law_1367 : decode cL_law 1367 = .ok (.iaload, 1) := by decide +kernel
theorem dL_law_1368 : decode cL_law 1368 = .ok (.if_icmp .ne 7, 3) := by decide +kernel
theorem dL_law_1371 : decode cL_law 1371 = .ok (.iconst 1, 1) := by decide +kernel
theorem dL_law_1372 : decode cL_law 1372 = .ok (.goto 4, 3) := by decide +kernel
theorem dL_law_1375 : decode cL_law 1375 = .ok (.iconst 0, 1) := by decide +kernel
theorem dL_law_1376 : decode cL_law 1376 = .ok (.istore 15, 2) := by decide +kernel
theorem dL_law_1378 : decode cL_law 1378 = .ok (.goto 649, 3) := by decide +kernel
theorem dL_law_1381 : decode cL_law 1381 = .ok (.iload 18, 2) := by decide +kernel
theorem dL_law_1383 : decode cL_law 1383 = .ok (.bipush 22, 2) := by decide +kernel
theorem dL_law_1385 : decode cL_law 1385 = .ok (.if_icmp .ge 359, 3) := by decide +kernel
theorem dL_law_1388 : decode cL_law 1388 = .ok (.iload 19, 2) := by decide +kernel
theorem dL_law_1390 : decode cL_law 1390 = .ok (.iconst 3, 1) := by decide +kernel
theorem dL_law_1391 : decode cL_law 1391 = .ok (.irem, 1) := by decide +kernel
theorem dL_law_1392 : decode cL_law 1392 = .ok (.ifCond .le 134, 3) := by decide +kernel
theorem dL_law_1395 : decode cL_law 1395 = .ok (.aload_n 2, 1) := by decide +kernel
theorem dL_law_1396 : decode cL_law 1396 = .ok (.iconst 0, 1) := by decide +kernel
theorem dL_law_1397 : decode cL_law 1397 = .ok (.iaload, 1) := by decide +kernel
theorem dL_law_1398 : decode cL_law 1398 = .ok (.ifCond .le 128, 3) := by decide +kernel
theorem dL_law_1401 : decode cL_law 1401 = .ok (.aload_n 2, 1) := by decide +kernel
theorem dL_law_1402 : decode cL_law 1402 = .ok (.iconst 1, 1) := by decide +kernel
theorem dL_law_1403 : decode cL_law 1403 = .ok (.iaload, 1) := by decide +kernel
theorem dL_law_1404 : decode cL_law 1404 = .ok (.ifCond .le 122, 3) := by decide +kernel
theorem dL_law_1407 : decode cL_law 1407 = .ok (.aload 10, 2) := by decide +kernel
theorem dL_law_1409 : decode cL_law 1409 = .ok (.iload 21, 2) := by decide +kernel
theorem dL_law_1411 : decode cL_law 1411 = .ok (.iaload, 1) := by decide +kernel
theorem dL_law_1412 : decode cL_law 1412 = .ok (.i2l, 1) := by decide +kernel
theorem dL_law_1413 : decode cL_law 1413 = .ok (.invokestatic 90, 3) := by decide +kernel
theorem dL_law_1416 : decode cL_law 1416 = .ok (.aload_n 2, 1) := by decide +kernel
theorem dL_law_1417 : decode cL_law 1417 = .ok (.iconst 0, 1) := by decide +kernel
theorem dL_law_1418 : decode cL_law 1418 = .ok (.iaload, 1) := by decide +kernel
theorem dL_law_1419 : decode cL_law 1419 = .ok (.if_icmp .ge 15, 3) := by decide +kernel
theorem dL_law_1422 : decode cL_law 1422 = .ok (.aload 10, 2) := by decide +kernel
theorem dL_law_1424 : decode cL_law 1424 = .ok (.iload 21, 2) := by decide +kernel
theorem dL_law_1426 : decode cL_law 1426 = .ok (.iaload, 1) := by decide +kernel
theorem dL_law_1427 : decode cL_law 1427 = .ok (.i2l, 1) := by decide +kernel
theorem dL_law_1428 : decode cL_law 1428 = .ok (.invokestatic 90, 3) := by decide +kernel
theorem dL_law_1431 : decode cL_law 1431 = .ok (.goto 5, 3) := by decide +kernel
theorem dL_law_1434 : decode cL_law 1434 = .ok (.iload 22, 2) := by decide +kernel
theorem dL_law_1436 : decode cL_law 1436 = .ok (.istore 22, 2) := by decide +kernel
theorem dL_law_1438 : decode cL_law 1438 = .ok (.aload_n 1, 1) := by decide +kernel
theorem dL_law_1439 : decode cL_law 1439 = .ok (.invokevirtual 165, 3) := by decide +kernel
theorem dL_law_1442 : decode cL_law 1442 = .ok (.aload 8, 2) := by decide +kernel
theorem dL_law_1444 : decode cL_law 1444 = .ok (.iconst 0, 1) := by decide +kernel
theorem dL_law_1445 : decode cL_law 1445 = .ok (.iaload, 1) := by decide +kernel
theorem dL_law_1446 : decode cL_law 1446 = .ok (.bipush 25, 2) := by decide +kernel
theorem dL_law_1448 : decode cL_law 1448 = .ok (.ishr, 1) := by decide +kernel
theorem dL_law_1449 : decode cL_law 1449 = .ok (.if_icmp .ne 7, 3) := by decide +kernel
theorem dL_law_1452 : decode cL_law 1452 = .ok (.iconst 1, 1) := by decide +kernel
theorem dL_law_1453 : decode cL_law 1453 = .ok (.goto 4, 3) := by decide +kernel
theorem dL_law_1456 : decode cL_law 1456 = .ok (.iconst 0, 1) := by decide +kernel
theorem dL_law_1457 : decode cL_law 1457 = .ok (.istore 15, 2) := by decide +kernel
theorem dL_law_1459 : decode cL_law 1459 = .ok (.aload 8, 2) := by decide +kernel
theorem dL_law_1461 : decode cL_law 1461 = .ok (.iconst 0, 1) := by decide +kernel
theorem dL_law_1462 : decode cL_law 1462 = .ok (.iconst 0, 1) := by decide +kernel
theorem dL_law_1463 : decode cL_law 1463 = .ok (.iastore, 1) := by decide +kernel
theorem dL_law_1464 : decode cL_law 1464 = .ok (.aload 8, 2) := by decide +kernel
theorem dL_law_1466 : decode cL_law 1466 = .ok (.iload 22, 2) := by decide +kernel
theorem dL_law_1468 : decode cL_law 1468 = .ok (.iconst 1, 1) := by decide +kernel
theorem dL_law_1469 : decode cL_law 1469 = .ok (.iadd, 1) := by decide +kernel
theorem dL_law_1470 : decode cL_law 1470 = .ok (.iaload, 1) := by decide +kernel
theorem dL_law_1471 : decode cL_law 1471 = .ok (.istore 23, 2) := by decide +kernel
theorem dL_law_1473 : decode cL_law 1473 = .ok (.iconst 0, 1) := by decide +kernel
theorem dL_law_1474 : decode cL_law 1474 = .ok (.istore 24, 2) := by decide +kernel
theorem dL_law_1476 : decode cL_law 1476 = .ok (.iload 24, 2) := by decide +kernel
theorem dL_law_1478 : decode cL_law 1478 = .ok (.iload 23, 2) := by decide +kernel
theorem dL_law_1480 : decode cL_law 1480 = .ok (.bipush 25, 2) := by decide +kernel
theorem dL_law_1482 : decode cL_law 1482 = .ok (.ishr, 1) := by decide +kernel
theorem dL_law_1483 : decode cL_law 1483 = .ok (.if_icmp .ge 37, 3) := by decide +kernel
theorem dL_law_1486 : decode cL_law 1486 = .ok (.iload 15, 2) := by decide +kernel
theorem dL_law_1488 : decode cL_law 1488 = .ok (.ifCond .eq 32, 3) := by decide +kernel
theorem dL_law_1491 : decode cL_law 1491 = .ok (.aload_n 1, 1) := by decide +kernel
theorem dL_law_1492 : decode cL_law 1492 = .ok (.iload 23, 2) := by decide +kernel
theorem dL_law_1494 : decode cL_law 1494 = .ok (.iload 24, 2) := by decide +kernel
theorem dL_law_1496 : decode cL_law 1496 = .ok (.invokestatic 28, 3) := by decide +kernel
theorem dL_law_1499 : decode cL_law 1499 = .ok (.invokevirtual 47, 3) := by decide +kernel
theorem dL_law_1502 : decode cL_law 1502 = .ok (.iload 24, 2) := by decide +kernel
theorem dL_law_1504 : decode cL_law 1504 = .ok (.if_icmp .le 7, 3) := by decide +kernel
theorem dL_law_1507 : decode cL_law 1507 = .ok (.iconst 1, 1) := by decide +kernel
theorem dL_law_1508 : decode cL_law 1508 = .ok (.goto 4, 3) := by decide +kernel
theorem dL_law_1511 : decode cL_law 1511 = .ok (.iconst 0, 1) := by decide +kernel
theorem dL_law_1512 : decode cL_law 1512 = .ok (.istore 15, 2) := by decide +kernel
theorem dL_law_1514 : decode cL_law 1514 = .ok (.iinc 24 1, 3) := by decide +kernel
theorem dL_law_1517 : decode cL_law 1517 = .ok (.goto (-41), 3) := by decide +kernel
theorem dL_law_1520 : decode cL_law 1520 = .ok (.aload 8, 2) := by decide +kernel
theorem dL_law_1522 : decode cL_law 1522 = .ok (.iconst 0, 1) := by decide +kernel
theorem dL_law_1523 : decode cL_law 1523 = .ok (.iload 23, 2) := by decide +kernel
theorem dL_law_1525 : decode cL_law 1525 = .ok (.iastore, 1) := by decide +kernel
theorem dL_law_1526 : decode cL_law 1526 = .ok (.iconst 5, 1) := by decide +kernel
theorem dL_law_1527 : decode cL_law 1527 = .ok (.iload 21, 2) := by decide +kernel
theorem dL_law_1529 : decode cL_law 1529 = .ok (.imul, 1) := by decide +kernel
theorem dL_law_1530 : decode cL_law 1530 = .ok (.istore 23, 2) := by decide +kernel
theorem dL_law_1532 : decode cL_law 1532 = .ok (.aload_n 2, 1) := by decide +kernel
theorem dL_law_1533 : decode cL_law 1533 = .ok (.iconst 1, 1) := by decide +kernel
theorem dL_law_1534 : decode cL_law 1534 = .ok (.iaload, 1) := by decide +kernel
theorem dL_law_1535 : decode cL_law 1535 = .ok (.ifCond .le 64, 3) := by decide +kernel
theorem dL_law_1538 : decode cL_law 1538 = .ok (.aload_n 2, 1) := by decide +kernel
theorem dL_law_1539 : decode cL_law 1539 = .ok (.iconst 0, 1) := by decide +kernel
theorem dL_law_1540 : decode cL_law 1540 = .ok (.iaload, 1) := by decide +kernel
theorem dL_law_1541 : decode cL_law 1541 = .ok (.ifCond .le 58, 3) := by decide +kernel
theorem dL_law_1544 : decode cL_law 1544 = .ok (.aload 9, 2) := by decide +kernel
theorem dL_law_1546 : decode cL_law 1546 = .ok (.iload 23, 2) := by decide +kernel
theorem dL_law_1548 : decode cL_law 1548 = .ok (.iconst 2, 1) := by decide +kernel
theorem dL_law_1549 : decode cL_law 1549 = .ok (.iadd, 1) := by decide +kernel
theorem dL_law_1550 : decode cL_law 1550 = .ok (.iaload, 1) := by decide +kernel
theorem dL_law_1551 : decode cL_law 1551 = .ok (.ifCond .ge 48, 3) := by decide +kernel
theorem dL_law_1554 : decode cL_law 1554 = .ok (.aload 9, 2) := by decide +kernel
theorem dL_law_1556 : decode cL_law 1556 = .ok (.iload 23, 2) := by decide +kernel
theorem dL_law_1558 : decode cL_law 1558 = .ok (.iconst 3, 1) := by decide +kernel
theorem dL_law_1559 : decode cL_law 1559 = .ok (.iadd, 1) := by decide +kernel
theorem dL_law_1560 : decode cL_law 1560 = .ok (.iaload, 1) := by decide +kernel
theorem dL_law_1561 : decode cL_law 1561 = .ok (.ifCond .ge 38, 3) := by decide +kernel
theorem dL_law_1564 : decode cL_law 1564 = .ok (.aload 9, 2) := by decide +kernel
theorem dL_law_1566 : decode cL_law 1566 = .ok (.iload 23, 2) := by decide +kernel
theorem dL_law_1568 : decode cL_law 1568 = .ok (.iconst 1, 1) := by decide +kernel
theorem dL_law_1569 : decode cL_law 1569 = .ok (.iadd, 1) := by decide +kernel
theorem dL_law_1570 : decode cL_law 1570 = .ok (.iaload, 1) := by decide +kernel
theorem dL_law_1571 : decode cL_law 1571 = .ok (.aload 7, 2) := by decide +kernel
theorem dL_law_1573 : decode cL_law 1573 = .ok (.iconst 2, 1) := by decide +kernel
theorem dL_law_1574 : decode cL_law 1574 = .ok (.iload 22, 2) := by decide +kernel
theorem dL_law_1576 : decode cL_law 1576 = .ok (.imul, 1) := by decide +kernel
theorem dL_law_1577 : decode cL_law 1577 = .ok (.iaload, 1) := by decide +kernel
theorem dL_law_1578 : decode cL_law 1578 = .ok (.if_icmp .ne 21, 3) := by decide +kernel
theorem dL_law_1581 : decode cL_law 1581 = .ok (.aload 10, 2) := by decide +kernel
theorem dL_law_1583 : decode cL_law 1583 = .ok (.iload 21, 2) := by decide +kernel
theorem dL_law_1585 : decode cL_law 1585 = .ok (.iaload, 1) := by decide +kernel
theorem dL_law_1586 : decode cL_law 1586 = .ok (.i2l, 1) := by decide +kernel
theorem dL_law_1587 : decode cL_law 1587 = .ok (.invokestatic 90, 3) := by decide +kernel
theorem dL_law_1590 : decode cL_law 1590 = .ok (.iload 22, 2) := by decide +kernel
theorem dL_law_1592 : decode cL_law 1592 = .ok (.if_icmp .ne 7, 3) := by decide +kernel
theorem dL_law_1595 : decode cL_law 1595 = .ok (.iconst 1, 1) := by decide +kernel
theorem dL_law_1596 : decode cL_law 1596 = .ok (.goto 4, 3) := by decide +kernel
theorem dL_law_1599 : decode cL_law 1599 = .ok (.iconst 0, 1) := by decide +kernel
theorem dL_law_1600 : decode cL_law 1600 = .ok (.istore 24, 2) := by decide +kernel
theorem dL_law_1602 : decode cL_law 1602 = .ok (.iload 24, 2) := by decide +kernel
theorem dL_law_1604 : decode cL_law 1604 = .ok (.ifCond .eq 21, 3) := by decide +kernel
theorem dL_law_1607 : decode cL_law 1607 = .ok (.aload 8, 2) := by decide +kernel
theorem dL_law_1609 : decode cL_law 1609 = .ok (.iconst 0, 1) := by decide +kernel
theorem dL_law_1610 : decode cL_law 1610 = .ok (.iaload, 1) := by decide +kernel
theorem dL_law_1611 : decode cL_law 1611 = .ok (.aload 8, 2) := by decide +kernel
theorem dL_law_1613 : decode cL_law 1613 = .ok (.iload 22, 2) := by decide +kernel
theorem dL_law_1615 : decode cL_law 1615 = .ok (.iconst 1, 1) := by decide +kernel
theorem dL_law_1616 : decode cL_law 1616 = .ok (.iadd, 1) := by decide +kernel
theorem dL_law_1617 : decode cL_law 1617 = .ok (.iaload, 1) := by decide +kernel
theorem dL_law_1618 : decode cL_law 1618 = .ok (.if_icmp .ne 7, 3) := by decide +kernel
theorem dL_law_1621 : decode cL_law 1621 = .ok (.iconst 1, 1) := by decide +kernel
theorem dL_law_1622 : decode cL_law 1622 = .ok (.goto 4, 3) := by decide +kernel
theorem dL_law_1625 : decode cL_law 1625 = .ok (.iconst 0, 1) := by decide +kernel
theorem dL_law_1626 : decode cL_law 1626 = .ok (.istore 25, 2) := by decide +kernel
theorem dL_law_1628 : decode cL_law 1628 = .ok (.iload 15, 2) := by decide +kernel
theorem dL_law_1630 : decode cL_law 1630 = .ok (.ifCond .eq 58, 3) := by decide +kernel
theorem dL_law_1633 : decode cL_law 1633 = .ok (.aload_n 1, 1) := by decide +kernel
theorem dL_law_1634 : decode cL_law 1634 = .ok (.bipush 7, 2) := by decide +kernel
theorem dL_law_1636 : decode cL_law 1636 = .ok (.iload 21, 2) := by decide +kernel
theorem dL_law_1638 : decode cL_law 1638 = .ok (.iload 22, 2) := by decide +kernel
theorem dL_law_1640 : decode cL_law 1640 = .ok (.iconst 0, 1) := by decide +kernel
theorem dL_law_1641 : decode cL_law 1641 = .ok (.invokestatic 110, 3) := by decide +kernel
theorem dL_law_1644 : decode cL_law 1644 = .ok (.aload_n 2, 1) := by decide +kernel
theorem dL_law_1645 : decode cL_law 1645 = .ok (.iconst 1, 1) := by decide +kernel
theorem dL_law_1646 : decode cL_law 1646 = .ok (.iaload, 1) := by decide +kernel
theorem dL_law_1647 : decode cL_law 1647 = .ok (.ifCond .eq 9, 3) := by decide +kernel
theorem dL_law_1650 : decode cL_law 1650 = .ok (.aload_n 2, 1) := by decide +kernel
theorem dL_law_1651 : decode cL_law 1651 = .ok (.iconst 0, 1) := by decide +kernel
theorem dL_law_1652 : decode cL_law 1652 = .ok (.iaload, 1) := by decide +kernel
theorem dL_law_1653 : decode cL_law 1653 = .ok (.ifCond .ne 8, 3) := by decide +kernel
theorem dL_law_1656 : decode cL_law 1656 = .ok (.bipush (-11), 2) := by decide +kernel
theorem dL_law_1658 : decode cL_law 1658 = .ok (.goto 23, 3) := by decide +kernel
theorem dL_law_1661 : decode cL_law 1661 = .ok (.iload 24, 2) := by decide +kernel
theorem dL_law_1663 : decode cL_law 1663 = .ok (.ifCond .ne 8, 3) := by decide +kernel
theorem dL_law_1666 : decode cL_law 1666 = .ok (.bipush (-13), 2) := by decide +kernel
theorem dL_law_1668 : decode cL_law 1668 = .ok (.goto 13, 3) := by decide +kernel
theorem dL_law_1671 : decode cL_law 1671 = .ok (.iload 25, 2) := by decide +kernel
theorem dL_law_1673 : decode cL_law 1673 = .ok (.ifCond .eq 7, 3) := by decide +kernel
theorem dL_law_1676 : decode cL_law 1676 = .ok (.iconst 1, 1) := by decide +kernel
theorem dL_law_1677 : decode cL_law 1677 = .ok (.goto 4, 3) := by decide +kernel
theorem dL_law_1680 : decode cL_law 1680 = .ok (.iconst 0, 1) := by decide +kernel
theorem dL_law_1681 : decode cL_law 1681 = .ok (.if_icmp .ne 7, 3) := by decide +kernel
theorem dL_law_1684 : decode cL_law 1684 = .ok (.iconst 1, 1) := by decide +kernel
theorem dL_law_1685 : decode cL_law 1685 = .ok (.goto 4, 3) := by decide +kernel
theorem dL_law_1688 : decode cL_law 1688 = .ok (.iconst 0, 1) := by decide +kernel
theorem dL_law_1689 : decode cL_law 1689 = .ok (.istore 15, 2) := by decide +kernel
theorem dL_law_1691 : decode cL_law 1691 = .ok (.aload 10, 2) := by decide +kernel
theorem dL_law_1693 : decode cL_law 1693 = .ok (.iload 21, 2) := by decide +kernel
theorem dL_law_1695 : decode cL_law 1695 = .ok (.dup2, 1) := by decide +kernel
theorem dL_law_1696 : decode cL_law 1696 = .ok (.iaload, 1) := by decide +kernel
theorem dL_law_1697 : decode cL_law 1697 = .ok (.iload 25, 2) := by decide +kernel
theorem dL_law_1699 : decode cL_law 1699 = .ok (.ifCond .eq 10, 3) := by decide +kernel
theorem dL_law_1702 : decode cL_law 1702 = .ok (.iconst 1, 1) := by decide +kernel
theorem dL_law_1703 : decode cL_law 1703 = .ok (.iload 22, 2) := by decide +kernel
theorem dL_law_1705 : decode cL_law 1705 = .ok (.ishl, 1) := by decide +kernel
theorem dL_law_1706 : decode cL_law 1706 = .ok (.goto 4, 3) := by decide +kernel
theorem dL_law_1709 : decode cL_law 1709 = .ok (.iconst 0, 1) := by decide +kernel
theorem dL_law_1710 : decode cL_law 1710 = .ok (.ior, 1) := by decide +kernel
theorem dL_law_1711 : decode cL_law 1711 = .ok (.iastore, 1) := by decide +kernel
theorem dL_law_1712 : decode cL_law 1712 = .ok (.aload 12, 2) := by decide +kernel
theorem dL_law_1714 : decode cL_law 1714 = .ok (.bipush 6, 2) := by decide +kernel
theorem dL_law_1716 : decode cL_law 1716 = .ok (.iload 21, 2) := by decide +kernel
theorem dL_law_1718 : decode cL_law 1718 = .ok (.imul, 1) := by decide +kernel
theorem dL_law_1719 : decode cL_law 1719 = .ok (.iload 22, 2) := by decide +kernel
theorem dL_law_1721 : decode cL_law 1721 = .ok (.iadd, 1) := by decide +kernel
theorem dL_law_1722 : decode cL_law 1722 = .ok (.dup2, 1) := by decide +kernel
theorem dL_law_1723 : decode cL_law 1723 = .ok (.iaload, 1) := by decide +kernel
theorem dL_law_1724 : decode cL_law 1724 = .ok (.iload 24, 2) := by decide +kernel
theorem dL_law_1726 : decode cL_law 1726 = .ok (.ifCond .eq 12, 3) := by decide +kernel
theorem dL_law_1729 : decode cL_law 1729 = .ok (.iload 25, 2) := by decide +kernel
theorem dL_law_1731 : decode cL_law 1731 = .ok (.ifCond .ne 7, 3) := by decide +kernel
theorem dL_law_1734 : decode cL_law 1734 = .ok (.iconst 1, 1) := by decide +kernel
theorem dL_law_1735 : decode cL_law 1735 = .ok (.goto 4, 3) := by decide +kernel
theorem dL_law_1738 : decode cL_law 1738 = .ok (.iconst 0, 1) := by decide +kernel
theorem dL_law_1739 : decode cL_law 1739 = .ok (.iadd, 1) := by decide +kernel
theorem dL_law_1740 : decode cL_law 1740 = .ok (.iastore, 1) := by decide +kernel
theorem dL_law_1741 : decode cL_law 1741 = .ok (.goto 286, 3) := by decide +kernel
theorem dL_law_1744 : decode cL_law 1744 = .ok (.iload 18, 2) := by decide +kernel
theorem dL_law_1746 : decode cL_law 1746 = .ok (.bipush 22, 2) := by decide +kernel
theorem dL_law_1748 : decode cL_law 1748 = .ok (.if_icmp .ne 198, 3) := by decide +kernel
theorem dL_law_1751 : decode cL_law 1751 = .ok (.aload_n 2, 1) := by decide +kernel
theorem dL_law_1752 : decode cL_law 1752 = .ok (.iconst 1, 1) := by decide +kernel
theorem dL_law_1753 : decode cL_law 1753 = .ok (.iaload, 1) := by decide +kernel
theorem dL_law_1754 : decode cL_law 1754 = .ok (.ifCond .ne 7, 3) := by decide +kernel
theorem dL_law_1757 : decode cL_law 1757 = .ok (.iconst 0, 1) := by decide +kernel
theorem dL_law_1758 : decode cL_law 1758 = .ok (.goto 12, 3) := by decide +kernel
theorem dL_law_1761 : decode cL_law 1761 = .ok (.iload 19, 2) := by decide +kernel
theorem dL_law_1763 : decode cL_law 1763 = .ok (.bipush 6, 2) := by decide +kernel
theorem dL_law_1765 : decode cL_law 1765 = .ok (.idiv, 1) := by decide +kernel
theorem dL_law_1766 : decode cL_law 1766 = .ok (.aload_n 2, 1) := by decide +kernel
theorem dL_law_1767 : decode cL_law 1767 = .ok (.iconst 1, 1) := by decide +kernel
theorem dL_law_1768 : decode cL_law 1768 = .ok (.iaload, 1) := by decide +kernel
theorem dL_law_1769 : decode cL_law 1769 = .ok (.irem, 1) := by decide +kernel
theorem dL_law_1770 : decode cL_law 1770 = .ok (.istore 23, 2) := by decide +kernel
theorem dL_law_1772 : decode cL_law 1772 = .ok (.aload 10, 2) := by decide +kernel
theorem dL_law_1774 : decode cL_law 1774 = .ok (.iload 21, 2) := by decide +kernel
theorem dL_law_1776 : decode cL_law 1776 = .ok (.iaload, 1) := by decide +kernel
theorem dL_law_1777 : decode cL_law 1777 = .ok (.iload 22, 2) := by decide +kernel
theorem dL_law_1779 : decode cL_law 1779 = .ok (.ishr, 1) := by decide +kernel
theorem dL_law_1780 : decode cL_law 1780 = .ok (.iconst 1, 1) := by decide +kernel
theorem dL_law_1781 : decode cL_law 1781 = .ok (.iand, 1) := by decide +kernel
theorem dL_law_1782 : decode cL_law 1782 = .ok (.iconst 1, 1) := by decide +kernel
theorem dL_law_1783 : decode cL_law 1783 = .ok (.if_icmp .ne 57, 3) := by decide +kernel
theorem dL_law_1786 : decode cL_law 1786 = .ok (.aload 10, 2) := by decide +kernel
theorem dL_law_1788 : decode cL_law 1788 = .ok (.iload 23, 2) := by decide +kernel
theorem dL_law_1790 : decode cL_law 1790 = .ok (.iaload, 1) := by decide +kernel
theorem dL_law_1791 : decode cL_law 1791 = .ok (.aload 11, 2) := by decide +kernel
theorem dL_law_1793 : decode cL_law 1793 = .ok (.iload 23, 2) := by decide +kernel
theorem dL_law_1795 : decode cL_law 1795 = .ok (.iaload, 1) := by decide +kernel
theorem dL_law_1796 : decode cL_law 1796 = .ok (.ior, 1) := by decide +kernel
theorem dL_law_1797 : decode cL_law 1797 = .ok (.iload 22, 2) := by decide +kernel
theorem dL_law_1799 : decode cL_law 1799 = .ok (.ishr, 1) := by decide +kernel
theorem dL_law_1800 : decode cL_law 1800 = .ok (.iconst 1, 1) := by decide +kernel
theorem dL_law_1801 : decode cL_law 1801 = .ok (.iand, 1) := by decide +kernel
theorem dL_law_1802 : decode cL_law 1802 = .ok (.ifCond .ne 38, 3) := by decide +kernel
theorem dL_law_1805 : decode cL_law 1805 = .ok (.aload_n 2, 1) := by decide +kernel
theorem dL_law_1806 : decode cL_law 1806 = .ok (.iconst 1, 1) := by decide +kernel
theorem dL_law_1807 : decode cL_law 1807 = .ok (.iaload, 1) := by decide +kernel
theorem dL_law_1808 : decode cL_law 1808 = .ok (.ifCond .le 32, 3) := by decide +kernel
theorem dL_law_1811 : decode cL_law 1811 = .ok (.aload 9, 2) := by decide +kernel
theorem dL_law_1813 : decode cL_law 1813 = .ok (.iconst 5, 1) := by decide +kernel
theorem dL_law_1814 : decode cL_law 1814 = .ok (.iload 21, 2) := by decide +kernel
theorem dL_law_1816 : decode cL_law 1816 = .ok (.imul, 1) := by decide +kernel
theorem dL_law_1817 : decode cL_law 1817 = .ok (.iconst 1, 1) := by decide +kernel
theorem dL_law_1818 : decode cL_law 1818 = .ok (.iadd, 1) := by decide +kernel
theorem dL_law_1819 : decode cL_law 1819 = .ok (.iaload, 1) := by decide +kernel
theorem dL_law_1820 : decode cL_law 1820 = .ok (.aload 9, 2) := by decide +kernel
theorem dL_law_1822 : decode cL_law 1822 = .ok (.iconst 5, 1) := by decide +kernel
theorem dL_law_1823 : decode cL_law 1823 = .ok (.iload 23, 2) := by decide +kernel
theorem dL_law_1825 : decode cL_law 1825 = .ok (.imul, 1) := by decide +kernel
theorem dL_law_1826 : decode cL_law 1826 = .ok (.iconst 1, 1) := by decide +kernel
theorem dL_law_1827 : decode cL_law 1827 = .ok (.iadd, 1) := by decide +kernel
theorem dL_law_1828 : decode cL_law 1828 = .ok (.iaload, 1) := by decide +kernel
theorem dL_law_1829 : decode cL_law 1829 = .ok (.invokestatic 7, 3) := by decide +kernel
theorem dL_law_1832 : decode cL_law 1832 = .ok (.iconst 2, 1) := by decide +kernel
theorem dL_law_1833 : decode cL_law 1833 = .ok (.if_icmp .ge 7, 3) := by decide +kernel
theorem dL_law_1836 : decode cL_law 1836 = .ok (.iconst 1, 1) := by decide +kernel
theorem dL_law_1837 : decode cL_law 1837 = .ok (.goto 4, 3) := by decide +kernel
theorem dL_law_1840 : decode cL_law 1840 = .ok (.iconst 0, 1) := by decide +kernel
theorem dL_law_1841 : decode cL_law 1841 = .ok (.istore 24, 2) := by decide +kernel
theorem dL_law_1843 : decode cL_law 1843 = .ok (.aload 11, 2) := by decide +kernel
theorem dL_law_1845 : decode cL_law 1845 = .ok (.iload 23, 2) := by decide +kernel
theorem dL_law_1847 : decode cL_law 1847 = .ok (.dup2, 1) := by decide +kernel
theorem dL_law_1848 : decode cL_law 1848 = .ok (.iaload, 1) := by decide +kernel
theorem dL_law_1849 : decode cL_law 1849 = .ok (.iload 24, 2) := by decide +kernel
theorem dL_law_1851 : decode cL_law 1851 = .ok (.ifCond .eq 17, 3) := by decide +kernel
theorem dL_law_1854 : decode cL_law 1854 = .ok (.iload 21, 2) := by decide +kernel
theorem dL_law_1856 : decode cL_law 1856 = .ok (.iload 23, 2) := by decide +kernel
theorem dL_law_1858 : decode cL_law 1858 = .ok (.if_icmp .eq 10, 3) := by decide +kernel
theorem dL_law_1861 : decode cL_law 1861 = .ok (.iconst 1, 1) := by decide +kernel
theorem dL_law_1862 : decode cL_law 1862 = .ok (.iload 22, 2) := by decide +kernel
theorem dL_law_1864 : decode cL_law 1864 = .ok (.ishl, 1) := by decide +kernel
theorem dL_law_1865 : decode cL_law 1865 = .ok (.goto 4, 3) := by decide +kernel
theorem dL_law_1868 : decode cL_law 1868 = .ok (.iconst 0, 1) := by decide +kernel
theorem dL_law_1869 : decode cL_law 1869 = .ok (.ior, 1) := by decide +kernel
theorem dL_law_1870 : decode cL_law 1870 = .ok (.iastore, 1) := by decide +kernel
theorem dL_law_1871 : decode cL_law 1871 = .ok (.aload_n 1, 1) := by decide +kernel
theorem dL_law_1872 : decode cL_law 1872 = .ok (.bipush 8, 2) := by decide +kernel
theorem dL_law_1874 : decode cL_law 1874 = .ok (.iload 21, 2) := by decide +kernel
theorem dL_law_1876 : decode cL_law 1876 = .ok (.iload 23, 2) := by decide +kernel
theorem dL_law_1878 : decode cL_law 1878 = .ok (.iload 22, 2) := by decide +kernel
theorem dL_law_1880 : decode cL_law 1880 = .ok (.invokestatic 110, 3) := by decide +kernel
theorem dL_law_1883 : decode cL_law 1883 = .ok (.aload_n 2, 1) := by decide +kernel
theorem dL_law_1884 : decode cL_law 1884 = .ok (.iconst 1, 1) := by decide +kernel
theorem dL_law_1885 : decode cL_law 1885 = .ok (.iaload, 1) := by decide +kernel
theorem dL_law_1886 : decode cL_law 1886 = .ok (.ifCond .eq 9, 3) := by decide +kernel
theorem dL_law_1889 : decode cL_law 1889 = .ok (.aload_n 2, 1) := by decide +kernel
theorem dL_law_1890 : decode cL_law 1890 = .ok (.iconst 0, 1) := by decide +kernel
theorem dL_law_1891 : decode cL_law 1891 = .ok (.iaload, 1) := by decide +kernel
theorem dL_law_1892 : decode cL_law 1892 = .ok (.ifCond .ne 8, 3) := by decide +kernel
theorem dL_law_1895 : decode cL_law 1895 = .ok (.bipush (-11), 2) := by decide +kernel
theorem dL_law_1897 : decode cL_law 1897 = .ok (.goto 36, 3) := by decide +kernel
theorem dL_law_1900 : decode cL_law 1900 = .ok (.iload 21, 2) := by decide +kernel
theorem dL_law_1902 : decode cL_law 1902 = .ok (.iload 23, 2) := by decide +kernel
theorem dL_law_1904 : decode cL_law 1904 = .ok (.if_icmp .ne 8, 3) := by decide +kernel
theorem dL_law_1907 : decode cL_law 1907 = .ok (.bipush (-12), 2) := by decide +kernel
theorem dL_law_1909 : decode cL_law 1909 = .ok (.goto 24, 3) := by decide +kernel
theorem dL_law_1912 : decode cL_law 1912 = .ok (.iload 24, 2) := by decide +kernel
theorem dL_law_1914 : decode cL_law 1914 = .ok (.ifCond .eq 17, 3) := by decide +kernel
theorem dL_law_1917 : decode cL_law 1917 = .ok (.aload 11, 2) := by decide +kernel
theorem dL_law_1919 : decode cL_law 1919 = .ok (.aload 12, 2) := by decide +kernel
theorem dL_law_1921 : decode cL_law 1921 = .ok (.iload 23, 2) := by decide +kernel
theorem dL_law_1923 : decode cL_law 1923 = .ok (.iload 22, 2) := by decide +kernel
theorem dL_law_1925 : decode cL_law 1925 = .ok (.invokestatic 33, 3) := by decide +kernel
theorem dL_law_1928 : decode cL_law 1928 = .ok (.goto 5, 3) := by decide +kernel
theorem dL_law_1931 : decode cL_law 1931 = .ok (.bipush (-13), 2) := by decide +kernel
theorem dL_law_1933 : decode cL_law 1933 = .ok (.if_icmp .ne 7, 3) := by decide +kernel
theorem dL_law_1936 : decode cL_law 1936 = .ok (.iconst 1, 1) := by decide +kernel
theorem dL_law_1937 : decode cL_law 1937 = .ok (.goto 4, 3) := by decide +kernel
theorem dL_law_1940 : decode cL_law 1940 = .ok (.iconst 0, 1) := by decide +kernel
theorem dL_law_1941 : decode cL_law 1941 = .ok (.istore 15, 2) := by decide +kernel
theorem dL_law_1943 : decode cL_law 1943 = .ok (.goto 84, 3) := by decide +kernel
theorem dL_law_1946 : decode cL_law 1946 = .ok (.aload_n 2, 1) := by decide +kernel
theorem dL_law_1947 : decode cL_law 1947 = .ok (.iconst 3, 1) := by decide +kernel
theorem dL_law_1948 : decode cL_law 1948 = .ok (.iaload, 1) := by decide +kernel
theorem dL_law_1949 : decode cL_law 1949 = .ok (.sipush 4900, 3) := by decide +kernel
theorem dL_law_1952 : decode cL_law 1952 = .ok (.if_icmp .ge 75, 3) := by decide +kernel
theorem dL_law_1955 : decode cL_law 1955 = .ok (.iconst 1, 1) := by decide +kernel
theorem dL_law_1956 : decode cL_law 1956 = .ok (.iload 19, 2) := by decide +kernel
theorem dL_law_1958 : decode cL_law 1958 = .ok (.iload 19, 2) := by decide +kernel
theorem dL_law_1960 : decode cL_law 1960 = .ok (.iconst 4, 1) := by decide +kernel
theorem dL_law_1961 : decode cL_law 1961 = .ok (.irem, 1) := by decide +kernel
theorem dL_law_1962 : decode cL_law 1962 = .ok (.ifCond .ne 8, 3) := by decide +kernel
theorem dL_law_1965 : decode cL_law 1965 = .ok (.bipush 60, 2) := by decide +kernel
theorem dL_law_1967 : decode cL_law 1967 = .ok (.goto 5, 3) := by decide +kernel
theorem dL_law_1970 : decode cL_law 1970 = .ok (.bipush 6, 2) := by decide +kernel
theorem dL_law_1972 : decode cL_law 1972 = .ok (.irem, 1) := by decide +kernel
theorem dL_law_1973 : decode cL_law 1973 = .ok (.iadd, 1) := by decide +kernel
theorem dL_law_1974 : decode cL_law 1974 = .ok (.istore 23, 2) := by decide +kernel
theorem dL_law_1976 : decode cL_law 1976 = .ok (.iconst 0, 1) := by decide +kernel
theorem dL_law_1977 : decode cL_law 1977 = .ok (.istore 24, 2) := by decide +kernel
theorem dL_law_1979 : decode cL_law 1979 = .ok (.iconst 0, 1) := by decide +kernel
theorem dL_law_1980 : decode cL_law 1980 = .ok (.istore 25, 2) := by decide +kernel
theorem dL_law_1982 : decode cL_law 1982 = .ok (.iload 25, 2) := by decide +kernel
theorem dL_law_1984 : decode cL_law 1984 = .ok (.iload 23, 2) := by decide +kernel
theorem dL_law_1986 : decode cL_law 1986 = .ok (.if_icmp .ge 23, 3) := by decide +kernel
theorem dL_law_1989 : decode cL_law 1989 = .ok (.iload 24, 2) := by decide +kernel
theorem dL_law_1991 : decode cL_law 1991 = .ok (.aload_n 2, 1) := by decide +kernel
theorem dL_law_1992 : decode cL_law 1992 = .ok (.aload_n 3, 1) := by decide +kernel
theorem dL_law_1993 : decode cL_law 1993 = .ok (.aload 4, 2) := by decide +kernel
theorem dL_law_1995 : decode cL_law 1995 = .ok (.aload 9, 2) := by decide +kernel
theorem dL_law_1997 : decode cL_law 1997 = .ok (.invokestatic 168, 3) := by decide +kernel
theorem dL_law_2000 : decode cL_law 2000 = .ok (.iadd, 1) := by decide +kernel
theorem dL_law_2001 : decode cL_law 2001 = .ok (.istore 24, 2) := by decide +kernel
theorem dL_law_2003 : decode cL_law 2003 = .ok (.iinc 25 1, 3) := by decide +kernel
theorem dL_law_2006 : decode cL_law 2006 = .ok (.goto (-24), 3) := by decide +kernel
theorem dL_law_2009 : decode cL_law 2009 = .ok (.aload_n 1, 1) := by decide +kernel
theorem dL_law_2010 : decode cL_law 2010 = .ok (.iload 23, 2) := by decide +kernel
theorem dL_law_2012 : decode cL_law 2012 = .ok (.invokevirtual 172, 3) := by decide +kernel
theorem dL_law_2015 : decode cL_law 2015 = .ok (.iload 24, 2) := by decide +kernel
theorem dL_law_2017 : decode cL_law 2017 = .ok (.if_icmp .ne 7, 3) := by decide +kernel
theorem dL_law_2020 : decode cL_law 2020 = .ok (.iconst 1, 1) := by decide +kernel
theorem dL_law_2021 : decode cL_law 2021 = .ok (.goto 4, 3) := by decide +kernel
theorem dL_law_2024 : decode cL_law 2024 = .ok (.iconst 0, 1) := by decide +kernel
theorem dL_law_2025 : decode cL_law 2025 = .ok (.istore 15, 2) := by decide +kernel
theorem dL_law_2027 : decode cL_law 2027 = .ok (.iload 15, 2) := by decide +kernel
theorem dL_law_2029 : decode cL_law 2029 = .ok (.ifCond .eq 46, 3) := by decide +kernel
theorem dL_law_2032 : decode cL_law 2032 = .ok (.iload 16, 2) := by decide +kernel
theorem dL_law_2034 : decode cL_law 2034 = .ok (.iconst 4, 1) := by decide +kernel
theorem dL_law_2035 : decode cL_law 2035 = .ok (.irem, 1) := by decide +kernel
theorem dL_law_2036 : decode cL_law 2036 = .ok (.iconst 3, 1) := by decide +kernel
theorem dL_law_2037 : decode cL_law 2037 = .ok (.if_icmp .lt 34, 3) := by decide +kernel
theorem dL_law_2040 : decode cL_law 2040 = .ok (.aload_n 1, 1) := by decide +kernel
theorem dL_law_2041 : decode cL_law 2041 = .ok (.aload_n 2, 1) := by decide +kernel
theorem dL_law_2042 : decode cL_law 2042 = .ok (.aload_n 3, 1) := by decide +kernel
theorem dL_law_2043 : decode cL_law 2043 = .ok (.aload 4, 2) := by decide +kernel
theorem dL_law_2045 : decode cL_law 2045 = .ok (.aload 5, 2) := by decide +kernel
theorem dL_law_2047 : decode cL_law 2047 = .ok (.aload 6, 2) := by decide +kernel
theorem dL_law_2049 : decode cL_law 2049 = .ok (.aload 7, 2) := by decide +kernel
theorem dL_law_2051 : decode cL_law 2051 = .ok (.aload 8, 2) := by decide +kernel
theorem dL_law_2053 : decode cL_law 2053 = .ok (.aload 9, 2) := by decide +kernel
theorem dL_law_2055 : decode cL_law 2055 = .ok (.aload 10, 2) := by decide +kernel
theorem dL_law_2057 : decode cL_law 2057 = .ok (.aload 11, 2) := by decide +kernel
theorem dL_law_2059 : decode cL_law 2059 = .ok (.aload 12, 2) := by decide +kernel
theorem dL_law_2061 : decode cL_law 2061 = .ok (.aload 13, 2) := by decide +kernel
theorem dL_law_2063 : decode cL_law 2063 = .ok (.iload 19, 2) := by decide +kernel
theorem dL_law_2065 : decode cL_law 2065 = .ok (.invokestatic 146, 3) := by decide +kernel
theorem dL_law_2068 : decode cL_law 2068 = .ok (.ifCond .eq 7, 3) := by decide +kernel
theorem dL_law_2071 : decode cL_law 2071 = .ok (.iconst 1, 1) := by decide +kernel
theorem dL_law_2072 : decode cL_law 2072 = .ok (.goto 4, 3) := by decide +kernel
theorem dL_law_2075 : decode cL_law 2075 = .ok (.iconst 0, 1) := by decide +kernel
theorem dL_law_2076 : decode cL_law 2076 = .ok (.istore 15, 2) := by decide +kernel
theorem dL_law_2078 : decode cL_law 2078 = .ok (.iinc 16 1, 3) := by decide +kernel
theorem dL_law_2081 : decode cL_law 2081 = .ok (.goto (-1967), 3) := by decide +kernel
theorem dL_law_2084 : decode cL_law 2084 = .ok (.iload 15, 2) := by decide +kernel
theorem dL_law_2086 : decode cL_law 2086 = .ok (.ifCond .eq 38, 3) := by decide +kernel
theorem dL_law_2089 : decode cL_law 2089 = .ok (.aload_n 1, 1) := by decide +kernel
theorem dL_law_2090 : decode cL_law 2090 = .ok (.aload_n 2, 1) := by decide +kernel
theorem dL_law_2091 : decode cL_law 2091 = .ok (.aload_n 3, 1) := by decide +kernel
theorem dL_law_2092 : decode cL_law 2092 = .ok (.aload 4, 2) := by decide +kernel
theorem dL_law_2094 : decode cL_law 2094 = .ok (.aload 5, 2) := by decide +kernel
theorem dL_law_2096 : decode cL_law 2096 = .ok (.aload 6, 2) := by decide +kernel
theorem dL_law_2098 : decode cL_law 2098 = .ok (.aload 7, 2) := by decide +kernel
theorem dL_law_2100 : decode cL_law 2100 = .ok (.aload 8, 2) := by decide +kernel
theorem dL_law_2102 : decode cL_law 2102 = .ok (.aload 9, 2) := by decide +kernel
theorem dL_law_2104 : decode cL_law 2104 = .ok (.aload 10, 2) := by decide +kernel
theorem dL_law_2106 : decode cL_law 2106 = .ok (.aload 11, 2) := by decide +kernel
theorem dL_law_2108 : decode cL_law 2108 = .ok (.aload 12, 2) := by decide +kernel
theorem dL_law_2110 : decode cL_law 2110 = .ok (.aload 13, 2) := by decide +kernel
theorem dL_law_2112 : decode cL_law 2112 = .ok (.bipush 9, 2) := by decide +kernel
theorem dL_law_2114 : decode cL_law 2114 = .ok (.invokestatic 146, 3) := by decide +kernel
theorem dL_law_2117 : decode cL_law 2117 = .ok (.ifCond .eq 7, 3) := by decide +kernel
theorem dL_law_2120 : decode cL_law 2120 = .ok (.iconst 1, 1) := by decide +kernel
theorem dL_law_2121 : decode cL_law 2121 = .ok (.goto 4, 3) := by decide +kernel
theorem dL_law_2124 : decode cL_law 2124 = .ok (.iconst 0, 1) := by decide +kernel
theorem dL_law_2125 : decode cL_law 2125 = .ok (.ireturn, 1) := by decide +kernel
