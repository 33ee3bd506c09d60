theorem dL_law_613 : decode cL_law 613 = .ok (.bipush 11, 2) := by decide +kernel
theorem dL_law_615 : decode cL_law 615 = .ok (.if_icmp .ne 181, 3) := by decide +kernel
theorem dL_law_618 : decode cL_law 618 = .ok (.iload 9, 2) := by decide +kernel
theorem dL_law_620 : decode cL_law 620 = .ok (.iconst 1, 1) := by decide +kernel
theorem dL_law_621 : decode cL_law 621 = .ok (.ishr, 1) := by decide +kernel
theorem dL_law_622 : decode cL_law 622 = .ok (.iconst 3, 1) := by decide +kernel
theorem dL_law_623 : decode cL_law 623 = .ok (.irem, 1) := by decide +kernel
theorem dL_law_624 : decode cL_law 624 = .ok (.istore 14, 2) := by decide +kernel
theorem dL_law_626 : decode cL_law 626 = .ok (.iload 9, 2) := by decide +kernel
theorem dL_law_628 : decode cL_law 628 = .ok (.iconst 3, 1) := by decide +kernel
theorem dL_law_629 : decode cL_law 629 = .ok (.ishr, 1) := by decide +kernel
theorem dL_law_630 : decode cL_law 630 = .ok (.iconst 4, 1) := by decide +kernel
theorem dL_law_631 : decode cL_law 631 = .ok (.irem, 1) := by decide +kernel
theorem dL_law_632 : decode cL_law 632 = .ok (.iconst 3, 1) := by decide +kernel
theorem dL_law_633 : decode cL_law 633 = .ok (.if_icmp .ne 8, 3) := by decide +kernel
theorem dL_law_636 : decode cL_law 636 = .ok (.bipush 8, 2) := by decide +kernel
theorem dL_law_638 : decode cL_law 638 = .ok (.goto 9, 3) := by decide +kernel
theorem dL_law_641 : decode cL_law 641 = .ok (.iload 9, 2) := by decide +kernel
theorem dL_law_643 : decode cL_law 643 = .ok (.iconst 3, 1) := by decide +kernel
theorem dL_law_644 : decode cL_law 644 = .ok (.ishr, 1) := by decide +kernel
theorem dL_law_645 : decode cL_law 645 = .ok (.iconst 4, 1) := by decide +kernel
theorem dL_law_646 : decode cL_law 646 = .ok (.irem, 1) := by decide +kernel
theorem dL_law_647 : decode cL_law 647 = .ok (.istore 15, 2) := by decide +kernel
theorem dL_law_649 : decode cL_law 649 = .ok (.iload 9, 2) := by decide +kernel
theorem dL_law_651 : decode cL_law 651 = .ok (.iconst 5, 1) := by decide +kernel
theorem dL_law_652 : decode cL_law 652 = .ok (.ishr, 1) := by decide +kernel
theorem dL_law_653 : decode cL_law 653 = .ok (.iconst 4, 1) := by decide +kernel
theorem dL_law_654 : decode cL_law 654 = .ok (.irem, 1) := by decide +kernel
theorem dL_law_655 : decode cL_law 655 = .ok (.iconst 1, 1) := by decide +kernel
theorem dL_law_656 : decode cL_law 656 = .ok (.isub, 1) := by decide +kernel
theorem dL_law_657 : decode cL_law 657 = .ok (.istore 16, 2) := by decide +kernel
theorem dL_law_659 : decode cL_law 659 = .ok (.iload 9, 2) := by decide +kernel
theorem dL_law_661 : decode cL_law 661 = .ok (.bipush 7, 2) := by decide +kernel
theorem dL_law_663 : decode cL_law 663 = .ok (.ishr, 1) := by decide +kernel
theorem dL_law_664 : decode cL_law 664 = .ok (.iconst 4, 1) := by decide +kernel
theorem dL_law_665 : decode cL_law 665 = .ok (.irem, 1) := by decide +kernel
theorem dL_law_666 : decode cL_law 666 = .ok (.iconst 1, 1) := by decide +kernel
theorem dL_law_667 : decode cL_law 667 = .ok (.isub, 1) := by decide +kernel
theorem dL_law_668 : decode cL_law 668 = .ok (.istore 17, 2) := by decide +kernel
theorem dL_law_670 : decode cL_law 670 = .ok (.aload_n 1, 1) := by decide +kernel
theorem dL_law_671 : decode cL_law 671 = .ok (.bipush 11, 2) := by decide +kernel
theorem dL_law_673 : decode cL_law 673 = .ok (.iload 14, 2) := by decide +kernel
theorem dL_law_675 : decode cL_law 675 = .ok (.iload 15, 2) := by decide +kernel
theorem dL_law_677 : decode cL_law 677 = .ok (.iload 16, 2) := by decide +kernel
theorem dL_law_679 : decode cL_law 679 = .ok (.iload 17, 2) := by decide +kernel
theorem dL_law_681 : decode cL_law 681 = .ok (.iconst 0, 1) := by decide +kernel
theorem dL_law_682 : decode cL_law 682 = .ok (.invokestatic 93, 3) := by decide +kernel
theorem dL_law_685 : decode cL_law 685 = .ok (.istore 13, 2) := by decide +kernel
theorem dL_law_687 : decode cL_law 687 = .ok (.iload 13, 2) := by decide +kernel
theorem dL_law_689 : decode cL_law 689 = .ok (.ifCond .ge 41, 3) := by decide +kernel
theorem dL_law_692 : decode cL_law 692 = .ok (.iload 4, 2) := by decide +kernel
theorem dL_law_694 : decode cL_law 694 = .ok (.bipush 24, 2) := by decide +kernel
theorem dL_law_696 : decode cL_law 696 = .ok (.if_icmp .eq 34, 3) := by decide +kernel
theorem dL_law_699 : decode cL_law 699 = .ok (.iload 15, 2) := by decide +kernel
theorem dL_law_701 : decode cL_law 701 = .ok (.bipush 8, 2) := by decide +kernel
theorem dL_law_703 : decode cL_law 703 = .ok (.if_icmp .ne 31, 3) := by decide +kernel
theorem dL_law_706 : decode cL_law 706 = .ok (.iload 16, 2) := by decide +kernel
theorem dL_law_708 : decode cL_law 708 = .ok (.ifCond .lt 10, 3) := by decide +kernel
theorem dL_law_711 : decode cL_law 711 = .ok (.iload 16, 2) := by decide +kernel
theorem dL_law_713 : decode cL_law 713 = .ok (.iload 14, 2) := by decide +kernel
theorem dL_law_715 : decode cL_law 715 = .ok (.if_icmp .ne 19, 3) := by decide +kernel
theorem dL_law_718 : decode cL_law 718 = .ok (.iload 17, 2) := by decide +kernel
theorem dL_law_720 : decode cL_law 720 = .ok (.ifCond .lt 10, 3) := by decide +kernel
theorem dL_law_723 : decode cL_law 723 = .ok (.iload 17, 2) := by decide +kernel
theorem dL_law_725 : decode cL_law 725 = .ok (.iload 14, 2) := by decide +kernel
theorem dL_law_727 : decode cL_law 727 = .ok (.if_icmp .ne 7, 3) := by decide +kernel
theorem dL_law_730 : decode cL_law 730 = .ok (.iconst 1, 1) := by decide +kernel
theorem dL_law_731 : decode cL_law 731 = .ok (.goto 4, 3) := by decide +kernel
theorem dL_law_734 : decode cL_law 734 = .ok (.iconst 0, 1) := by decide +kernel
theorem dL_law_735 : decode cL_law 735 = .ok (.istore 5, 2) := by decide +kernel
theorem dL_law_737 : decode cL_law 737 = .ok (.iconst 0, 1) := by decide +kernel
theorem dL_law_738 : decode cL_law 738 = .ok (.istore 18, 2) := by decide +kernel
theorem dL_law_740 : decode cL_law 740 = .ok (.iload 18, 2) := by decide +kernel
theorem dL_law_742 : decode cL_law 742 = .ok (.iload_n 3, 1) := by decide +kernel
theorem dL_law_743 : decode cL_law 743 = .ok (.if_icmp .gt 53, 3) := by decide +kernel
theorem dL_law_746 : decode cL_law 746 = .ok (.iload 5, 2) := by decide +kernel
theorem dL_law_748 : decode cL_law 748 = .ok (.ifCond .eq 48, 3) := by decide +kernel
theorem dL_law_751 : decode cL_law 751 = .ok (.iload 13, 2) := by decide +kernel
theorem dL_law_753 : decode cL_law 753 = .ok (.ifCond .lt 43, 3) := by decide +kernel
theorem dL_law_756 : decode cL_law 756 = .ok (.aload_n 1, 1) := by decide +kernel
theorem dL_law_757 : decode cL_law 757 = .ok (.iload 13, 2) := by decide +kernel
theorem dL_law_759 : decode cL_law 759 = .ok (.iconst 0, 1) := by decide +kernel
theorem dL_law_760 : decode cL_law 760 = .ok (.iconst 0, 1) := by decide +kernel
theorem dL_law_761 : decode cL_law 761 = .ok (.iload 18, 2) := by decide +kernel
theorem dL_law_763 : decode cL_law 763 = .ok (.invokevirtual 86, 3) := by decide +kernel
theorem dL_law_766 : decode cL_law 766 = .ok (.aload_n 1, 1) := by decide +kernel
theorem dL_law_767 : decode cL_law 767 = .ok (.iload 14, 2) := by decide +kernel
theorem dL_law_769 : decode cL_law 769 = .ok (.iload 15, 2) := by decide +kernel
theorem dL_law_771 : decode cL_law 771 = .ok (.iload 16, 2) := by decide +kernel
theorem dL_law_773 : decode cL_law 773 = .ok (.iload 17, 2) := by decide +kernel
theorem dL_law_775 : decode cL_law 775 = .ok (.iload 18, 2) := by decide +kernel
theorem dL_law_777 : decode cL_law 777 = .ok (.invokevirtual 110, 3) := by decide +kernel
theorem dL_law_780 : decode cL_law 780 = .ok (.if_icmp .ne 7, 3) := by decide +kernel
theorem dL_law_783 : decode cL_law 783 = .ok (.iconst 1, 1) := by decide +kernel
theorem dL_law_784 : decode cL_law 784 = .ok (.goto 4, 3) := by decide +kernel
theorem dL_law_787 : decode cL_law 787 = .ok (.iconst 0, 1) := by decide +kernel
theorem dL_law_788 : decode cL_law 788 = .ok (.istore 5, 2) := by decide +kernel
theorem dL_law_790 : decode cL_law 790 = .ok (.iinc 18 1, 3) := by decide +kernel
theorem dL_law_793 : decode cL_law 793 = .ok (.goto (-53), 3) := by decide +kernel
theorem dL_law_796 : decode cL_law 796 = .ok (.iload 5, 2) := by decide +kernel
theorem dL_law_798 : decode cL_law 798 = .ok (.ifCond .eq 40, 3) := by decide +kernel
theorem dL_law_801 : decode cL_law 801 = .ok (.iload 13, 2) := by decide +kernel
theorem dL_law_803 : decode cL_law 803 = .ok (.bipush (-13), 2) := by decide +kernel
theorem dL_law_805 : decode cL_law 805 = .ok (.if_icmp .eq 15, 3) := by decide +kernel
theorem dL_law_808 : decode cL_law 808 = .ok (.iload 13, 2) := by decide +kernel
theorem dL_law_810 : decode cL_law 810 = .ok (.ifCond .lt 28, 3) := by decide +kernel
theorem dL_law_813 : decode cL_law 813 = .ok (.iload 13, 2) := by decide +kernel
theorem dL_law_815 : decode cL_law 815 = .ok (.bipush 24, 2) := by decide +kernel
theorem dL_law_817 : decode cL_law 817 = .ok (.if_icmp .ge 21, 3) := by decide +kernel
theorem dL_law_820 : decode cL_law 820 = .ok (.iload 13, 2) := by decide +kernel
theorem dL_law_822 : decode cL_law 822 = .ok (.ifCond .lt 12, 3) := by decide +kernel
theorem dL_law_825 : decode cL_law 825 = .ok (.aload_n 1, 1) := by decide +kernel
theorem dL_law_826 : decode cL_law 826 = .ok (.iload 13, 2) := by decide +kernel
theorem dL_law_828 : decode cL_law 828 = .ok (.invokestatic 114, 3) := by decide +kernel
theorem dL_law_831 : decode cL_law 831 = .ok (.ifCond .eq 7, 3) := by decide +kernel
theorem dL_law_834 : decode cL_law 834 = .ok (.iconst 1, 1) := by decide +kernel
theorem dL_law_835 : decode cL_law 835 = .ok (.goto 4, 3) := by decide +kernel
theorem dL_law_838 : decode cL_law 838 = .ok (.iconst 0, 1) := by decide +kernel
theorem dL_law_839 : decode cL_law 839 = .ok (.istore 5, 2) := by decide +kernel
theorem dL_law_841 : decode cL_law 841 = .ok (.iload 13, 2) := by decide +kernel
theorem dL_law_843 : decode cL_law 843 = .ok (.iload 4, 2) := by decide +kernel
theorem dL_law_845 : decode cL_law 845 = .ok (.if_icmp .lt 10, 3) := by decide +kernel
theorem dL_law_848 : decode cL_law 848 = .ok (.iload 13, 2) := by decide +kernel
theorem dL_law_850 : decode cL_law 850 = .ok (.iconst 1, 1) := by decide +kernel
theorem dL_law_851 : decode cL_law 851 = .ok (.iadd, 1) := by decide +kernel
theorem dL_law_852 : decode cL_law 852 = .ok (.goto 5, 3) := by decide +kernel
theorem dL_law_855 : decode cL_law 855 = .ok (.iload 4, 2) := by decide +kernel
theorem dL_law_857 : decode cL_law 857 = .ok (.istore 4, 2) := by decide +kernel
theorem dL_law_859 : decode cL_law 859 = .ok (.iload 5, 2) := by decide +kernel
theorem dL_law_861 : decode cL_law 861 = .ok (.ifCond .eq 162, 3) := by decide +kernel
theorem dL_law_864 : decode cL_law 864 = .ok (.iload 4, 2) := by decide +kernel
theorem dL_law_866 : decode cL_law 866 = .ok (.ifCond .le 157, 3) := by decide +kernel
theorem dL_law_869 : decode cL_law 869 = .ok (.iload 7, 2) := by decide +kernel
theorem dL_law_871 : decode cL_law 871 = .ok (.iconst 3, 1) := by decide +kernel
theorem dL_law_872 : decode cL_law 872 = .ok (.irem, 1) := by decide +kernel
theorem dL_law_873 : decode cL_law 873 = .ok (.iconst 2, 1) := by decide +kernel
theorem dL_law_874 : decode cL_law 874 = .ok (.if_icmp .ne 149, 3) := by decide +kernel
theorem dL_law_877 : decode cL_law 877 = .ok (.iload 9, 2) := by decide +kernel
theorem dL_law_879 : decode cL_law 879 = .ok (.iconst 2, 1) := by decide +kernel
theorem dL_law_880 : decode cL_law 880 = .ok (.ishr, 1) := by decide +kernel
theorem dL_law_881 : decode cL_law 881 = .ok (.iload 4, 2) := by decide +kernel
theorem dL_law_883 : decode cL_law 883 = .ok (.irem, 1) := by decide +kernel
theorem dL_law_884 : decode cL_law 884 = .ok (.istore 14, 2) := by decide +kernel
theorem dL_law_886 : decode cL_law 886 = .ok (.iload 9, 2) := by decide +kernel
theorem dL_law_888 : decode cL_law 888 = .ok (.bipush 7, 2) := by decide +kernel
theorem dL_law_890 : decode cL_law 890 = .ok (.ishr, 1) := by decide +kernel
theorem dL_law_891 : decode cL_law 891 = .ok (.iconst 1, 1) := by decide +kernel
theorem dL_law_892 : decode cL_law 892 = .ok (.iand, 1) := by decide +kernel
theorem dL_law_893 : decode cL_law 893 = .ok (.iconst 1, 1) := by decide +kernel
theorem dL_law_894 : decode cL_law 894 = .ok (.if_icmp .ne 7, 3) := by decide +kernel
theorem dL_law_897 : decode cL_law 897 = .ok (.iconst 1, 1) := by decide +kernel
theorem dL_law_898 : decode cL_law 898 = .ok (.goto 4, 3) := by decide +kernel
theorem dL_law_901 : decode cL_law 901 = .ok (.iconst 0, 1) := by decide +kernel
theorem dL_law_902 : decode cL_law 902 = .ok (.istore 15, 2) := by decide +kernel
theorem dL_law_904 : decode cL_law 904 = .ok (.aload_n 1, 1) := by decide +kernel
theorem dL_law_905 : decode cL_law 905 = .ok (.iload 14, 2) := by decide +kernel
theorem dL_law_907 : decode cL_law 907 = .ok (.iload 15, 2) := by decide +kernel
theorem dL_law_909 : decode cL_law 909 = .ok (.invokestatic 118, 3) := by decide +kernel
theorem dL_law_912 : decode cL_law 912 = .ok (.ifCond .eq 45, 3) := by decide +kernel
theorem dL_law_915 : decode cL_law 915 = .ok (.aload_n 1, 1) := by decide +kernel
theorem dL_law_916 : decode cL_law 916 = .ok (.iload 14, 2) := by decide +kernel
theorem dL_law_918 : decode cL_law 918 = .ok (.iload 15, 2) := by decide +kernel
theorem dL_law_920 : decode cL_law 920 = .ok (.invokevirtual 96, 3) := by decide +kernel
theorem dL_law_923 : decode cL_law 923 = .ok (.ifCond .eq 30, 3) := by decide +kernel
theorem dL_law_926 : decode cL_law 926 = .ok (.aload_n 1, 1) := by decide +kernel
theorem dL_law_927 : decode cL_law 927 = .ok (.iload 14, 2) := by decide +kernel
theorem dL_law_929 : decode cL_law 929 = .ok (.iload 15, 2) := by decide +kernel
theorem dL_law_931 : decode cL_law 931 = .ok (.iload 9, 2) := by decide +kernel
theorem dL_law_933 : decode cL_law 933 = .ok (.bipush 8, 2) := by decide +kernel
theorem dL_law_935 : decode cL_law 935 = .ok (.ishr, 1) := by decide +kernel
theorem dL_law_936 : decode cL_law 936 = .ok (.aload_n 1, 1) := by decide +kernel
theorem dL_law_937 : decode cL_law 937 = .ok (.iload 14, 2) := by decide +kernel
theorem dL_law_939 : decode cL_law 939 = .ok (.iload 15, 2) := by decide +kernel
theorem dL_law_941 : decode cL_law 941 = .ok (.invokevirtual 96, 3) := by decide +kernel
theorem dL_law_944 : decode cL_law 944 = .ok (.irem, 1) := by decide +kernel
theorem dL_law_945 : decode cL_law 945 = .ok (.aload_n 2, 1) := by decide +kernel
theorem dL_law_946 : decode cL_law 946 = .ok (.iload_n 3, 1) := by decide +kernel
theorem dL_law_947 : decode cL_law 947 = .ok (.invokestatic 122, 3) := by decide +kernel
theorem dL_law_950 : decode cL_law 950 = .ok (.ifCond .eq 7, 3) := by decide +kernel
theorem dL_law_953 : decode cL_law 953 = .ok (.iconst 1, 1) := by decide +kernel
theorem dL_law_954 : decode cL_law 954 = .ok (.goto 4, 3) := by decide +kernel
theorem dL_law_957 : decode cL_law 957 = .ok (.iconst 0, 1) := by decide +kernel
theorem dL_law_958 : decode cL_law 958 = .ok (.istore 5, 2) := by decide +kernel
theorem dL_law_960 : decode cL_law 960 = .ok (.iload 5, 2) := by decide +kernel
theorem dL_law_962 : decode cL_law 962 = .ok (.ifCond .eq 58, 3) := by decide +kernel
theorem dL_law_965 : decode cL_law 965 = .ok (.aload_n 1, 1) := by decide +kernel
theorem dL_law_966 : decode cL_law 966 = .ok (.iload 14, 2) := by decide +kernel
theorem dL_law_968 : decode cL_law 968 = .ok (.iconst 0, 1) := by decide +kernel
theorem dL_law_969 : decode cL_law 969 = .ok (.invokevirtual 96, 3) := by decide +kernel
theorem dL_law_972 : decode cL_law 972 = .ok (.ifCond .eq 12, 3) := by decide +kernel
theorem dL_law_975 : decode cL_law 975 = .ok (.aload_n 1, 1) := by decide +kernel
theorem dL_law_976 : decode cL_law 976 = .ok (.iload 14, 2) := by decide +kernel
theorem dL_law_978 : decode cL_law 978 = .ok (.invokevirtual 126, 3) := by decide +kernel
theorem dL_law_981 : decode cL_law 981 = .ok (.ifCond .ne 39, 3) := by decide +kernel
theorem dL_law_984 : decode cL_law 984 = .ok (.aload_n 1, 1) := by decide +kernel
theorem dL_law_985 : decode cL_law 985 = .ok (.iload 14, 2) := by decide +kernel
theorem dL_law_987 : decode cL_law 987 = .ok (.invokevirtual 126, 3) := by decide +kernel
theorem dL_law_990 : decode cL_law 990 = .ok (.ifCond .ge 7, 3) := by decide +kernel
theorem dL_law_993 : decode cL_law 993 = .ok (.iconst 1, 1) := by decide +kernel
theorem dL_law_994 : decode cL_law 994 = .ok (.goto 4, 3) := by decide +kernel
theorem dL_law_997 : decode cL_law 997 = .ok (.iconst 0, 1) := by decide +kernel
theorem dL_law_998 : decode cL_law 998 = .ok (.aload_n 1, 1) := by decide +kernel
theorem dL_law_999 : decode cL_law 999 = .ok (.iload 14, 2) := by decide +kernel
theorem dL_law_1001 : decode cL_law 1001 = .ok (.iconst 0, 1) := by decide +kernel
theorem dL_law_1002 : decode cL_law 1002 = .ok (.invokevirtual 129, 3) := by decide +kernel
theorem dL_law_1005 : decode cL_law 1005 = .ok (.ifCond .ge 7, 3) := by decide +kernel
theorem dL_law_1008 : decode cL_law 1008 = .ok (.iconst 1, 1) := by decide +kernel
theorem dL_law_1009 : decode cL_law 1009 = .ok (.goto 4, 3) := by decide +kernel
theorem dL_law_1012 : decode cL_law 1012 = .ok (.iconst 0, 1) := by decide +kernel
theorem dL_law_1013 : decode cL_law 1013 = .ok (.if_icmp .ne 7, 3) := by decide +kernel
theorem dL_law_1016 : decode cL_law 1016 = .ok (.iconst 1, 1) := by decide +kernel
theorem dL_law_1017 : decode cL_law 1017 = .ok (.goto 4, 3) := by decide +kernel
theorem dL_law_1020 : decode cL_law 1020 = .ok (.iconst 0, 1) := by decide +kernel
theorem dL_law_1021 : decode cL_law 1021 = .ok (.istore 5, 2) := by decide +kernel
theorem dL_law_1023 : decode cL_law 1023 = .ok (.iinc 7 1, 3) := by decide +kernel
theorem dL_law_1026 : decode cL_law 1026 = .ok (.goto (-974), 3) := by decide +kernel
theorem dL_law_1029 : decode cL_law 1029 = .ok (.iload 5, 2) := by decide +kernel
theorem dL_law_1031 : decode cL_law 1031 = .ok (.ireturn, 1) := by decide +kernel
