theorem dL_tapes_629 : decode cL_tapes 629 = .ok (.aload 5, 2) := by decide +kernel
theorem dL_tapes_631 : decode cL_tapes 631 = .ok (.iconst 2, 1) := by decide +kernel
theorem dL_tapes_632 : decode cL_tapes 632 = .ok (.iload 8, 2) := by decide +kernel
theorem dL_tapes_634 : decode cL_tapes 634 = .ok (.iadd, 1) := by decide +kernel
theorem dL_tapes_635 : decode cL_tapes 635 = .ok (.dup2, 1) := by decide +kernel
theorem dL_tapes_636 : decode cL_tapes 636 = .ok (.iaload, 1) := by decide +kernel
theorem dL_tapes_637 : decode cL_tapes 637 = .ok (.aload 4, 2) := by decide +kernel
theorem dL_tapes_639 : decode cL_tapes 639 = .ok (.iload 8, 2) := by decide +kernel
theorem dL_tapes_641 : decode cL_tapes 641 = .ok (.iload 6, 2) := by decide +kernel
theorem dL_tapes_643 : decode cL_tapes 643 = .ok (.invokestatic 125, 3) := by decide +kernel
theorem dL_tapes_646 : decode cL_tapes 646 = .ok (.iadd, 1) := by decide +kernel
theorem dL_tapes_647 : decode cL_tapes 647 = .ok (.iastore, 1) := by decide +kernel
theorem dL_tapes_648 : decode cL_tapes 648 = .ok (.aload 4, 2) := by decide +kernel
theorem dL_tapes_650 : decode cL_tapes 650 = .ok (.bipush 12, 2) := by decide +kernel
theorem dL_tapes_652 : decode cL_tapes 652 = .ok (.iload 6, 2) := by decide +kernel
theorem dL_tapes_654 : decode cL_tapes 654 = .ok (.iadd, 1) := by decide +kernel
theorem dL_tapes_655 : decode cL_tapes 655 = .ok (.iload 8, 2) := by decide +kernel
theorem dL_tapes_657 : decode cL_tapes 657 = .ok (.iastore, 1) := by decide +kernel
theorem dL_tapes_658 : decode cL_tapes 658 = .ok (.aload_n 0, 1) := by decide +kernel
theorem dL_tapes_659 : decode cL_tapes 659 = .ok (.iconst 1, 1) := by decide +kernel
theorem dL_tapes_660 : decode cL_tapes 660 = .ok (.iload 8, 2) := by decide +kernel
theorem dL_tapes_662 : decode cL_tapes 662 = .ok (.iload 6, 2) := by decide +kernel
theorem dL_tapes_664 : decode cL_tapes 664 = .ok (.invokestatic 121, 3) := by decide +kernel
theorem dL_tapes_667 : decode cL_tapes 667 = .ok (.iload 9, 2) := by decide +kernel
theorem dL_tapes_669 : decode cL_tapes 669 = .ok (.ifCond .eq 8, 3) := by decide +kernel
theorem dL_tapes_672 : decode cL_tapes 672 = .ok (.iload 7, 2) := by decide +kernel
theorem dL_tapes_674 : decode cL_tapes 674 = .ok (.ifCond .ne 8, 3) := by decide +kernel
theorem dL_tapes_677 : decode cL_tapes 677 = .ok (.bipush (-101), 2) := by decide +kernel
theorem dL_tapes_679 : decode cL_tapes 679 = .ok (.goto 22, 3) := by decide +kernel
theorem dL_tapes_682 : decode cL_tapes 682 = .ok (.iload 10, 2) := by decide +kernel
theorem dL_tapes_684 : decode cL_tapes 684 = .ok (.ifCond .eq 15, 3) := by decide +kernel
theorem dL_tapes_687 : decode cL_tapes 687 = .ok (.aload 4, 2) := by decide +kernel
theorem dL_tapes_689 : decode cL_tapes 689 = .ok (.iload 8, 2) := by decide +kernel
theorem dL_tapes_691 : decode cL_tapes 691 = .ok (.iload 6, 2) := by decide +kernel
theorem dL_tapes_693 : decode cL_tapes 693 = .ok (.invokestatic 125, 3) := by decide +kernel
theorem dL_tapes_696 : decode cL_tapes 696 = .ok (.goto 5, 3) := by decide +kernel
theorem dL_tapes_699 : decode cL_tapes 699 = .ok (.bipush (-102), 2) := by decide +kernel
theorem dL_tapes_701 : decode cL_tapes 701 = .ok (.if_icmp .ne 7, 3) := by decide +kernel
theorem dL_tapes_704 : decode cL_tapes 704 = .ok (.iconst 1, 1) := by decide +kernel
theorem dL_tapes_705 : decode cL_tapes 705 = .ok (.goto 4, 3) := by decide +kernel
theorem dL_tapes_708 : decode cL_tapes 708 = .ok (.iconst 0, 1) := by decide +kernel
theorem dL_tapes_709 : decode cL_tapes 709 = .ok (.ireturn, 1) := by decide +kernel
theorem dL_tapes_710 : decode cL_tapes 710 = .ok (.iload_n 1, 1) := by decide +kernel
theorem dL_tapes_711 : decode cL_tapes 711 = .ok (.iconst 4, 1) := by decide +kernel
theorem dL_tapes_712 : decode cL_tapes 712 = .ok (.if_icmp .ne 150, 3) := by decide +kernel
theorem dL_tapes_715 : decode cL_tapes 715 = .ok (.iload 9, 2) := by decide +kernel
theorem dL_tapes_717 : decode cL_tapes 717 = .ok (.ifCond .eq 18, 3) := by decide +kernel
theorem dL_tapes_720 : decode cL_tapes 720 = .ok (.aload 5, 2) := by decide +kernel
theorem dL_tapes_722 : decode cL_tapes 722 = .ok (.bipush 6, 2) := by decide +kernel
theorem dL_tapes_724 : decode cL_tapes 724 = .ok (.iload 8, 2) := by decide +kernel
theorem dL_tapes_726 : decode cL_tapes 726 = .ok (.iadd, 1) := by decide +kernel
theorem dL_tapes_727 : decode cL_tapes 727 = .ok (.iaload, 1) := by decide +kernel
theorem dL_tapes_728 : decode cL_tapes 728 = .ok (.ifCond .lt 7, 3) := by decide +kernel
theorem dL_tapes_731 : decode cL_tapes 731 = .ok (.iconst 1, 1) := by decide +kernel
theorem dL_tapes_732 : decode cL_tapes 732 = .ok (.goto 4, 3) := by decide +kernel
theorem dL_tapes_735 : decode cL_tapes 735 = .ok (.iconst 0, 1) := by decide +kernel
theorem dL_tapes_736 : decode cL_tapes 736 = .ok (.istore 10, 2) := by decide +kernel
theorem dL_tapes_738 : decode cL_tapes 738 = .ok (.iload 10, 2) := by decide +kernel
theorem dL_tapes_740 : decode cL_tapes 740 = .ok (.ifCond .eq 40, 3) := by decide +kernel
theorem dL_tapes_743 : decode cL_tapes 743 = .ok (.aload 4, 2) := by decide +kernel
theorem dL_tapes_745 : decode cL_tapes 745 = .ok (.aload 5, 2) := by decide +kernel
theorem dL_tapes_747 : decode cL_tapes 747 = .ok (.iload 8, 2) := by decide +kernel
theorem dL_tapes_749 : decode cL_tapes 749 = .ok (.aload 5, 2) := by decide +kernel
theorem dL_tapes_751 : decode cL_tapes 751 = .ok (.bipush 8, 2) := by decide +kernel
theorem dL_tapes_753 : decode cL_tapes 753 = .ok (.iload 8, 2) := by decide +kernel
theorem dL_tapes_755 : decode cL_tapes 755 = .ok (.iadd, 1) := by decide +kernel
theorem dL_tapes_756 : decode cL_tapes 756 = .ok (.iaload, 1) := by decide +kernel
theorem dL_tapes_757 : decode cL_tapes 757 = .ok (.iconst 0, 1) := by decide +kernel
theorem dL_tapes_758 : decode cL_tapes 758 = .ok (.invokestatic 18, 3) := by decide +kernel
theorem dL_tapes_761 : decode cL_tapes 761 = .ok (.aload 4, 2) := by decide +kernel
theorem dL_tapes_763 : decode cL_tapes 763 = .ok (.iload 8, 2) := by decide +kernel
theorem dL_tapes_765 : decode cL_tapes 765 = .ok (.aload 5, 2) := by decide +kernel
theorem dL_tapes_767 : decode cL_tapes 767 = .ok (.bipush 6, 2) := by decide +kernel
theorem dL_tapes_769 : decode cL_tapes 769 = .ok (.iload 8, 2) := by decide +kernel
theorem dL_tapes_771 : decode cL_tapes 771 = .ok (.iadd, 1) := by decide +kernel
theorem dL_tapes_772 : decode cL_tapes 772 = .ok (.iaload, 1) := by decide +kernel
theorem dL_tapes_773 : decode cL_tapes 773 = .ok (.invokestatic 125, 3) := by decide +kernel
theorem dL_tapes_776 : decode cL_tapes 776 = .ok (.iadd, 1) := by decide +kernel
theorem dL_tapes_777 : decode cL_tapes 777 = .ok (.goto 4, 3) := by decide +kernel
theorem dL_tapes_780 : decode cL_tapes 780 = .ok (.iconst 0, 1) := by decide +kernel
theorem dL_tapes_781 : decode cL_tapes 781 = .ok (.istore 11, 2) := by decide +kernel
theorem dL_tapes_783 : decode cL_tapes 783 = .ok (.iload 10, 2) := by decide +kernel
theorem dL_tapes_785 : decode cL_tapes 785 = .ok (.ifCond .eq 39, 3) := by decide +kernel
theorem dL_tapes_788 : decode cL_tapes 788 = .ok (.aload 4, 2) := by decide +kernel
theorem dL_tapes_790 : decode cL_tapes 790 = .ok (.bipush 12, 2) := by decide +kernel
theorem dL_tapes_792 : decode cL_tapes 792 = .ok (.aload 5, 2) := by decide +kernel
theorem dL_tapes_794 : decode cL_tapes 794 = .ok (.bipush 6, 2) := by decide +kernel
theorem dL_tapes_796 : decode cL_tapes 796 = .ok (.iload 8, 2) := by decide +kernel
theorem dL_tapes_798 : decode cL_tapes 798 = .ok (.iadd, 1) := by decide +kernel
theorem dL_tapes_799 : decode cL_tapes 799 = .ok (.iaload, 1) := by decide +kernel
theorem dL_tapes_800 : decode cL_tapes 800 = .ok (.iadd, 1) := by decide +kernel
theorem dL_tapes_801 : decode cL_tapes 801 = .ok (.iconst (-1), 1) := by decide +kernel
theorem dL_tapes_802 : decode cL_tapes 802 = .ok (.iastore, 1) := by decide +kernel
theorem dL_tapes_803 : decode cL_tapes 803 = .ok (.aload 5, 2) := by decide +kernel
theorem dL_tapes_805 : decode cL_tapes 805 = .ok (.bipush 6, 2) := by decide +kernel
theorem dL_tapes_807 : decode cL_tapes 807 = .ok (.iload 8, 2) := by decide +kernel
theorem dL_tapes_809 : decode cL_tapes 809 = .ok (.iadd, 1) := by decide +kernel
theorem dL_tapes_810 : decode cL_tapes 810 = .ok (.iconst (-1), 1) := by decide +kernel
theorem dL_tapes_811 : decode cL_tapes 811 = .ok (.iastore, 1) := by decide +kernel
theorem dL_tapes_812 : decode cL_tapes 812 = .ok (.aload 5, 2) := by decide +kernel
theorem dL_tapes_814 : decode cL_tapes 814 = .ok (.iconst 2, 1) := by decide +kernel
theorem dL_tapes_815 : decode cL_tapes 815 = .ok (.iload 8, 2) := by decide +kernel
theorem dL_tapes_817 : decode cL_tapes 817 = .ok (.iadd, 1) := by decide +kernel
theorem dL_tapes_818 : decode cL_tapes 818 = .ok (.dup2, 1) := by decide +kernel
theorem dL_tapes_819 : decode cL_tapes 819 = .ok (.iaload, 1) := by decide +kernel
theorem dL_tapes_820 : decode cL_tapes 820 = .ok (.iload 11, 2) := by decide +kernel
theorem dL_tapes_822 : decode cL_tapes 822 = .ok (.iadd, 1) := by decide +kernel
theorem dL_tapes_823 : decode cL_tapes 823 = .ok (.iastore, 1) := by decide +kernel
theorem dL_tapes_824 : decode cL_tapes 824 = .ok (.aload_n 0, 1) := by decide +kernel
theorem dL_tapes_825 : decode cL_tapes 825 = .ok (.iconst 0, 1) := by decide +kernel
theorem dL_tapes_826 : decode cL_tapes 826 = .ok (.iload 8, 2) := by decide +kernel
theorem dL_tapes_828 : decode cL_tapes 828 = .ok (.invokestatic 128, 3) := by decide +kernel
theorem dL_tapes_831 : decode cL_tapes 831 = .ok (.iload 9, 2) := by decide +kernel
theorem dL_tapes_833 : decode cL_tapes 833 = .ok (.ifCond .ne 8, 3) := by decide +kernel
theorem dL_tapes_836 : decode cL_tapes 836 = .ok (.bipush (-101), 2) := by decide +kernel
theorem dL_tapes_838 : decode cL_tapes 838 = .ok (.goto 15, 3) := by decide +kernel
theorem dL_tapes_841 : decode cL_tapes 841 = .ok (.iload 10, 2) := by decide +kernel
theorem dL_tapes_843 : decode cL_tapes 843 = .ok (.ifCond .eq 8, 3) := by decide +kernel
theorem dL_tapes_846 : decode cL_tapes 846 = .ok (.iload 11, 2) := by decide +kernel
theorem dL_tapes_848 : decode cL_tapes 848 = .ok (.goto 5, 3) := by decide +kernel
theorem dL_tapes_851 : decode cL_tapes 851 = .ok (.bipush (-102), 2) := by decide +kernel
theorem dL_tapes_853 : decode cL_tapes 853 = .ok (.if_icmp .ne 7, 3) := by decide +kernel
theorem dL_tapes_856 : decode cL_tapes 856 = .ok (.iconst 1, 1) := by decide +kernel
theorem dL_tapes_857 : decode cL_tapes 857 = .ok (.goto 4, 3) := by decide +kernel
theorem dL_tapes_860 : decode cL_tapes 860 = .ok (.iconst 0, 1) := by decide +kernel
theorem dL_tapes_861 : decode cL_tapes 861 = .ok (.ireturn, 1) := by decide +kernel
theorem dL_tapes_862 : decode cL_tapes 862 = .ok (.iload_n 1, 1) := by decide +kernel
theorem dL_tapes_863 : decode cL_tapes 863 = .ok (.iconst 5, 1) := by decide +kernel
theorem dL_tapes_864 : decode cL_tapes 864 = .ok (.if_icmp .ne 107, 3) := by decide +kernel
theorem dL_tapes_867 : decode cL_tapes 867 = .ok (.iload 9, 2) := by decide +kernel
theorem dL_tapes_869 : decode cL_tapes 869 = .ok (.ifCond .eq 18, 3) := by decide +kernel
theorem dL_tapes_872 : decode cL_tapes 872 = .ok (.aload 5, 2) := by decide +kernel
theorem dL_tapes_874 : decode cL_tapes 874 = .ok (.bipush 6, 2) := by decide +kernel
theorem dL_tapes_876 : decode cL_tapes 876 = .ok (.iload 8, 2) := by decide +kernel
theorem dL_tapes_878 : decode cL_tapes 878 = .ok (.iadd, 1) := by decide +kernel
theorem dL_tapes_879 : decode cL_tapes 879 = .ok (.iaload, 1) := by decide +kernel
theorem dL_tapes_880 : decode cL_tapes 880 = .ok (.ifCond .ge 7, 3) := by decide +kernel
theorem dL_tapes_883 : decode cL_tapes 883 = .ok (.iconst 1, 1) := by decide +kernel
theorem dL_tapes_884 : decode cL_tapes 884 = .ok (.goto 4, 3) := by decide +kernel
theorem dL_tapes_887 : decode cL_tapes 887 = .ok (.iconst 0, 1) := by decide +kernel
theorem dL_tapes_888 : decode cL_tapes 888 = .ok (.istore 10, 2) := by decide +kernel
theorem dL_tapes_890 : decode cL_tapes 890 = .ok (.iload 9, 2) := by decide +kernel
theorem dL_tapes_892 : decode cL_tapes 892 = .ok (.ifCond .eq 13, 3) := by decide +kernel
theorem dL_tapes_895 : decode cL_tapes 895 = .ok (.aload 5, 2) := by decide +kernel
theorem dL_tapes_897 : decode cL_tapes 897 = .ok (.iconst 4, 1) := by decide +kernel
theorem dL_tapes_898 : decode cL_tapes 898 = .ok (.iload 8, 2) := by decide +kernel
theorem dL_tapes_900 : decode cL_tapes 900 = .ok (.iadd, 1) := by decide +kernel
theorem dL_tapes_901 : decode cL_tapes 901 = .ok (.iaload, 1) := by decide +kernel
theorem dL_tapes_902 : decode cL_tapes 902 = .ok (.goto 4, 3) := by decide +kernel
theorem dL_tapes_905 : decode cL_tapes 905 = .ok (.iconst 0, 1) := by decide +kernel
theorem dL_tapes_906 : decode cL_tapes 906 = .ok (.istore 11, 2) := by decide +kernel
theorem dL_tapes_908 : decode cL_tapes 908 = .ok (.iload 10, 2) := by decide +kernel
theorem dL_tapes_910 : decode cL_tapes 910 = .ok (.ifCond .eq 23, 3) := by decide +kernel
theorem dL_tapes_913 : decode cL_tapes 913 = .ok (.aload 5, 2) := by decide +kernel
theorem dL_tapes_915 : decode cL_tapes 915 = .ok (.iconst 4, 1) := by decide +kernel
theorem dL_tapes_916 : decode cL_tapes 916 = .ok (.iload 8, 2) := by decide +kernel
theorem dL_tapes_918 : decode cL_tapes 918 = .ok (.iadd, 1) := by decide +kernel
theorem dL_tapes_919 : decode cL_tapes 919 = .ok (.iconst 0, 1) := by decide +kernel
theorem dL_tapes_920 : decode cL_tapes 920 = .ok (.iastore, 1) := by decide +kernel
theorem dL_tapes_921 : decode cL_tapes 921 = .ok (.aload 5, 2) := by decide +kernel
theorem dL_tapes_923 : decode cL_tapes 923 = .ok (.iconst 2, 1) := by decide +kernel
theorem dL_tapes_924 : decode cL_tapes 924 = .ok (.iload 8, 2) := by decide +kernel
theorem dL_tapes_926 : decode cL_tapes 926 = .ok (.iadd, 1) := by decide +kernel
theorem dL_tapes_927 : decode cL_tapes 927 = .ok (.dup2, 1) := by decide +kernel
theorem dL_tapes_928 : decode cL_tapes 928 = .ok (.iaload, 1) := by decide +kernel
theorem dL_tapes_929 : decode cL_tapes 929 = .ok (.bipush 50, 2) := by decide +kernel
theorem dL_tapes_931 : decode cL_tapes 931 = .ok (.iadd, 1) := by decide +kernel
theorem dL_tapes_932 : decode cL_tapes 932 = .ok (.iastore, 1) := by decide +kernel
theorem dL_tapes_933 : decode cL_tapes 933 = .ok (.aload_n 0, 1) := by decide +kernel
theorem dL_tapes_934 : decode cL_tapes 934 = .ok (.iconst 1, 1) := by decide +kernel
theorem dL_tapes_935 : decode cL_tapes 935 = .ok (.iload 8, 2) := by decide +kernel
theorem dL_tapes_937 : decode cL_tapes 937 = .ok (.invokestatic 128, 3) := by decide +kernel
theorem dL_tapes_940 : decode cL_tapes 940 = .ok (.iload 9, 2) := by decide +kernel
theorem dL_tapes_942 : decode cL_tapes 942 = .ok (.ifCond .ne 8, 3) := by decide +kernel
theorem dL_tapes_945 : decode cL_tapes 945 = .ok (.bipush (-101), 2) := by decide +kernel
theorem dL_tapes_947 : decode cL_tapes 947 = .ok (.goto 15, 3) := by decide +kernel
theorem dL_tapes_950 : decode cL_tapes 950 = .ok (.iload 10, 2) := by decide +kernel
theorem dL_tapes_952 : decode cL_tapes 952 = .ok (.ifCond .eq 8, 3) := by decide +kernel
theorem dL_tapes_955 : decode cL_tapes 955 = .ok (.iload 11, 2) := by decide +kernel
theorem dL_tapes_957 : decode cL_tapes 957 = .ok (.goto 5, 3) := by decide +kernel
theorem dL_tapes_960 : decode cL_tapes 960 = .ok (.bipush (-102), 2) := by decide +kernel
theorem dL_tapes_962 : decode cL_tapes 962 = .ok (.if_icmp .ne 7, 3) := by decide +kernel
theorem dL_tapes_965 : decode cL_tapes 965 = .ok (.iconst 1, 1) := by decide +kernel
theorem dL_tapes_966 : decode cL_tapes 966 = .ok (.goto 4, 3) := by decide +kernel
theorem dL_tapes_969 : decode cL_tapes 969 = .ok (.iconst 0, 1) := by decide +kernel
theorem dL_tapes_970 : decode cL_tapes 970 = .ok (.ireturn, 1) := by decide +kernel
theorem dL_tapes_971 : decode cL_tapes 971 = .ok (.iload_n 1, 1) := by decide +kernel
theorem dL_tapes_972 : decode cL_tapes 972 = .ok (.bipush 6, 2) := by decide +kernel
theorem dL_tapes_974 : decode cL_tapes 974 = .ok (.if_icmp .ne 94, 3) := by decide +kernel
theorem dL_tapes_977 : decode cL_tapes 977 = .ok (.iload 7, 2) := by decide +kernel
theorem dL_tapes_979 : decode cL_tapes 979 = .ok (.ifCond .eq 29, 3) := by decide +kernel
theorem dL_tapes_982 : decode cL_tapes 982 = .ok (.aload 4, 2) := by decide +kernel
theorem dL_tapes_984 : decode cL_tapes 984 = .ok (.bipush 12, 2) := by decide +kernel
theorem dL_tapes_986 : decode cL_tapes 986 = .ok (.iload 6, 2) := by decide +kernel
theorem dL_tapes_988 : decode cL_tapes 988 = .ok (.iadd, 1) := by decide +kernel
theorem dL_tapes_989 : decode cL_tapes 989 = .ok (.iaload, 1) := by decide +kernel
theorem dL_tapes_990 : decode cL_tapes 990 = .ok (.ifCond .ge 18, 3) := by decide +kernel
theorem dL_tapes_993 : decode cL_tapes 993 = .ok (.aload 4, 2) := by decide +kernel
theorem dL_tapes_995 : decode cL_tapes 995 = .ok (.bipush 16, 2) := by decide +kernel
theorem dL_tapes_997 : decode cL_tapes 997 = .ok (.iload 6, 2) := by decide +kernel
theorem dL_tapes_999 : decode cL_tapes 999 = .ok (.iadd, 1) := by decide +kernel
theorem dL_tapes_1000 : decode cL_tapes 1000 = .ok (.iaload, 1) := by decide +kernel
theorem dL_tapes_1001 : decode cL_tapes 1001 = .ok (.ifCond .ne 7, 3) := by decide +kernel
theorem dL_tapes_1004 : decode cL_tapes 1004 = .ok (.iconst 1, 1) := by decide +kernel
theorem dL_tapes_1005 : decode cL_tapes 1005 = .ok (.goto 4, 3) := by decide +kernel
theorem dL_tapes_1008 : decode cL_tapes 1008 = .ok (.iconst 0, 1) := by decide +kernel
theorem dL_tapes_1009 : decode cL_tapes 1009 = .ok (.istore 10, 2) := by decide +kernel
theorem dL_tapes_1011 : decode cL_tapes 1011 = .ok (.iload 10, 2) := by decide +kernel
theorem dL_tapes_1013 : decode cL_tapes 1013 = .ok (.ifCond .eq 12, 3) := by decide +kernel
theorem dL_tapes_1016 : decode cL_tapes 1016 = .ok (.aload 4, 2) := by decide +kernel
theorem dL_tapes_1018 : decode cL_tapes 1018 = .ok (.bipush 16, 2) := by decide +kernel
theorem dL_tapes_1020 : decode cL_tapes 1020 = .ok (.iload 6, 2) := by decide +kernel
theorem dL_tapes_1022 : decode cL_tapes 1022 = .ok (.iadd, 1) := by decide +kernel
theorem dL_tapes_1023 : decode cL_tapes 1023 = .ok (.iconst 1, 1) := by decide +kernel
theorem dL_tapes_1024 : decode cL_tapes 1024 = .ok (.iastore, 1) := by decide +kernel
theorem dL_tapes_1025 : decode cL_tapes 1025 = .ok (.aload_n 0, 1) := by decide +kernel
theorem dL_tapes_1026 : decode cL_tapes 1026 = .ok (.bipush 6, 2) := by decide +kernel
theorem dL_tapes_1028 : decode cL_tapes 1028 = .ok (.iload 6, 2) := by decide +kernel
theorem dL_tapes_1030 : decode cL_tapes 1030 = .ok (.invokestatic 128, 3) := by decide +kernel
theorem dL_tapes_1033 : decode cL_tapes 1033 = .ok (.iload 7, 2) := by decide +kernel
theorem dL_tapes_1035 : decode cL_tapes 1035 = .ok (.ifCond .ne 8, 3) := by decide +kernel
theorem dL_tapes_1038 : decode cL_tapes 1038 = .ok (.bipush (-101), 2) := by decide +kernel
theorem dL_tapes_1040 : decode cL_tapes 1040 = .ok (.goto 19, 3) := by decide +kernel
theorem dL_tapes_1043 : decode cL_tapes 1043 = .ok (.iload 10, 2) := by decide +kernel
theorem dL_tapes_1045 : decode cL_tapes 1045 = .ok (.ifCond .eq 12, 3) := by decide +kernel
theorem dL_tapes_1048 : decode cL_tapes 1048 = .ok (.aload_n 3, 1) := by decide +kernel
theorem dL_tapes_1049 : decode cL_tapes 1049 = .ok (.aload 4, 2) := by decide +kernel
theorem dL_tapes_1051 : decode cL_tapes 1051 = .ok (.invokestatic 131, 3) := by decide +kernel
theorem dL_tapes_1054 : decode cL_tapes 1054 = .ok (.goto 5, 3) := by decide +kernel
theorem dL_tapes_1057 : decode cL_tapes 1057 = .ok (.bipush (-102), 2) := by decide +kernel
theorem dL_tapes_1059 : decode cL_tapes 1059 = .ok (.if_icmp .ne 7, 3) := by decide +kernel
theorem dL_tapes_1062 : decode cL_tapes 1062 = .ok (.iconst 1, 1) := by decide +kernel
theorem dL_tapes_1063 : decode cL_tapes 1063 = .ok (.goto 4, 3) := by decide +kernel
theorem dL_tapes_1066 : decode cL_tapes 1066 = .ok (.iconst 0, 1) := by decide +kernel
theorem dL_tapes_1067 : decode cL_tapes 1067 = .ok (.ireturn, 1) := by decide +kernel
theorem dL_tapes_1068 : decode cL_tapes 1068 = .ok (.iconst 0, 1) := by decide +kernel
theorem dL_tapes_1069 : decode cL_tapes 1069 = .ok (.istore 10, 2) := by decide +kernel
theorem dL_tapes_1071 : decode cL_tapes 1071 = .ok (.iconst 0, 1) := by decide +kernel
theorem dL_tapes_1072 : decode cL_tapes 1072 = .ok (.istore 11, 2) := by decide +kernel
theorem dL_tapes_1074 : decode cL_tapes 1074 = .ok (.iload 11, 2) := by decide +kernel
theorem dL_tapes_1076 : decode cL_tapes 1076 = .ok (.aload_n 3, 1) := by decide +kernel
theorem dL_tapes_1077 : decode cL_tapes 1077 = .ok (.iconst 0, 1) := by decide +kernel
theorem dL_tapes_1078 : decode cL_tapes 1078 = .ok (.iaload, 1) := by decide +kernel
theorem dL_tapes_1079 : decode cL_tapes 1079 = .ok (.if_icmp .ge 48, 3) := by decide +kernel
theorem dL_tapes_1082 : decode cL_tapes 1082 = .ok (.aload 4, 2) := by decide +kernel
theorem dL_tapes_1084 : decode cL_tapes 1084 = .ok (.bipush 12, 2) := by decide +kernel
theorem dL_tapes_1086 : decode cL_tapes 1086 = .ok (.iload 11, 2) := by decide +kernel
theorem dL_tapes_1088 : decode cL_tapes 1088 = .ok (.iadd, 1) := by decide +kernel
theorem dL_tapes_1089 : decode cL_tapes 1089 = .ok (.iaload, 1) := by decide +kernel
theorem dL_tapes_1090 : decode cL_tapes 1090 = .ok (.ifCond .ge 27, 3) := by decide +kernel
theorem dL_tapes_1093 : decode cL_tapes 1093 = .ok (.aload 4, 2) := by decide +kernel
theorem dL_tapes_1095 : decode cL_tapes 1095 = .ok (.bipush 8, 2) := by decide +kernel
theorem dL_tapes_1097 : decode cL_tapes 1097 = .ok (.iload 11, 2) := by decide +kernel
theorem dL_tapes_1099 : decode cL_tapes 1099 = .ok (.iadd, 1) := by decide +kernel
theorem dL_tapes_1100 : decode cL_tapes 1100 = .ok (.iaload, 1) := by decide +kernel
theorem dL_tapes_1101 : decode cL_tapes 1101 = .ok (.iload 10, 2) := by decide +kernel
theorem dL_tapes_1103 : decode cL_tapes 1103 = .ok (.if_icmp .le 14, 3) := by decide +kernel
theorem dL_tapes_1106 : decode cL_tapes 1106 = .ok (.aload 4, 2) := by decide +kernel
theorem dL_tapes_1108 : decode cL_tapes 1108 = .ok (.bipush 8, 2) := by decide +kernel
theorem dL_tapes_1110 : decode cL_tapes 1110 = .ok (.iload 11, 2) := by decide +kernel
theorem dL_tapes_1112 : decode cL_tapes 1112 = .ok (.iadd, 1) := by decide +kernel
theorem dL_tapes_1113 : decode cL_tapes 1113 = .ok (.iaload, 1) := by decide +kernel
theorem dL_tapes_1114 : decode cL_tapes 1114 = .ok (.goto 5, 3) := by decide +kernel
theorem dL_tapes_1117 : decode cL_tapes 1117 = .ok (.iload 10, 2) := by decide +kernel
theorem dL_tapes_1119 : decode cL_tapes 1119 = .ok (.istore 10, 2) := by decide +kernel
theorem dL_tapes_1121 : decode cL_tapes 1121 = .ok (.iinc 11 1, 3) := by decide +kernel
theorem dL_tapes_1124 : decode cL_tapes 1124 = .ok (.goto (-50), 3) := by decide +kernel
theorem dL_tapes_1127 : decode cL_tapes 1127 = .ok (.iconst 2, 1) := by decide +kernel
theorem dL_tapes_1128 : decode cL_tapes 1128 = .ok (.iload 10, 2) := by decide +kernel
theorem dL_tapes_1130 : decode cL_tapes 1130 = .ok (.imul, 1) := by decide +kernel
theorem dL_tapes_1131 : decode cL_tapes 1131 = .ok (.iconst 5, 1) := by decide +kernel
theorem dL_tapes_1132 : decode cL_tapes 1132 = .ok (.aload_n 3, 1) := by decide +kernel
theorem dL_tapes_1133 : decode cL_tapes 1133 = .ok (.aload 4, 2) := by decide +kernel
theorem dL_tapes_1135 : decode cL_tapes 1135 = .ok (.invokestatic 131, 3) := by decide +kernel
theorem dL_tapes_1138 : decode cL_tapes 1138 = .ok (.imul, 1) := by decide +kernel
theorem dL_tapes_1139 : decode cL_tapes 1139 = .ok (.iadd, 1) := by decide +kernel
theorem dL_tapes_1140 : decode cL_tapes 1140 = .ok (.istore 11, 2) := by decide +kernel
theorem dL_tapes_1142 : decode cL_tapes 1142 = .ok (.iconst 0, 1) := by decide +kernel
theorem dL_tapes_1143 : decode cL_tapes 1143 = .ok (.istore 12, 2) := by decide +kernel
theorem dL_tapes_1145 : decode cL_tapes 1145 = .ok (.iload 12, 2) := by decide +kernel
theorem dL_tapes_1147 : decode cL_tapes 1147 = .ok (.iconst 4, 1) := by decide +kernel
theorem dL_tapes_1148 : decode cL_tapes 1148 = .ok (.if_icmp .ge 18, 3) := by decide +kernel
theorem dL_tapes_1151 : decode cL_tapes 1151 = .ok (.aload 4, 2) := by decide +kernel
theorem dL_tapes_1153 : decode cL_tapes 1153 = .ok (.bipush 16, 2) := by decide +kernel
theorem dL_tapes_1155 : decode cL_tapes 1155 = .ok (.iload 12, 2) := by decide +kernel
theorem dL_tapes_1157 : decode cL_tapes 1157 = .ok (.iadd, 1) := by decide +kernel
theorem dL_tapes_1158 : decode cL_tapes 1158 = .ok (.iconst 0, 1) := by decide +kernel
theorem dL_tapes_1159 : decode cL_tapes 1159 = .ok (.iastore, 1) := by decide +kernel
theorem dL_tapes_1160 : decode cL_tapes 1160 = .ok (.iinc 12 1, 3) := by decide +kernel
theorem dL_tapes_1163 : decode cL_tapes 1163 = .ok (.goto (-18), 3) := by decide +kernel
theorem dL_tapes_1166 : decode cL_tapes 1166 = .ok (.aload_n 0, 1) := by decide +kernel
theorem dL_tapes_1167 : decode cL_tapes 1167 = .ok (.invokevirtual 135, 3) := by decide +kernel
theorem dL_tapes_1170 : decode cL_tapes 1170 = .ok (.iload 11, 2) := by decide +kernel
theorem dL_tapes_1172 : decode cL_tapes 1172 = .ok (.if_icmp .ne 7, 3) := by decide +kernel
theorem dL_tapes_1175 : decode cL_tapes 1175 = .ok (.iconst 1, 1) := by decide +kernel
theorem dL_tapes_1176 : decode cL_tapes 1176 = .ok (.goto 4, 3) := by decide +kernel
theorem dL_tapes_1179 : decode cL_tapes 1179 = .ok (.iconst 0, 1) := by decide +kernel
theorem dL_tapes_1180 : decode cL_tapes 1180 = .ok (.ireturn, 1) := by decide +kernel
set_option maxRecDepth 20000 in
theorem ggL_works_L_some : GoodIn wsL_works wsL_some := goodIn_r _ [7] (by decide +kernel) (by decide +kernel)
set_option maxRecDepth 20000 in
theorem gL_works_L_some : GoodIn wsL_works (va_wsS RL 106 yL_some wsL_some) := goodIn_app (goodIn_of _ (by decide +kernel)) ggL_works_L_some
set_option maxRecDepth 20000 in
theorem ggL_works_L_start : GoodIn wsL_works wsL_start := goodIn_r _ [10] (by decide +kernel) (by decide +kernel)
set_option maxRecDepth 20000 in
theorem gL_works_L_start : GoodIn wsL_works (va_wsS RL 15 yL_start wsL_start) := goodIn_app (goodIn_of _ (by decide +kernel)) ggL_works_L_start
set_option maxRecDepth 20000 in
theorem ggL_works_L_runs : GoodIn wsL_works wsL_runs := goodIn_r _ [13, 8, 9, 6, 10, 14, 15, 16, 17, 18, 19] (by decide +kernel) (by decide +kernel)
set_option maxRecDepth 20000 in
theorem gL_works_L_runs : GoodIn wsL_works (va_wsS RL 139 yL_runs wsL_runs) := goodIn_app (goodIn_of _ (by decide +kernel)) ggL_works_L_runs
set_option maxRecDepth 20000 in
theorem ggL_works_L_written : GoodIn wsL_works wsL_written := goodIn_ca (goodIn_ca (goodIn_ca (goodIn_r _ [22, 23, 24, 25, 26, 27, 28, 29, 30, 31, 32, 33, 34, 35, 36, 37, 38, 39, 40, 41, 42, 43, 44, 45, 46, 47, 48, 49, 50, 51, 52, 53, 54, 55, 56, 57, 58, 59, 60, 61, 62, 63, 64, 65, 66, 67, 68, 69, 70, 71, 72, 73, 74, 75, 76, 77, 78, 79, 80, 81, 82, 83, 84, 85, 86, 87, 88, 89, 90, 91, 92, 93, 94, 95, 96, 97, 98, 99, 100, 101, 102, 103, 104, 105, 106, 107, 108, 109, 110, 111, 289, 290, 291, 292, 293, 294, 295, 296, 297, 298, 299, 300, 301, 302, 303, 304, 305, 306, 307, 308, 309] (by decide +kernel) (by decide +kernel)) (goodIn_sub (fun _ h => List.mem_cons_of_mem _ (List.mem_append_left _ (List.mem_append_left _ (List.mem_append_right _ h)))) (by decide +kernel))) (goodIn_sub (fun _ h => List.mem_cons_of_mem _ (List.mem_append_left _ (List.mem_append_right _ h))) (by decide +kernel))) (goodIn_sub (fun _ h => List.mem_cons_of_mem _ (List.mem_append_right _ h)) (by decide +kernel))
set_option maxRecDepth 20000 in
theorem gL_works_L_written : GoodIn wsL_works (va_wsS RL 143 yL_written wsL_written) := goodIn_app (goodIn_of _ (by decide +kernel)) ggL_works_L_written
set_option maxRecDepth 20000 in
theorem ggL_works_L_two : GoodIn wsL_works wsL_two := goodIn_ca (goodIn_ca (goodIn_r _ [114, 23, 25, 115, 116, 117, 29, 118, 39, 40, 33, 34, 119, 120, 121, 122, 123, 124, 54, 125, 126, 127, 128, 129, 130, 131, 132, 133, 134, 135, 35, 36, 37, 38, 41, 136, 49, 137, 138, 139, 88, 89, 90, 91, 108, 109, 110, 111, 140, 141, 142, 143, 42, 43, 44, 144, 145, 146, 45, 46, 47, 48, 50, 51, 52, 76, 77, 78, 79, 80, 81, 82, 83, 59, 60, 61, 62, 63, 64, 84, 85, 86, 87, 92, 93, 94, 95, 96, 70, 97, 98, 99, 100, 101, 102, 103, 69, 104, 105, 106, 107, 147, 148, 149, 150, 151, 152, 153, 154, 155, 156, 157, 158, 159, 160, 161, 162, 163, 164, 165, 166, 167, 168, 169, 170, 74, 75, 171, 172, 173, 174, 175, 176, 177, 178, 179, 180, 181, 182, 183, 184, 185, 186, 187, 188, 189, 190, 191, 192, 193, 194, 195, 196, 197, 198, 302, 303, 304, 305, 306, 307, 308, 309, 289, 290, 291, 292, 293, 294, 295, 296, 297, 298, 299, 300, 301, 310, 311, 312, 313, 314, 315, 316, 317, 318, 319, 320] (by decide +kernel) (by decide +kernel)) (goodIn_sub (fun _ h => List.mem_cons_of_mem _ (List.mem_append_right _ h)) (by decide +kernel))) (goodIn_sub (fun _ h => List.mem_cons_of_mem _ (List.mem_append_left _ (List.mem_append_right _ h))) (by decide +kernel))
set_option maxRecDepth 20000 in
theorem gL_works_L_two : GoodIn wsL_works (va_wsS RL 121 yL_two wsL_two) := goodIn_app (goodIn_of _ (by decide +kernel)) ggL_works_L_two
set_option maxRecDepth 20000 in
theorem ggL_works_L_listed : GoodIn wsL_works wsL_listed := goodIn_r _ [201] (by decide +kernel) (by decide +kernel)
set_option maxRecDepth 20000 in
theorem gL_works_L_listed : GoodIn wsL_works (va_wsS RL 22 yL_listed wsL_listed) := goodIn_app (goodIn_of _ (by decide +kernel)) ggL_works_L_listed
set_option maxRecDepth 20000 in
theorem ggL_works_L_put : GoodIn wsL_works wsL_put := goodIn_ca (goodIn_ca (goodIn_ca (goodIn_r _ [204, 23, 24, 25, 205, 206, 207, 29, 208, 31, 32, 33, 34, 209, 156, 119, 120, 121, 122, 39, 40, 123, 144, 145, 146, 210, 165, 211, 212, 168, 169, 63, 64, 213, 214, 215, 174, 216, 74, 75, 289, 290, 291, 292, 293, 294, 316, 317, 318, 319, 320, 302, 303, 304, 305, 306, 307, 308, 309] (by decide +kernel) (by decide +kernel)) (goodIn_sub (fun _ h => List.mem_cons_of_mem _ (List.mem_append_left _ (List.mem_append_left _ (List.mem_append_right _ h)))) (by decide +kernel))) (goodIn_sub (fun _ h => List.mem_cons_of_mem _ (List.mem_append_left _ (List.mem_append_right _ h))) (by decide +kernel))) (goodIn_sub (fun _ h => List.mem_cons_of_mem _ (List.mem_append_right _ h)) (by decide +kernel))
set_option maxRecDepth 20000 in
theorem gL_works_L_put : GoodIn wsL_works (va_wsS RL 148 yL_put wsL_put) := goodIn_app (goodIn_of _ (by decide +kernel)) ggL_works_L_put
set_option maxRecDepth 20000 in
theorem ggL_works_L_best : GoodIn wsL_works wsL_best := goodIn_r _ [219, 2, 199, 200, 6, 201, 220, 221, 222, 8, 9, 10, 14, 15, 16, 17, 18, 19] (by decide +kernel) (by decide +kernel)
set_option maxRecDepth 20000 in
theorem gL_works_L_best : GoodIn wsL_works (va_wsS RL 151 yL_best wsL_best) := goodIn_app (goodIn_of _ (by decide +kernel)) ggL_works_L_best
set_option maxRecDepth 20000 in
theorem ggL_works_L_one : GoodIn wsL_works wsL_one := goodIn_ca (goodIn_ca (goodIn_r _ [225, 23, 25, 226, 227, 228, 29, 229, 35, 36, 37, 38, 39, 40, 41, 42, 43, 44, 33, 34, 85, 49, 86, 87, 88, 89, 90, 91, 92, 93, 94, 54, 95, 96, 70, 97, 98, 99, 100, 101, 102, 103, 69, 136, 137, 138, 139, 108, 109, 110, 111, 230, 231, 232, 233, 234, 235, 236, 237, 151, 156, 45, 46, 47, 48, 50, 51, 52, 152, 153, 154, 155, 157, 158, 159, 160, 161, 162, 163, 164, 165, 166, 167, 168, 169, 170, 63, 64, 74, 75, 171, 172, 173, 174, 81, 82, 83, 59, 60, 61, 62, 84, 104, 105, 106, 175, 176, 177, 178, 179, 180, 181, 182, 183, 184, 185, 186, 187, 188, 189, 190, 191, 192, 193, 194, 195, 196, 197, 198, 76, 77, 78, 79, 80, 107, 238, 239, 240, 241, 242, 243, 244, 216, 245, 246, 247, 248, 249, 250, 251, 252, 253, 254, 255, 256, 257, 258, 259, 260, 261, 262, 263, 264, 265, 266, 267, 268, 269, 270, 271, 272, 273, 274, 275, 276, 277, 278, 279, 280, 281, 282, 283, 284, 119, 120, 121, 122, 123, 124, 125, 126, 127, 285, 286, 287, 288, 295, 296, 297, 298, 299, 300, 301, 302, 303, 304, 305, 306, 307, 308, 309, 289, 290, 291, 292, 293, 294, 310, 311, 312, 313, 314, 315, 316, 317, 318, 319, 320] (by decide +kernel) (by decide +kernel)) (goodIn_sub (fun _ h => List.mem_cons_of_mem _ (List.mem_append_right _ h)) (by decide +kernel))) (goodIn_sub (fun _ h => List.mem_cons_of_mem _ (List.mem_append_left _ (List.mem_append_right _ h))) (by decide +kernel))
set_option maxRecDepth 20000 in
theorem gL_works_L_one : GoodIn wsL_works (va_wsS RL 128 yL_one wsL_one) := goodIn_app (goodIn_of _ (by decide +kernel)) ggL_works_L_one
theorem dL_works_0 : decode cL_works 0 = .ok (.iload_n 2, 1) := by decide +kernel
theorem dL_works_1 : decode cL_works 1 = .ok (.iconst 3, 1) := by decide +kernel
theorem dL_works_2 : decode cL_works 2 = .ok (.ishr, 1) := by decide +kernel
theorem dL_works_3 : decode cL_works 3 = .ok (.aload_n 3, 1) := by decide +kernel
theorem dL_works_4 : decode cL_works 4 = .ok (.iconst 1, 1) := by decide +kernel
theorem dL_works_5 : decode cL_works 5 = .ok (.iaload, 1) := by decide +kernel
theorem dL_works_6 : decode cL_works 6 = .ok (.iload_n 2, 1) := by decide +kernel
theorem dL_works_7 : decode cL_works 7 = .ok (.bipush 7, 2) := by decide +kernel
theorem dL_works_9 : decode cL_works 9 = .ok (.ishr, 1) := by decide +kernel
theorem dL_works_10 : decode cL_works 10 = .ok (.bipush 9, 2) := by decide +kernel
theorem dL_works_12 : decode cL_works 12 = .ok (.invokestatic 106, 3) := by decide +kernel
theorem dL_works_15 : decode cL_works 15 = .ok (.ifCond .eq 9, 3) := by decide +kernel
theorem dL_works_18 : decode cL_works 18 = .ok (.aload_n 3, 1) := by decide +kernel
theorem dL_works_19 : decode cL_works 19 = .ok (.iconst 1, 1) := by decide +kernel
theorem dL_works_20 : decode cL_works 20 = .ok (.iaload, 1) := by decide +kernel
theorem dL_works_21 : decode cL_works 21 = .ok (.ifCond .ne 7, 3) := by decide +kernel
theorem dL_works_24 : decode cL_works 24 = .ok (.iconst 1, 1) := by decide +kernel
theorem dL_works_25 : decode cL_works 25 = .ok (.goto 4, 3) := by decide +kernel
theorem dL_works_28 : decode cL_works 28 = .ok (.iconst 0, 1) := by decide +kernel
theorem dL_works_29 : decode cL_works 29 = .ok (.iadd, 1) := by decide +kernel
theorem dL_works_30 : decode cL_works 30 = .ok (.invokestatic 106, 3) := by decide +kernel
theorem dL_works_33 : decode cL_works 33 = .ok (.istore 10, 2) := by decide +kernel
theorem dL_works_35 : decode cL_works 35 = .ok (.iload 10, 2) := by decide +kernel
theorem dL_works_37 : decode cL_works 37 = .ok (.aload_n 3, 1) := by decide +kernel
theorem dL_works_38 : decode cL_works 38 = .ok (.iconst 1, 1) := by decide +kernel
theorem dL_works_39 : decode cL_works 39 = .ok (.iaload, 1) := by decide +kernel
theorem dL_works_40 : decode cL_works 40 = .ok (.if_icmp .ge 7, 3) := by decide +kernel
theorem dL_works_43 : decode cL_works 43 = .ok (.iconst 1, 1) := by decide +kernel
theorem dL_works_44 : decode cL_works 44 = .ok (.goto 4, 3) := by decide +kernel
theorem dL_works_47 : decode cL_works 47 = .ok (.iconst 0, 1) := by decide +kernel
theorem dL_works_48 : decode cL_works 48 = .ok (.istore 11, 2) := by decide +kernel
theorem dL_works_50 : decode cL_works 50 = .ok (.iload 11, 2) := by decide +kernel
theorem dL_works_52 : decode cL_works 52 = .ok (.ifCond .eq 18, 3) := by decide +kernel
theorem dL_works_55 : decode cL_works 55 = .ok (.aload 6, 2) := by decide +kernel
theorem dL_works_57 : decode cL_works 57 = .ok (.bipush 6, 2) := by decide +kernel
theorem dL_works_59 : decode cL_works 59 = .ok (.iload 10, 2) := by decide +kernel
theorem dL_works_61 : decode cL_works 61 = .ok (.iadd, 1) := by decide +kernel
theorem dL_works_62 : decode cL_works 62 = .ok (.iaload, 1) := by decide +kernel
theorem dL_works_63 : decode cL_works 63 = .ok (.ifCond .lt 7, 3) := by decide +kernel
theorem dL_works_66 : decode cL_works 66 = .ok (.iconst 1, 1) := by decide +kernel
theorem dL_works_67 : decode cL_works 67 = .ok (.goto 4, 3) := by decide +kernel
theorem dL_works_70 : decode cL_works 70 = .ok (.iconst 0, 1) := by decide +kernel
theorem dL_works_71 : decode cL_works 71 = .ok (.istore 12, 2) := by decide +kernel
theorem dL_works_73 : decode cL_works 73 = .ok (.iload 12, 2) := by decide +kernel
theorem dL_works_75 : decode cL_works 75 = .ok (.ifCond .eq 14, 3) := by decide +kernel
theorem dL_works_78 : decode cL_works 78 = .ok (.aload 6, 2) := by decide +kernel
theorem dL_works_80 : decode cL_works 80 = .ok (.bipush 6, 2) := by decide +kernel
theorem dL_works_82 : decode cL_works 82 = .ok (.iload 10, 2) := by decide +kernel
theorem dL_works_84 : decode cL_works 84 = .ok (.iadd, 1) := by decide +kernel
theorem dL_works_85 : decode cL_works 85 = .ok (.iaload, 1) := by decide +kernel
theorem dL_works_86 : decode cL_works 86 = .ok (.goto 4, 3) := by decide +kernel
theorem dL_works_89 : decode cL_works 89 = .ok (.iconst 0, 1) := by decide +kernel
theorem dL_works_90 : decode cL_works 90 = .ok (.istore 13, 2) := by decide +kernel
theorem dL_works_92 : decode cL_works 92 = .ok (.iload_n 1, 1) := by decide +kernel
theorem dL_works_93 : decode cL_works 93 = .ok (.iconst 3, 1) := by decide +kernel
theorem dL_works_94 : decode cL_works 94 = .ok (.if_icmp .ge 223, 3) := by decide +kernel
theorem dL_works_97 : decode cL_works 97 = .ok (.iload_n 2, 1) := by decide +kernel
theorem dL_works_98 : decode cL_works 98 = .ok (.bipush 40, 2) := by decide +kernel
theorem dL_works_100 : decode cL_works 100 = .ok (.invokestatic 106, 3) := by decide +kernel
theorem dL_works_103 : decode cL_works 103 = .ok (.ifCond .ne 8, 3) := by decide +kernel
theorem dL_works_106 : decode cL_works 106 = .ok (.bipush 101, 2) := by decide +kernel
theorem dL_works_108 : decode cL_works 108 = .ok (.goto 11, 3) := by decide +kernel
theorem dL_works_111 : decode cL_works 111 = .ok (.iconst 1, 1) := by decide +kernel
theorem dL_works_112 : decode cL_works 112 = .ok (.iload_n 2, 1) := by decide +kernel
theorem dL_works_113 : decode cL_works 113 = .ok (.bipush 7, 2) := by decide +kernel
theorem dL_works_115 : decode cL_works 115 = .ok (.invokestatic 106, 3) := by decide +kernel
theorem dL_works_118 : decode cL_works 118 = .ok (.iadd, 1) := by decide +kernel
theorem dL_works_119 : decode cL_works 119 = .ok (.istore 14, 2) := by decide +kernel
theorem dL_works_121 : decode cL_works 121 = .ok (.iload 12, 2) := by decide +kernel
theorem dL_works_123 : decode cL_works 123 = .ok (.ifCond .eq 41, 3) := by decide +kernel
theorem dL_works_126 : decode cL_works 126 = .ok (.aload 5, 2) := by decide +kernel
theorem dL_works_128 : decode cL_works 128 = .ok (.iload 13, 2) := by decide +kernel
theorem dL_works_130 : decode cL_works 130 = .ok (.aload 4, 2) := by decide +kernel
theorem dL_works_132 : decode cL_works 132 = .ok (.bipush 20, 2) := by decide +kernel
theorem dL_works_134 : decode cL_works 134 = .ok (.iload 13, 2) := by decide +kernel
theorem dL_works_136 : decode cL_works 136 = .ok (.iadd, 1) := by decide +kernel
theorem dL_works_137 : decode cL_works 137 = .ok (.iaload, 1) := by decide +kernel
theorem dL_works_138 : decode cL_works 138 = .ok (.invokestatic 15, 3) := by decide +kernel
theorem dL_works_141 : decode cL_works 141 = .ok (.iload 14, 2) := by decide +kernel
theorem dL_works_143 : decode cL_works 143 = .ok (.iadd, 1) := by decide +kernel
theorem dL_works_144 : decode cL_works 144 = .ok (.aload 4, 2) := by decide +kernel
theorem dL_works_146 : decode cL_works 146 = .ok (.iload 13, 2) := by decide +kernel
theorem dL_works_148 : decode cL_works 148 = .ok (.iaload, 1) := by decide +kernel
theorem dL_works_149 : decode cL_works 149 = .ok (.aload 4, 2) := by decide +kernel
theorem dL_works_151 : decode cL_works 151 = .ok (.iconst 4, 1) := by decide +kernel
theorem dL_works_152 : decode cL_works 152 = .ok (.iload 13, 2) := by decide +kernel
theorem dL_works_154 : decode cL_works 154 = .ok (.iadd, 1) := by decide +kernel
theorem dL_works_155 : decode cL_works 155 = .ok (.iaload, 1) := by decide +kernel
theorem dL_works_156 : decode cL_works 156 = .ok (.imul, 1) := by decide +kernel
theorem dL_works_157 : decode cL_works 157 = .ok (.if_icmp .gt 7, 3) := by decide +kernel
theorem dL_works_160 : decode cL_works 160 = .ok (.iconst 1, 1) := by decide +kernel
theorem dL_works_161 : decode cL_works 161 = .ok (.goto 4, 3) := by decide +kernel
theorem dL_works_164 : decode cL_works 164 = .ok (.iconst 0, 1) := by decide +kernel
theorem dL_works_165 : decode cL_works 165 = .ok (.istore 15, 2) := by decide +kernel
theorem dL_works_167 : decode cL_works 167 = .ok (.iload 12, 2) := by decide +kernel
theorem dL_works_169 : decode cL_works 169 = .ok (.ifCond .eq 18, 3) := by decide +kernel
theorem dL_works_172 : decode cL_works 172 = .ok (.aload 4, 2) := by decide +kernel
theorem dL_works_174 : decode cL_works 174 = .ok (.bipush 20, 2) := by decide +kernel
theorem dL_works_176 : decode cL_works 176 = .ok (.iload 13, 2) := by decide +kernel
theorem dL_works_178 : decode cL_works 178 = .ok (.iadd, 1) := by decide +kernel
theorem dL_works_179 : decode cL_works 179 = .ok (.iaload, 1) := by decide +kernel
theorem dL_works_180 : decode cL_works 180 = .ok (.bipush 6, 2) := by decide +kernel
theorem dL_works_182 : decode cL_works 182 = .ok (.if_icmp .ne 5, 3) := by decide +kernel
theorem dL_works_185 : decode cL_works 185 = .ok (.iconst 1, 1) := by decide +kernel
theorem dL_works_186 : decode cL_works 186 = .ok (.ireturn, 1) := by decide +kernel
theorem dL_works_187 : decode cL_works 187 = .ok (.iload 11, 2) := by decide +kernel
theorem dL_works_189 : decode cL_works 189 = .ok (.ifCond .ne 8, 3) := by decide +kernel
