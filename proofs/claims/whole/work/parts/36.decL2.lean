theorem d_Lw_law_711 : decode code 711 = .ok (.i2l, 1) := by decide +kernel
theorem d_Lw_law_712 : decode code 712 = .ok (.lcmp, 1) := by decide +kernel
theorem d_Lw_law_713 : decode code 713 = .ok (.ifCond .eq (5), 3) := by decide +kernel
theorem d_Lw_law_716 : decode code 716 = .ok (.iconst 0, 1) := by decide +kernel
theorem d_Lw_law_717 : decode code 717 = .ok (.ireturn, 1) := by decide +kernel
theorem d_Lw_law_718 : decode code 718 = .ok (.goto (598), 3) := by decide +kernel
theorem d_Lw_law_721 : decode code 721 = .ok (.aload_n 1, 1) := by decide +kernel
theorem d_Lw_law_722 : decode code 722 = .ok (.aload_n 0, 1) := by decide +kernel
theorem d_Lw_law_723 : decode code 723 = .ok (.iload 4, 2) := by decide +kernel
theorem d_Lw_law_725 : decode code 725 = .ok (.iconst 1, 1) := by decide +kernel
theorem d_Lw_law_726 : decode code 726 = .ok (.iadd, 1) := by decide +kernel
theorem d_Lw_law_727 : decode code 727 = .ok (.iaload, 1) := by decide +kernel
theorem d_Lw_law_728 : decode code 728 = .ok (.aload_n 3, 1) := by decide +kernel
theorem d_Lw_law_729 : decode code 729 = .ok (.invokestatic 126, 3) := by decide +kernel
theorem d_Lw_law_732 : decode code 732 = .ok (.istore 5, 2) := by decide +kernel
theorem d_Lw_law_734 : decode code 734 = .ok (.aload_n 2, 1) := by decide +kernel
theorem d_Lw_law_735 : decode code 735 = .ok (.aload_n 0, 1) := by decide +kernel
theorem d_Lw_law_736 : decode code 736 = .ok (.iload 4, 2) := by decide +kernel
theorem d_Lw_law_738 : decode code 738 = .ok (.iconst 1, 1) := by decide +kernel
theorem d_Lw_law_739 : decode code 739 = .ok (.iadd, 1) := by decide +kernel
theorem d_Lw_law_740 : decode code 740 = .ok (.iaload, 1) := by decide +kernel
theorem d_Lw_law_741 : decode code 741 = .ok (.invokevirtual 128, 3) := by decide +kernel
theorem d_Lw_law_744 : decode code 744 = .ok (.istore 6, 2) := by decide +kernel
theorem d_Lw_law_746 : decode code 746 = .ok (.aload_n 2, 1) := by decide +kernel
theorem d_Lw_law_747 : decode code 747 = .ok (.invokevirtual 91, 3) := by decide +kernel
theorem d_Lw_law_750 : decode code 750 = .ok (.iload 5, 2) := by decide +kernel
theorem d_Lw_law_752 : decode code 752 = .ok (.if_icmp .eq (5), 3) := by decide +kernel
theorem d_Lw_law_755 : decode code 755 = .ok (.iconst 0, 1) := by decide +kernel
theorem d_Lw_law_756 : decode code 756 = .ok (.ireturn, 1) := by decide +kernel
theorem d_Lw_law_757 : decode code 757 = .ok (.iload 5, 2) := by decide +kernel
theorem d_Lw_law_759 : decode code 759 = .ok (.ifCond .ne (22), 3) := by decide +kernel
theorem d_Lw_law_762 : decode code 762 = .ok (.aload_n 3, 1) := by decide +kernel
theorem d_Lw_law_763 : decode code 763 = .ok (.iconst 0, 1) := by decide +kernel
theorem d_Lw_law_764 : decode code 764 = .ok (.laload, 1) := by decide +kernel
theorem d_Lw_law_765 : decode code 765 = .ok (.iload 6, 2) := by decide +kernel
theorem d_Lw_law_767 : decode code 767 = .ok (.ifCond .eq (7), 3) := by decide +kernel
theorem d_Lw_law_770 : decode code 770 = .ok (.lconst 1, 1) := by decide +kernel
theorem d_Lw_law_771 : decode code 771 = .ok (.goto (4), 3) := by decide +kernel
theorem d_Lw_law_774 : decode code 774 = .ok (.lconst 0, 1) := by decide +kernel
theorem d_Lw_law_775 : decode code 775 = .ok (.lcmp, 1) := by decide +kernel
theorem d_Lw_law_776 : decode code 776 = .ok (.ifCond .eq (5), 3) := by decide +kernel
theorem d_Lw_law_779 : decode code 779 = .ok (.iconst 0, 1) := by decide +kernel
theorem d_Lw_law_780 : decode code 780 = .ok (.ireturn, 1) := by decide +kernel
theorem d_Lw_law_781 : decode code 781 = .ok (.goto (535), 3) := by decide +kernel
theorem d_Lw_law_784 : decode code 784 = .ok (.aload_n 1, 1) := by decide +kernel
theorem d_Lw_law_785 : decode code 785 = .ok (.aload_n 0, 1) := by decide +kernel
theorem d_Lw_law_786 : decode code 786 = .ok (.iload 4, 2) := by decide +kernel
theorem d_Lw_law_788 : decode code 788 = .ok (.iconst 1, 1) := by decide +kernel
theorem d_Lw_law_789 : decode code 789 = .ok (.iadd, 1) := by decide +kernel
theorem d_Lw_law_790 : decode code 790 = .ok (.iaload, 1) := by decide +kernel
theorem d_Lw_law_791 : decode code 791 = .ok (.invokestatic 129, 3) := by decide +kernel
theorem d_Lw_law_794 : decode code 794 = .ok (.istore 5, 2) := by decide +kernel
theorem d_Lw_law_796 : decode code 796 = .ok (.aload_n 2, 1) := by decide +kernel
theorem d_Lw_law_797 : decode code 797 = .ok (.aload_n 0, 1) := by decide +kernel
theorem d_Lw_law_798 : decode code 798 = .ok (.iload 4, 2) := by decide +kernel
theorem d_Lw_law_800 : decode code 800 = .ok (.iconst 1, 1) := by decide +kernel
theorem d_Lw_law_801 : decode code 801 = .ok (.iadd, 1) := by decide +kernel
theorem d_Lw_law_802 : decode code 802 = .ok (.iaload, 1) := by decide +kernel
theorem d_Lw_law_803 : decode code 803 = .ok (.invokevirtual 132, 3) := by decide +kernel
theorem d_Lw_law_806 : decode code 806 = .ok (.aload_n 2, 1) := by decide +kernel
theorem d_Lw_law_807 : decode code 807 = .ok (.invokevirtual 91, 3) := by decide +kernel
theorem d_Lw_law_810 : decode code 810 = .ok (.iload 5, 2) := by decide +kernel
theorem d_Lw_law_812 : decode code 812 = .ok (.if_icmp .eq (5), 3) := by decide +kernel
theorem d_Lw_law_815 : decode code 815 = .ok (.iconst 0, 1) := by decide +kernel
theorem d_Lw_law_816 : decode code 816 = .ok (.ireturn, 1) := by decide +kernel
theorem d_Lw_law_817 : decode code 817 = .ok (.goto (499), 3) := by decide +kernel
theorem d_Lw_law_820 : decode code 820 = .ok (.aload_n 1, 1) := by decide +kernel
theorem d_Lw_law_821 : decode code 821 = .ok (.aload_n 0, 1) := by decide +kernel
theorem d_Lw_law_822 : decode code 822 = .ok (.iload 4, 2) := by decide +kernel
theorem d_Lw_law_824 : decode code 824 = .ok (.iconst 1, 1) := by decide +kernel
theorem d_Lw_law_825 : decode code 825 = .ok (.iadd, 1) := by decide +kernel
theorem d_Lw_law_826 : decode code 826 = .ok (.iaload, 1) := by decide +kernel
theorem d_Lw_law_827 : decode code 827 = .ok (.aload_n 3, 1) := by decide +kernel
theorem d_Lw_law_828 : decode code 828 = .ok (.invokestatic 133, 3) := by decide +kernel
theorem d_Lw_law_831 : decode code 831 = .ok (.istore 5, 2) := by decide +kernel
theorem d_Lw_law_833 : decode code 833 = .ok (.aload_n 2, 1) := by decide +kernel
theorem d_Lw_law_834 : decode code 834 = .ok (.aload_n 0, 1) := by decide +kernel
theorem d_Lw_law_835 : decode code 835 = .ok (.iload 4, 2) := by decide +kernel
theorem d_Lw_law_837 : decode code 837 = .ok (.iconst 1, 1) := by decide +kernel
theorem d_Lw_law_838 : decode code 838 = .ok (.iadd, 1) := by decide +kernel
theorem d_Lw_law_839 : decode code 839 = .ok (.iaload, 1) := by decide +kernel
theorem d_Lw_law_840 : decode code 840 = .ok (.invokevirtual 135, 3) := by decide +kernel
theorem d_Lw_law_843 : decode code 843 = .ok (.istore 6, 2) := by decide +kernel
theorem d_Lw_law_845 : decode code 845 = .ok (.aload_n 2, 1) := by decide +kernel
theorem d_Lw_law_846 : decode code 846 = .ok (.invokevirtual 91, 3) := by decide +kernel
theorem d_Lw_law_849 : decode code 849 = .ok (.iload 5, 2) := by decide +kernel
theorem d_Lw_law_851 : decode code 851 = .ok (.if_icmp .eq (5), 3) := by decide +kernel
theorem d_Lw_law_854 : decode code 854 = .ok (.iconst 0, 1) := by decide +kernel
theorem d_Lw_law_855 : decode code 855 = .ok (.ireturn, 1) := by decide +kernel
theorem d_Lw_law_856 : decode code 856 = .ok (.iload 5, 2) := by decide +kernel
theorem d_Lw_law_858 : decode code 858 = .ok (.ifCond .ne (15), 3) := by decide +kernel
theorem d_Lw_law_861 : decode code 861 = .ok (.aload_n 3, 1) := by decide +kernel
theorem d_Lw_law_862 : decode code 862 = .ok (.iconst 0, 1) := by decide +kernel
theorem d_Lw_law_863 : decode code 863 = .ok (.laload, 1) := by decide +kernel
theorem d_Lw_law_864 : decode code 864 = .ok (.iload 6, 2) := by decide +kernel
theorem d_Lw_law_866 : decode code 866 = .ok (.i2l, 1) := by decide +kernel
theorem d_Lw_law_867 : decode code 867 = .ok (.lcmp, 1) := by decide +kernel
theorem d_Lw_law_868 : decode code 868 = .ok (.ifCond .eq (5), 3) := by decide +kernel
theorem d_Lw_law_871 : decode code 871 = .ok (.iconst 0, 1) := by decide +kernel
theorem d_Lw_law_872 : decode code 872 = .ok (.ireturn, 1) := by decide +kernel
theorem d_Lw_law_873 : decode code 873 = .ok (.goto (443), 3) := by decide +kernel
theorem d_Lw_law_876 : decode code 876 = .ok (.aload_n 1, 1) := by decide +kernel
theorem d_Lw_law_877 : decode code 877 = .ok (.aload_n 0, 1) := by decide +kernel
theorem d_Lw_law_878 : decode code 878 = .ok (.iload 4, 2) := by decide +kernel
theorem d_Lw_law_880 : decode code 880 = .ok (.iconst 1, 1) := by decide +kernel
theorem d_Lw_law_881 : decode code 881 = .ok (.iadd, 1) := by decide +kernel
theorem d_Lw_law_882 : decode code 882 = .ok (.iaload, 1) := by decide +kernel
theorem d_Lw_law_883 : decode code 883 = .ok (.aload_n 0, 1) := by decide +kernel
theorem d_Lw_law_884 : decode code 884 = .ok (.iload 4, 2) := by decide +kernel
theorem d_Lw_law_886 : decode code 886 = .ok (.iconst 2, 1) := by decide +kernel
theorem d_Lw_law_887 : decode code 887 = .ok (.iadd, 1) := by decide +kernel
theorem d_Lw_law_888 : decode code 888 = .ok (.iaload, 1) := by decide +kernel
theorem d_Lw_law_889 : decode code 889 = .ok (.aload_n 0, 1) := by decide +kernel
theorem d_Lw_law_890 : decode code 890 = .ok (.iload 4, 2) := by decide +kernel
theorem d_Lw_law_892 : decode code 892 = .ok (.iconst 3, 1) := by decide +kernel
theorem d_Lw_law_893 : decode code 893 = .ok (.iadd, 1) := by decide +kernel
theorem d_Lw_law_894 : decode code 894 = .ok (.iaload, 1) := by decide +kernel
theorem d_Lw_law_895 : decode code 895 = .ok (.aload_n 3, 1) := by decide +kernel
theorem d_Lw_law_896 : decode code 896 = .ok (.invokestatic 136, 3) := by decide +kernel
theorem d_Lw_law_899 : decode code 899 = .ok (.istore 5, 2) := by decide +kernel
theorem d_Lw_law_901 : decode code 901 = .ok (.aload_n 2, 1) := by decide +kernel
theorem d_Lw_law_902 : decode code 902 = .ok (.aload_n 0, 1) := by decide +kernel
theorem d_Lw_law_903 : decode code 903 = .ok (.iload 4, 2) := by decide +kernel
theorem d_Lw_law_905 : decode code 905 = .ok (.iconst 1, 1) := by decide +kernel
theorem d_Lw_law_906 : decode code 906 = .ok (.iadd, 1) := by decide +kernel
theorem d_Lw_law_907 : decode code 907 = .ok (.iaload, 1) := by decide +kernel
theorem d_Lw_law_908 : decode code 908 = .ok (.aload_n 0, 1) := by decide +kernel
theorem d_Lw_law_909 : decode code 909 = .ok (.iload 4, 2) := by decide +kernel
theorem d_Lw_law_911 : decode code 911 = .ok (.iconst 2, 1) := by decide +kernel
theorem d_Lw_law_912 : decode code 912 = .ok (.iadd, 1) := by decide +kernel
theorem d_Lw_law_913 : decode code 913 = .ok (.iaload, 1) := by decide +kernel
theorem d_Lw_law_914 : decode code 914 = .ok (.aload_n 0, 1) := by decide +kernel
theorem d_Lw_law_915 : decode code 915 = .ok (.iload 4, 2) := by decide +kernel
theorem d_Lw_law_917 : decode code 917 = .ok (.iconst 3, 1) := by decide +kernel
theorem d_Lw_law_918 : decode code 918 = .ok (.iadd, 1) := by decide +kernel
theorem d_Lw_law_919 : decode code 919 = .ok (.iaload, 1) := by decide +kernel
theorem d_Lw_law_920 : decode code 920 = .ok (.invokevirtual 138, 3) := by decide +kernel
theorem d_Lw_law_923 : decode code 923 = .ok (.istore 6, 2) := by decide +kernel
theorem d_Lw_law_925 : decode code 925 = .ok (.aload_n 2, 1) := by decide +kernel
theorem d_Lw_law_926 : decode code 926 = .ok (.invokevirtual 91, 3) := by decide +kernel
theorem d_Lw_law_929 : decode code 929 = .ok (.iload 5, 2) := by decide +kernel
theorem d_Lw_law_931 : decode code 931 = .ok (.if_icmp .eq (5), 3) := by decide +kernel
theorem d_Lw_law_934 : decode code 934 = .ok (.iconst 0, 1) := by decide +kernel
theorem d_Lw_law_935 : decode code 935 = .ok (.ireturn, 1) := by decide +kernel
theorem d_Lw_law_936 : decode code 936 = .ok (.iload 5, 2) := by decide +kernel
theorem d_Lw_law_938 : decode code 938 = .ok (.ifCond .ne (15), 3) := by decide +kernel
theorem d_Lw_law_941 : decode code 941 = .ok (.aload_n 3, 1) := by decide +kernel
theorem d_Lw_law_942 : decode code 942 = .ok (.iconst 0, 1) := by decide +kernel
theorem d_Lw_law_943 : decode code 943 = .ok (.laload, 1) := by decide +kernel
theorem d_Lw_law_944 : decode code 944 = .ok (.iload 6, 2) := by decide +kernel
theorem d_Lw_law_946 : decode code 946 = .ok (.i2l, 1) := by decide +kernel
theorem d_Lw_law_947 : decode code 947 = .ok (.lcmp, 1) := by decide +kernel
theorem d_Lw_law_948 : decode code 948 = .ok (.ifCond .eq (5), 3) := by decide +kernel
theorem d_Lw_law_951 : decode code 951 = .ok (.iconst 0, 1) := by decide +kernel
theorem d_Lw_law_952 : decode code 952 = .ok (.ireturn, 1) := by decide +kernel
theorem d_Lw_law_953 : decode code 953 = .ok (.goto (363), 3) := by decide +kernel
theorem d_Lw_law_956 : decode code 956 = .ok (.aload_n 1, 1) := by decide +kernel
theorem d_Lw_law_957 : decode code 957 = .ok (.aload_n 0, 1) := by decide +kernel
theorem d_Lw_law_958 : decode code 958 = .ok (.iload 4, 2) := by decide +kernel
theorem d_Lw_law_960 : decode code 960 = .ok (.iconst 1, 1) := by decide +kernel
theorem d_Lw_law_961 : decode code 961 = .ok (.iadd, 1) := by decide +kernel
theorem d_Lw_law_962 : decode code 962 = .ok (.iaload, 1) := by decide +kernel
theorem d_Lw_law_963 : decode code 963 = .ok (.aload_n 0, 1) := by decide +kernel
theorem d_Lw_law_964 : decode code 964 = .ok (.iload 4, 2) := by decide +kernel
theorem d_Lw_law_966 : decode code 966 = .ok (.iconst 2, 1) := by decide +kernel
theorem d_Lw_law_967 : decode code 967 = .ok (.iadd, 1) := by decide +kernel
theorem d_Lw_law_968 : decode code 968 = .ok (.iaload, 1) := by decide +kernel
theorem d_Lw_law_969 : decode code 969 = .ok (.aload_n 0, 1) := by decide +kernel
theorem d_Lw_law_970 : decode code 970 = .ok (.iload 4, 2) := by decide +kernel
theorem d_Lw_law_972 : decode code 972 = .ok (.iconst 3, 1) := by decide +kernel
theorem d_Lw_law_973 : decode code 973 = .ok (.iadd, 1) := by decide +kernel
theorem d_Lw_law_974 : decode code 974 = .ok (.iaload, 1) := by decide +kernel
theorem d_Lw_law_975 : decode code 975 = .ok (.aload_n 3, 1) := by decide +kernel
theorem d_Lw_law_976 : decode code 976 = .ok (.invokestatic 139, 3) := by decide +kernel
theorem d_Lw_law_979 : decode code 979 = .ok (.istore 5, 2) := by decide +kernel
theorem d_Lw_law_981 : decode code 981 = .ok (.aload_n 2, 1) := by decide +kernel
theorem d_Lw_law_982 : decode code 982 = .ok (.aload_n 0, 1) := by decide +kernel
theorem d_Lw_law_983 : decode code 983 = .ok (.iload 4, 2) := by decide +kernel
theorem d_Lw_law_985 : decode code 985 = .ok (.iconst 1, 1) := by decide +kernel
theorem d_Lw_law_986 : decode code 986 = .ok (.iadd, 1) := by decide +kernel
theorem d_Lw_law_987 : decode code 987 = .ok (.iaload, 1) := by decide +kernel
theorem d_Lw_law_988 : decode code 988 = .ok (.aload_n 0, 1) := by decide +kernel
theorem d_Lw_law_989 : decode code 989 = .ok (.iload 4, 2) := by decide +kernel
theorem d_Lw_law_991 : decode code 991 = .ok (.iconst 2, 1) := by decide +kernel
theorem d_Lw_law_992 : decode code 992 = .ok (.iadd, 1) := by decide +kernel
theorem d_Lw_law_993 : decode code 993 = .ok (.iaload, 1) := by decide +kernel
theorem d_Lw_law_994 : decode code 994 = .ok (.aload_n 0, 1) := by decide +kernel
theorem d_Lw_law_995 : decode code 995 = .ok (.iload 4, 2) := by decide +kernel
theorem d_Lw_law_997 : decode code 997 = .ok (.iconst 3, 1) := by decide +kernel
theorem d_Lw_law_998 : decode code 998 = .ok (.iadd, 1) := by decide +kernel
theorem d_Lw_law_999 : decode code 999 = .ok (.iaload, 1) := by decide +kernel
theorem d_Lw_law_1000 : decode code 1000 = .ok (.invokevirtual 141, 3) := by decide +kernel
theorem d_Lw_law_1003 : decode code 1003 = .ok (.istore 6, 2) := by decide +kernel
theorem d_Lw_law_1005 : decode code 1005 = .ok (.aload_n 2, 1) := by decide +kernel
theorem d_Lw_law_1006 : decode code 1006 = .ok (.invokevirtual 91, 3) := by decide +kernel
theorem d_Lw_law_1009 : decode code 1009 = .ok (.iload 5, 2) := by decide +kernel
theorem d_Lw_law_1011 : decode code 1011 = .ok (.if_icmp .eq (5), 3) := by decide +kernel
theorem d_Lw_law_1014 : decode code 1014 = .ok (.iconst 0, 1) := by decide +kernel
theorem d_Lw_law_1015 : decode code 1015 = .ok (.ireturn, 1) := by decide +kernel
theorem d_Lw_law_1016 : decode code 1016 = .ok (.iload 5, 2) := by decide +kernel
