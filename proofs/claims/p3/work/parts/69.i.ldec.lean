theorem dL_756 : decode cL_law 756 = .ok (.aload_n 0, 1) := by decide +kernel
theorem dL_757 : decode cL_law 757 = .ok (.iload_n 3, 1) := by decide +kernel
theorem dL_758 : decode cL_law 758 = .ok (.iconst 3, 1) := by decide +kernel
theorem dL_759 : decode cL_law 759 = .ok (.iadd, 1) := by decide +kernel
theorem dL_760 : decode cL_law 760 = .ok (.iaload, 1) := by decide +kernel
theorem dL_761 : decode cL_law 761 = .ok (.invokevirtual 80, 3) := by decide +kernel
theorem dL_764 : decode cL_law 764 = .ok (.pop, 1) := by decide +kernel
theorem dL_765 : decode cL_law 765 = .ok (.goto 293, 3) := by decide +kernel
theorem dL_768 : decode cL_law 768 = .ok (.aload_n 1, 1) := by decide +kernel
theorem dL_769 : decode cL_law 769 = .ok (.aload_n 0, 1) := by decide +kernel
theorem dL_770 : decode cL_law 770 = .ok (.iload_n 3, 1) := by decide +kernel
theorem dL_771 : decode cL_law 771 = .ok (.iconst 1, 1) := by decide +kernel
theorem dL_772 : decode cL_law 772 = .ok (.iadd, 1) := by decide +kernel
theorem dL_773 : decode cL_law 773 = .ok (.iaload, 1) := by decide +kernel
theorem dL_774 : decode cL_law 774 = .ok (.aload_n 0, 1) := by decide +kernel
theorem dL_775 : decode cL_law 775 = .ok (.iload_n 3, 1) := by decide +kernel
theorem dL_776 : decode cL_law 776 = .ok (.iconst 2, 1) := by decide +kernel
theorem dL_777 : decode cL_law 777 = .ok (.iadd, 1) := by decide +kernel
theorem dL_778 : decode cL_law 778 = .ok (.iaload, 1) := by decide +kernel
theorem dL_779 : decode cL_law 779 = .ok (.invokevirtual 81, 3) := by decide +kernel
theorem dL_782 : decode cL_law 782 = .ok (.pop, 1) := by decide +kernel
theorem dL_783 : decode cL_law 783 = .ok (.aload_n 2, 1) := by decide +kernel
theorem dL_784 : decode cL_law 784 = .ok (.aload_n 0, 1) := by decide +kernel
theorem dL_785 : decode cL_law 785 = .ok (.iload_n 3, 1) := by decide +kernel
theorem dL_786 : decode cL_law 786 = .ok (.iconst 1, 1) := by decide +kernel
theorem dL_787 : decode cL_law 787 = .ok (.iadd, 1) := by decide +kernel
theorem dL_788 : decode cL_law 788 = .ok (.iaload, 1) := by decide +kernel
theorem dL_789 : decode cL_law 789 = .ok (.aload_n 0, 1) := by decide +kernel
theorem dL_790 : decode cL_law 790 = .ok (.iload_n 3, 1) := by decide +kernel
theorem dL_791 : decode cL_law 791 = .ok (.iconst 2, 1) := by decide +kernel
theorem dL_792 : decode cL_law 792 = .ok (.iadd, 1) := by decide +kernel
theorem dL_793 : decode cL_law 793 = .ok (.iaload, 1) := by decide +kernel
theorem dL_794 : decode cL_law 794 = .ok (.invokevirtual 84, 3) := by decide +kernel
theorem dL_797 : decode cL_law 797 = .ok (.pop, 1) := by decide +kernel
theorem dL_798 : decode cL_law 798 = .ok (.goto 260, 3) := by decide +kernel
theorem dL_801 : decode cL_law 801 = .ok (.aload_n 1, 1) := by decide +kernel
theorem dL_802 : decode cL_law 802 = .ok (.aload_n 0, 1) := by decide +kernel
theorem dL_803 : decode cL_law 803 = .ok (.iload_n 3, 1) := by decide +kernel
theorem dL_804 : decode cL_law 804 = .ok (.iconst 1, 1) := by decide +kernel
theorem dL_805 : decode cL_law 805 = .ok (.iadd, 1) := by decide +kernel
theorem dL_806 : decode cL_law 806 = .ok (.iaload, 1) := by decide +kernel
theorem dL_807 : decode cL_law 807 = .ok (.aload_n 0, 1) := by decide +kernel
theorem dL_808 : decode cL_law 808 = .ok (.iload_n 3, 1) := by decide +kernel
theorem dL_809 : decode cL_law 809 = .ok (.iconst 2, 1) := by decide +kernel
theorem dL_810 : decode cL_law 810 = .ok (.iadd, 1) := by decide +kernel
theorem dL_811 : decode cL_law 811 = .ok (.iaload, 1) := by decide +kernel
theorem dL_812 : decode cL_law 812 = .ok (.invokevirtual 85, 3) := by decide +kernel
theorem dL_815 : decode cL_law 815 = .ok (.pop, 1) := by decide +kernel
theorem dL_816 : decode cL_law 816 = .ok (.aload_n 2, 1) := by decide +kernel
theorem dL_817 : decode cL_law 817 = .ok (.aload_n 0, 1) := by decide +kernel
theorem dL_818 : decode cL_law 818 = .ok (.iload_n 3, 1) := by decide +kernel
theorem dL_819 : decode cL_law 819 = .ok (.iconst 1, 1) := by decide +kernel
theorem dL_820 : decode cL_law 820 = .ok (.iadd, 1) := by decide +kernel
theorem dL_821 : decode cL_law 821 = .ok (.iaload, 1) := by decide +kernel
theorem dL_822 : decode cL_law 822 = .ok (.aload_n 0, 1) := by decide +kernel
theorem dL_823 : decode cL_law 823 = .ok (.iload_n 3, 1) := by decide +kernel
theorem dL_824 : decode cL_law 824 = .ok (.iconst 2, 1) := by decide +kernel
theorem dL_825 : decode cL_law 825 = .ok (.iadd, 1) := by decide +kernel
theorem dL_826 : decode cL_law 826 = .ok (.iaload, 1) := by decide +kernel
theorem dL_827 : decode cL_law 827 = .ok (.invokevirtual 88, 3) := by decide +kernel
theorem dL_830 : decode cL_law 830 = .ok (.pop, 1) := by decide +kernel
theorem dL_831 : decode cL_law 831 = .ok (.goto 227, 3) := by decide +kernel
theorem dL_834 : decode cL_law 834 = .ok (.aload_n 1, 1) := by decide +kernel
theorem dL_835 : decode cL_law 835 = .ok (.aload_n 0, 1) := by decide +kernel
theorem dL_836 : decode cL_law 836 = .ok (.iload_n 3, 1) := by decide +kernel
theorem dL_837 : decode cL_law 837 = .ok (.iconst 1, 1) := by decide +kernel
theorem dL_838 : decode cL_law 838 = .ok (.iadd, 1) := by decide +kernel
theorem dL_839 : decode cL_law 839 = .ok (.iaload, 1) := by decide +kernel
theorem dL_840 : decode cL_law 840 = .ok (.aload_n 0, 1) := by decide +kernel
theorem dL_841 : decode cL_law 841 = .ok (.iload_n 3, 1) := by decide +kernel
theorem dL_842 : decode cL_law 842 = .ok (.iconst 2, 1) := by decide +kernel
theorem dL_843 : decode cL_law 843 = .ok (.iadd, 1) := by decide +kernel
theorem dL_844 : decode cL_law 844 = .ok (.iaload, 1) := by decide +kernel
theorem dL_845 : decode cL_law 845 = .ok (.invokevirtual 89, 3) := by decide +kernel
theorem dL_848 : decode cL_law 848 = .ok (.pop, 1) := by decide +kernel
theorem dL_849 : decode cL_law 849 = .ok (.aload_n 2, 1) := by decide +kernel
theorem dL_850 : decode cL_law 850 = .ok (.aload_n 0, 1) := by decide +kernel
theorem dL_851 : decode cL_law 851 = .ok (.iload_n 3, 1) := by decide +kernel
theorem dL_852 : decode cL_law 852 = .ok (.iconst 1, 1) := by decide +kernel
theorem dL_853 : decode cL_law 853 = .ok (.iadd, 1) := by decide +kernel
theorem dL_854 : decode cL_law 854 = .ok (.iaload, 1) := by decide +kernel
theorem dL_855 : decode cL_law 855 = .ok (.aload_n 0, 1) := by decide +kernel
theorem dL_856 : decode cL_law 856 = .ok (.iload_n 3, 1) := by decide +kernel
theorem dL_857 : decode cL_law 857 = .ok (.iconst 2, 1) := by decide +kernel
theorem dL_858 : decode cL_law 858 = .ok (.iadd, 1) := by decide +kernel
theorem dL_859 : decode cL_law 859 = .ok (.iaload, 1) := by decide +kernel
theorem dL_860 : decode cL_law 860 = .ok (.invokevirtual 92, 3) := by decide +kernel
theorem dL_863 : decode cL_law 863 = .ok (.pop, 1) := by decide +kernel
theorem dL_864 : decode cL_law 864 = .ok (.goto 194, 3) := by decide +kernel
theorem dL_867 : decode cL_law 867 = .ok (.aload_n 1, 1) := by decide +kernel
theorem dL_868 : decode cL_law 868 = .ok (.aload_n 0, 1) := by decide +kernel
theorem dL_869 : decode cL_law 869 = .ok (.iload_n 3, 1) := by decide +kernel
theorem dL_870 : decode cL_law 870 = .ok (.iconst 1, 1) := by decide +kernel
theorem dL_871 : decode cL_law 871 = .ok (.iadd, 1) := by decide +kernel
theorem dL_872 : decode cL_law 872 = .ok (.iaload, 1) := by decide +kernel
theorem dL_873 : decode cL_law 873 = .ok (.aload_n 0, 1) := by decide +kernel
theorem dL_874 : decode cL_law 874 = .ok (.iload_n 3, 1) := by decide +kernel
theorem dL_875 : decode cL_law 875 = .ok (.iconst 2, 1) := by decide +kernel
theorem dL_876 : decode cL_law 876 = .ok (.iadd, 1) := by decide +kernel
theorem dL_877 : decode cL_law 877 = .ok (.iaload, 1) := by decide +kernel
theorem dL_878 : decode cL_law 878 = .ok (.invokevirtual 93, 3) := by decide +kernel
theorem dL_881 : decode cL_law 881 = .ok (.pop, 1) := by decide +kernel
theorem dL_882 : decode cL_law 882 = .ok (.aload_n 2, 1) := by decide +kernel
theorem dL_883 : decode cL_law 883 = .ok (.aload_n 0, 1) := by decide +kernel
theorem dL_884 : decode cL_law 884 = .ok (.iload_n 3, 1) := by decide +kernel
theorem dL_885 : decode cL_law 885 = .ok (.iconst 1, 1) := by decide +kernel
theorem dL_886 : decode cL_law 886 = .ok (.iadd, 1) := by decide +kernel
theorem dL_887 : decode cL_law 887 = .ok (.iaload, 1) := by decide +kernel
theorem dL_888 : decode cL_law 888 = .ok (.aload_n 0, 1) := by decide +kernel
theorem dL_889 : decode cL_law 889 = .ok (.iload_n 3, 1) := by decide +kernel
theorem dL_890 : decode cL_law 890 = .ok (.iconst 2, 1) := by decide +kernel
theorem dL_891 : decode cL_law 891 = .ok (.iadd, 1) := by decide +kernel
theorem dL_892 : decode cL_law 892 = .ok (.iaload, 1) := by decide +kernel
theorem dL_893 : decode cL_law 893 = .ok (.invokevirtual 96, 3) := by decide +kernel
theorem dL_896 : decode cL_law 896 = .ok (.pop, 1) := by decide +kernel
theorem dL_897 : decode cL_law 897 = .ok (.goto 161, 3) := by decide +kernel
theorem dL_900 : decode cL_law 900 = .ok (.aload_n 1, 1) := by decide +kernel
theorem dL_901 : decode cL_law 901 = .ok (.aload_n 0, 1) := by decide +kernel
theorem dL_902 : decode cL_law 902 = .ok (.iload_n 3, 1) := by decide +kernel
theorem dL_903 : decode cL_law 903 = .ok (.iconst 1, 1) := by decide +kernel
theorem dL_904 : decode cL_law 904 = .ok (.iadd, 1) := by decide +kernel
theorem dL_905 : decode cL_law 905 = .ok (.iaload, 1) := by decide +kernel
theorem dL_906 : decode cL_law 906 = .ok (.aload_n 0, 1) := by decide +kernel
theorem dL_907 : decode cL_law 907 = .ok (.iload_n 3, 1) := by decide +kernel
theorem dL_908 : decode cL_law 908 = .ok (.iconst 2, 1) := by decide +kernel
theorem dL_909 : decode cL_law 909 = .ok (.iadd, 1) := by decide +kernel
theorem dL_910 : decode cL_law 910 = .ok (.iaload, 1) := by decide +kernel
theorem dL_911 : decode cL_law 911 = .ok (.invokevirtual 97, 3) := by decide +kernel
theorem dL_914 : decode cL_law 914 = .ok (.pop, 1) := by decide +kernel
theorem dL_915 : decode cL_law 915 = .ok (.aload_n 2, 1) := by decide +kernel
theorem dL_916 : decode cL_law 916 = .ok (.aload_n 0, 1) := by decide +kernel
theorem dL_917 : decode cL_law 917 = .ok (.iload_n 3, 1) := by decide +kernel
theorem dL_918 : decode cL_law 918 = .ok (.iconst 1, 1) := by decide +kernel
theorem dL_919 : decode cL_law 919 = .ok (.iadd, 1) := by decide +kernel
theorem dL_920 : decode cL_law 920 = .ok (.iaload, 1) := by decide +kernel
theorem dL_921 : decode cL_law 921 = .ok (.aload_n 0, 1) := by decide +kernel
theorem dL_922 : decode cL_law 922 = .ok (.iload_n 3, 1) := by decide +kernel
theorem dL_923 : decode cL_law 923 = .ok (.iconst 2, 1) := by decide +kernel
theorem dL_924 : decode cL_law 924 = .ok (.iadd, 1) := by decide +kernel
theorem dL_925 : decode cL_law 925 = .ok (.iaload, 1) := by decide +kernel
theorem dL_926 : decode cL_law 926 = .ok (.invokevirtual 100, 3) := by decide +kernel
theorem dL_929 : decode cL_law 929 = .ok (.pop, 1) := by decide +kernel
theorem dL_930 : decode cL_law 930 = .ok (.goto 128, 3) := by decide +kernel
theorem dL_933 : decode cL_law 933 = .ok (.aload_n 1, 1) := by decide +kernel
theorem dL_934 : decode cL_law 934 = .ok (.aload_n 0, 1) := by decide +kernel
theorem dL_935 : decode cL_law 935 = .ok (.iload_n 3, 1) := by decide +kernel
theorem dL_936 : decode cL_law 936 = .ok (.iconst 1, 1) := by decide +kernel
theorem dL_937 : decode cL_law 937 = .ok (.iadd, 1) := by decide +kernel
theorem dL_938 : decode cL_law 938 = .ok (.iaload, 1) := by decide +kernel
theorem dL_939 : decode cL_law 939 = .ok (.aload_n 0, 1) := by decide +kernel
theorem dL_940 : decode cL_law 940 = .ok (.iload_n 3, 1) := by decide +kernel
theorem dL_941 : decode cL_law 941 = .ok (.iconst 2, 1) := by decide +kernel
theorem dL_942 : decode cL_law 942 = .ok (.iadd, 1) := by decide +kernel
theorem dL_943 : decode cL_law 943 = .ok (.iaload, 1) := by decide +kernel
theorem dL_944 : decode cL_law 944 = .ok (.invokevirtual 101, 3) := by decide +kernel
theorem dL_947 : decode cL_law 947 = .ok (.pop, 1) := by decide +kernel
theorem dL_948 : decode cL_law 948 = .ok (.aload_n 2, 1) := by decide +kernel
theorem dL_949 : decode cL_law 949 = .ok (.aload_n 0, 1) := by decide +kernel
theorem dL_950 : decode cL_law 950 = .ok (.iload_n 3, 1) := by decide +kernel
theorem dL_951 : decode cL_law 951 = .ok (.iconst 1, 1) := by decide +kernel
theorem dL_952 : decode cL_law 952 = .ok (.iadd, 1) := by decide +kernel
theorem dL_953 : decode cL_law 953 = .ok (.iaload, 1) := by decide +kernel
theorem dL_954 : decode cL_law 954 = .ok (.aload_n 0, 1) := by decide +kernel
theorem dL_955 : decode cL_law 955 = .ok (.iload_n 3, 1) := by decide +kernel
theorem dL_956 : decode cL_law 956 = .ok (.iconst 2, 1) := by decide +kernel
theorem dL_957 : decode cL_law 957 = .ok (.iadd, 1) := by decide +kernel
theorem dL_958 : decode cL_law 958 = .ok (.iaload, 1) := by decide +kernel
theorem dL_959 : decode cL_law 959 = .ok (.invokevirtual 104, 3) := by decide +kernel
theorem dL_962 : decode cL_law 962 = .ok (.pop, 1) := by decide +kernel
theorem dL_963 : decode cL_law 963 = .ok (.goto 95, 3) := by decide +kernel
theorem dL_966 : decode cL_law 966 = .ok (.aload_n 1, 1) := by decide +kernel
theorem dL_967 : decode cL_law 967 = .ok (.aload_n 0, 1) := by decide +kernel
theorem dL_968 : decode cL_law 968 = .ok (.iload_n 3, 1) := by decide +kernel
theorem dL_969 : decode cL_law 969 = .ok (.iconst 1, 1) := by decide +kernel
theorem dL_970 : decode cL_law 970 = .ok (.iadd, 1) := by decide +kernel
theorem dL_971 : decode cL_law 971 = .ok (.iaload, 1) := by decide +kernel
theorem dL_972 : decode cL_law 972 = .ok (.invokevirtual 105, 3) := by decide +kernel
theorem dL_975 : decode cL_law 975 = .ok (.pop, 1) := by decide +kernel
theorem dL_976 : decode cL_law 976 = .ok (.aload_n 2, 1) := by decide +kernel
theorem dL_977 : decode cL_law 977 = .ok (.aload_n 0, 1) := by decide +kernel
theorem dL_978 : decode cL_law 978 = .ok (.iload_n 3, 1) := by decide +kernel
theorem dL_979 : decode cL_law 979 = .ok (.iconst 1, 1) := by decide +kernel
theorem dL_980 : decode cL_law 980 = .ok (.iadd, 1) := by decide +kernel
theorem dL_981 : decode cL_law 981 = .ok (.iaload, 1) := by decide +kernel
theorem dL_982 : decode cL_law 982 = .ok (.invokevirtual 108, 3) := by decide +kernel
theorem dL_985 : decode cL_law 985 = .ok (.pop, 1) := by decide +kernel
theorem dL_986 : decode cL_law 986 = .ok (.goto 72, 3) := by decide +kernel
theorem dL_989 : decode cL_law 989 = .ok (.aload_n 1, 1) := by decide +kernel
theorem dL_990 : decode cL_law 990 = .ok (.invokevirtual 109, 3) := by decide +kernel
theorem dL_993 : decode cL_law 993 = .ok (.pop, 1) := by decide +kernel
theorem dL_994 : decode cL_law 994 = .ok (.aload_n 2, 1) := by decide +kernel
theorem dL_995 : decode cL_law 995 = .ok (.invokevirtual 112, 3) := by decide +kernel
theorem dL_998 : decode cL_law 998 = .ok (.pop, 1) := by decide +kernel
theorem dL_999 : decode cL_law 999 = .ok (.goto 59, 3) := by decide +kernel
theorem dL_1002 : decode cL_law 1002 = .ok (.aload_n 1, 1) := by decide +kernel
theorem dL_1003 : decode cL_law 1003 = .ok (.aload_n 0, 1) := by decide +kernel
theorem dL_1004 : decode cL_law 1004 = .ok (.iload_n 3, 1) := by decide +kernel
theorem dL_1005 : decode cL_law 1005 = .ok (.iconst 1, 1) := by decide +kernel
theorem dL_1006 : decode cL_law 1006 = .ok (.iadd, 1) := by decide +kernel
theorem dL_1007 : decode cL_law 1007 = .ok (.iaload, 1) := by decide +kernel
theorem dL_1008 : decode cL_law 1008 = .ok (.aload_n 0, 1) := by decide +kernel
theorem dL_1009 : decode cL_law 1009 = .ok (.iload_n 3, 1) := by decide +kernel
theorem dL_1010 : decode cL_law 1010 = .ok (.iconst 2, 1) := by decide +kernel
theorem dL_1011 : decode cL_law 1011 = .ok (.iadd, 1) := by decide +kernel
theorem dL_1012 : decode cL_law 1012 = .ok (.iaload, 1) := by decide +kernel
theorem dL_1013 : decode cL_law 1013 = .ok (.aload_n 0, 1) := by decide +kernel
theorem dL_1014 : decode cL_law 1014 = .ok (.iload_n 3, 1) := by decide +kernel
theorem dL_1015 : decode cL_law 1015 = .ok (.iconst 3, 1) := by decide +kernel
theorem dL_1016 : decode cL_law 1016 = .ok (.iadd, 1) := by decide +kernel
theorem dL_1017 : decode cL_law 1017 = .ok (.iaload, 1) := by decide +kernel
theorem dL_1018 : decode cL_law 1018 = .ok (.invokevirtual 113, 3) := by decide +kernel
theorem dL_1021 : decode cL_law 1021 = .ok (.pop, 1) := by decide +kernel
theorem dL_1022 : decode cL_law 1022 = .ok (.aload_n 2, 1) := by decide +kernel
theorem dL_1023 : decode cL_law 1023 = .ok (.aload_n 0, 1) := by decide +kernel
theorem dL_1024 : decode cL_law 1024 = .ok (.iload_n 3, 1) := by decide +kernel
theorem dL_1025 : decode cL_law 1025 = .ok (.iconst 1, 1) := by decide +kernel
theorem dL_1026 : decode cL_law 1026 = .ok (.iadd, 1) := by decide +kernel
theorem dL_1027 : decode cL_law 1027 = .ok (.iaload, 1) := by decide +kernel
theorem dL_1028 : decode cL_law 1028 = .ok (.aload_n 0, 1) := by decide +kernel
theorem dL_1029 : decode cL_law 1029 = .ok (.iload_n 3, 1) := by decide +kernel
theorem dL_1030 : decode cL_law 1030 = .ok (.iconst 2, 1) := by decide +kernel
theorem dL_1031 : decode cL_law 1031 = .ok (.iadd, 1) := by decide +kernel
theorem dL_1032 : decode cL_law 1032 = .ok (.iaload, 1) := by decide +kernel
theorem dL_1033 : decode cL_law 1033 = .ok (.aload_n 0, 1) := by decide +kernel
theorem dL_1034 : decode cL_law 1034 = .ok (.iload_n 3, 1) := by decide +kernel
theorem dL_1035 : decode cL_law 1035 = .ok (.iconst 3, 1) := by decide +kernel
theorem dL_1036 : decode cL_law 1036 = .ok (.iadd, 1) := by decide +kernel
theorem dL_1037 : decode cL_law 1037 = .ok (.iaload, 1) := by decide +kernel
theorem dL_1038 : decode cL_law 1038 = .ok (.invokevirtual 116, 3) := by decide +kernel
theorem dL_1041 : decode cL_law 1041 = .ok (.pop, 1) := by decide +kernel
theorem dL_1042 : decode cL_law 1042 = .ok (.goto 16, 3) := by decide +kernel
theorem dL_1045 : decode cL_law 1045 = .ok (.aload_n 1, 1) := by decide +kernel
theorem dL_1046 : decode cL_law 1046 = .ok (.invokevirtual 117, 3) := by decide +kernel
theorem dL_1049 : decode cL_law 1049 = .ok (.pop, 1) := by decide +kernel
theorem dL_1050 : decode cL_law 1050 = .ok (.aload_n 2, 1) := by decide +kernel
theorem dL_1051 : decode cL_law 1051 = .ok (.invokevirtual 120, 3) := by decide +kernel
theorem dL_1054 : decode cL_law 1054 = .ok (.pop, 1) := by decide +kernel
theorem dL_1055 : decode cL_law 1055 = .ok (.goto 3, 3) := by decide +kernel
theorem dL_1058 : decode cL_law 1058 = .ok (.iinc 3 6, 3) := by decide +kernel
theorem dL_1061 : decode cL_law 1061 = .ok (.goto (-1043), 3) := by decide +kernel
theorem dL_1064 : decode cL_law 1064 = .ok (.iconst 1, 1) := by decide +kernel
theorem dL_1065 : decode cL_law 1065 = .ok (.ireturn, 1) := by decide +kernel
