theorem d_L_law_901 : decode code 901 = .ok (.iconst 0, 1) := by decide +kernel
theorem d_L_law_902 : decode code 902 = .ok (.ireturn, 1) := by decide +kernel
theorem d_L_law_903 : decode code 903 = .ok (.goto (171), 3) := by decide +kernel
theorem d_L_law_906 : decode code 906 = .ok (.aload_n 1, 1) := by decide +kernel
theorem d_L_law_907 : decode code 907 = .ok (.aload_n 0, 1) := by decide +kernel
theorem d_L_law_908 : decode code 908 = .ok (.iload 4, 2) := by decide +kernel
theorem d_L_law_910 : decode code 910 = .ok (.iconst 1, 1) := by decide +kernel
theorem d_L_law_911 : decode code 911 = .ok (.iadd, 1) := by decide +kernel
theorem d_L_law_912 : decode code 912 = .ok (.iaload, 1) := by decide +kernel
theorem d_L_law_913 : decode code 913 = .ok (.aload_n 3, 1) := by decide +kernel
theorem d_L_law_914 : decode code 914 = .ok (.invokestatic 121, 3) := by decide +kernel
theorem d_L_law_917 : decode code 917 = .ok (.istore 5, 2) := by decide +kernel
theorem d_L_law_919 : decode code 919 = .ok (.aload_n 2, 1) := by decide +kernel
theorem d_L_law_920 : decode code 920 = .ok (.aload_n 0, 1) := by decide +kernel
theorem d_L_law_921 : decode code 921 = .ok (.iload 4, 2) := by decide +kernel
theorem d_L_law_923 : decode code 923 = .ok (.iconst 1, 1) := by decide +kernel
theorem d_L_law_924 : decode code 924 = .ok (.iadd, 1) := by decide +kernel
theorem d_L_law_925 : decode code 925 = .ok (.iaload, 1) := by decide +kernel
theorem d_L_law_926 : decode code 926 = .ok (.invokevirtual 123, 3) := by decide +kernel
theorem d_L_law_929 : decode code 929 = .ok (.istore 6, 2) := by decide +kernel
theorem d_L_law_931 : decode code 931 = .ok (.aload_n 2, 1) := by decide +kernel
theorem d_L_law_932 : decode code 932 = .ok (.invokevirtual 79, 3) := by decide +kernel
theorem d_L_law_935 : decode code 935 = .ok (.iload 5, 2) := by decide +kernel
theorem d_L_law_937 : decode code 937 = .ok (.if_icmp .eq (5), 3) := by decide +kernel
theorem d_L_law_940 : decode code 940 = .ok (.iconst 0, 1) := by decide +kernel
theorem d_L_law_941 : decode code 941 = .ok (.ireturn, 1) := by decide +kernel
theorem d_L_law_942 : decode code 942 = .ok (.iload 5, 2) := by decide +kernel
theorem d_L_law_944 : decode code 944 = .ok (.ifCond .ne (15), 3) := by decide +kernel
theorem d_L_law_947 : decode code 947 = .ok (.aload_n 3, 1) := by decide +kernel
theorem d_L_law_948 : decode code 948 = .ok (.iconst 0, 1) := by decide +kernel
theorem d_L_law_949 : decode code 949 = .ok (.laload, 1) := by decide +kernel
theorem d_L_law_950 : decode code 950 = .ok (.iload 6, 2) := by decide +kernel
theorem d_L_law_952 : decode code 952 = .ok (.i2l, 1) := by decide +kernel
theorem d_L_law_953 : decode code 953 = .ok (.lcmp, 1) := by decide +kernel
theorem d_L_law_954 : decode code 954 = .ok (.ifCond .eq (5), 3) := by decide +kernel
theorem d_L_law_957 : decode code 957 = .ok (.iconst 0, 1) := by decide +kernel
theorem d_L_law_958 : decode code 958 = .ok (.ireturn, 1) := by decide +kernel
theorem d_L_law_959 : decode code 959 = .ok (.goto (115), 3) := by decide +kernel
theorem d_L_law_962 : decode code 962 = .ok (.aload_n 1, 1) := by decide +kernel
theorem d_L_law_963 : decode code 963 = .ok (.aload_n 0, 1) := by decide +kernel
theorem d_L_law_964 : decode code 964 = .ok (.iload 4, 2) := by decide +kernel
theorem d_L_law_966 : decode code 966 = .ok (.iconst 1, 1) := by decide +kernel
theorem d_L_law_967 : decode code 967 = .ok (.iadd, 1) := by decide +kernel
theorem d_L_law_968 : decode code 968 = .ok (.iaload, 1) := by decide +kernel
theorem d_L_law_969 : decode code 969 = .ok (.aload_n 3, 1) := by decide +kernel
theorem d_L_law_970 : decode code 970 = .ok (.invokestatic 124, 3) := by decide +kernel
theorem d_L_law_973 : decode code 973 = .ok (.istore 5, 2) := by decide +kernel
theorem d_L_law_975 : decode code 975 = .ok (.aload_n 2, 1) := by decide +kernel
theorem d_L_law_976 : decode code 976 = .ok (.aload_n 0, 1) := by decide +kernel
theorem d_L_law_977 : decode code 977 = .ok (.iload 4, 2) := by decide +kernel
theorem d_L_law_979 : decode code 979 = .ok (.iconst 1, 1) := by decide +kernel
theorem d_L_law_980 : decode code 980 = .ok (.iadd, 1) := by decide +kernel
theorem d_L_law_981 : decode code 981 = .ok (.iaload, 1) := by decide +kernel
theorem d_L_law_982 : decode code 982 = .ok (.invokevirtual 126, 3) := by decide +kernel
theorem d_L_law_985 : decode code 985 = .ok (.istore 6, 2) := by decide +kernel
theorem d_L_law_987 : decode code 987 = .ok (.aload_n 2, 1) := by decide +kernel
theorem d_L_law_988 : decode code 988 = .ok (.invokevirtual 79, 3) := by decide +kernel
theorem d_L_law_991 : decode code 991 = .ok (.iload 5, 2) := by decide +kernel
theorem d_L_law_993 : decode code 993 = .ok (.if_icmp .eq (5), 3) := by decide +kernel
theorem d_L_law_996 : decode code 996 = .ok (.iconst 0, 1) := by decide +kernel
theorem d_L_law_997 : decode code 997 = .ok (.ireturn, 1) := by decide +kernel
theorem d_L_law_998 : decode code 998 = .ok (.iload 5, 2) := by decide +kernel
theorem d_L_law_1000 : decode code 1000 = .ok (.ifCond .ne (15), 3) := by decide +kernel
theorem d_L_law_1003 : decode code 1003 = .ok (.aload_n 3, 1) := by decide +kernel
theorem d_L_law_1004 : decode code 1004 = .ok (.iconst 0, 1) := by decide +kernel
theorem d_L_law_1005 : decode code 1005 = .ok (.laload, 1) := by decide +kernel
theorem d_L_law_1006 : decode code 1006 = .ok (.iload 6, 2) := by decide +kernel
theorem d_L_law_1008 : decode code 1008 = .ok (.i2l, 1) := by decide +kernel
theorem d_L_law_1009 : decode code 1009 = .ok (.lcmp, 1) := by decide +kernel
theorem d_L_law_1010 : decode code 1010 = .ok (.ifCond .eq (5), 3) := by decide +kernel
theorem d_L_law_1013 : decode code 1013 = .ok (.iconst 0, 1) := by decide +kernel
theorem d_L_law_1014 : decode code 1014 = .ok (.ireturn, 1) := by decide +kernel
theorem d_L_law_1015 : decode code 1015 = .ok (.goto (59), 3) := by decide +kernel
theorem d_L_law_1018 : decode code 1018 = .ok (.aload_n 1, 1) := by decide +kernel
theorem d_L_law_1019 : decode code 1019 = .ok (.aload_n 0, 1) := by decide +kernel
theorem d_L_law_1020 : decode code 1020 = .ok (.iload 4, 2) := by decide +kernel
theorem d_L_law_1022 : decode code 1022 = .ok (.iconst 1, 1) := by decide +kernel
theorem d_L_law_1023 : decode code 1023 = .ok (.iadd, 1) := by decide +kernel
theorem d_L_law_1024 : decode code 1024 = .ok (.iaload, 1) := by decide +kernel
theorem d_L_law_1025 : decode code 1025 = .ok (.aload_n 3, 1) := by decide +kernel
theorem d_L_law_1026 : decode code 1026 = .ok (.invokestatic 127, 3) := by decide +kernel
theorem d_L_law_1029 : decode code 1029 = .ok (.istore 5, 2) := by decide +kernel
theorem d_L_law_1031 : decode code 1031 = .ok (.aload_n 2, 1) := by decide +kernel
theorem d_L_law_1032 : decode code 1032 = .ok (.aload_n 0, 1) := by decide +kernel
theorem d_L_law_1033 : decode code 1033 = .ok (.iload 4, 2) := by decide +kernel
theorem d_L_law_1035 : decode code 1035 = .ok (.iconst 1, 1) := by decide +kernel
theorem d_L_law_1036 : decode code 1036 = .ok (.iadd, 1) := by decide +kernel
theorem d_L_law_1037 : decode code 1037 = .ok (.iaload, 1) := by decide +kernel
theorem d_L_law_1038 : decode code 1038 = .ok (.invokevirtual 129, 3) := by decide +kernel
theorem d_L_law_1041 : decode code 1041 = .ok (.istore 6, 2) := by decide +kernel
theorem d_L_law_1043 : decode code 1043 = .ok (.aload_n 2, 1) := by decide +kernel
theorem d_L_law_1044 : decode code 1044 = .ok (.invokevirtual 79, 3) := by decide +kernel
theorem d_L_law_1047 : decode code 1047 = .ok (.iload 5, 2) := by decide +kernel
theorem d_L_law_1049 : decode code 1049 = .ok (.if_icmp .eq (5), 3) := by decide +kernel
theorem d_L_law_1052 : decode code 1052 = .ok (.iconst 0, 1) := by decide +kernel
theorem d_L_law_1053 : decode code 1053 = .ok (.ireturn, 1) := by decide +kernel
theorem d_L_law_1054 : decode code 1054 = .ok (.iload 5, 2) := by decide +kernel
theorem d_L_law_1056 : decode code 1056 = .ok (.ifCond .ne (15), 3) := by decide +kernel
theorem d_L_law_1059 : decode code 1059 = .ok (.aload_n 3, 1) := by decide +kernel
theorem d_L_law_1060 : decode code 1060 = .ok (.iconst 0, 1) := by decide +kernel
theorem d_L_law_1061 : decode code 1061 = .ok (.laload, 1) := by decide +kernel
theorem d_L_law_1062 : decode code 1062 = .ok (.iload 6, 2) := by decide +kernel
theorem d_L_law_1064 : decode code 1064 = .ok (.i2l, 1) := by decide +kernel
theorem d_L_law_1065 : decode code 1065 = .ok (.lcmp, 1) := by decide +kernel
theorem d_L_law_1066 : decode code 1066 = .ok (.ifCond .eq (5), 3) := by decide +kernel
theorem d_L_law_1069 : decode code 1069 = .ok (.iconst 0, 1) := by decide +kernel
theorem d_L_law_1070 : decode code 1070 = .ok (.ireturn, 1) := by decide +kernel
theorem d_L_law_1071 : decode code 1071 = .ok (.goto (3), 3) := by decide +kernel
theorem d_L_law_1074 : decode code 1074 = .ok (.iinc 4 (5), 3) := by decide +kernel
theorem d_L_law_1077 : decode code 1077 = .ok (.goto (-1054), 3) := by decide +kernel
theorem d_L_law_1080 : decode code 1080 = .ok (.iconst 1, 1) := by decide +kernel
theorem d_L_law_1081 : decode code 1081 = .ok (.ireturn, 1) := by decide +kernel
