theorem dW_911 : decode code 911 = .ok (.istore 5, 2) := by decide +kernel
theorem dW_913 : decode code 913 = .ok (.aload_n 2, 1) := by decide +kernel
theorem dW_914 : decode code 914 = .ok (.aload_n 0, 1) := by decide +kernel
theorem dW_915 : decode code 915 = .ok (.iload 4, 2) := by decide +kernel
theorem dW_917 : decode code 917 = .ok (.iconst 1, 1) := by decide +kernel
theorem dW_918 : decode code 918 = .ok (.iadd, 1) := by decide +kernel
theorem dW_919 : decode code 919 = .ok (.iaload, 1) := by decide +kernel
theorem dW_920 : decode code 920 = .ok (.aload_n 0, 1) := by decide +kernel
theorem dW_921 : decode code 921 = .ok (.iload 4, 2) := by decide +kernel
theorem dW_923 : decode code 923 = .ok (.iconst 2, 1) := by decide +kernel
theorem dW_924 : decode code 924 = .ok (.iadd, 1) := by decide +kernel
theorem dW_925 : decode code 925 = .ok (.iaload, 1) := by decide +kernel
theorem dW_926 : decode code 926 = .ok (.invokevirtual 108, 3) := by decide +kernel
theorem dW_929 : decode code 929 = .ok (.istore 6, 2) := by decide +kernel
theorem dW_931 : decode code 931 = .ok (.aload_n 2, 1) := by decide +kernel
theorem dW_932 : decode code 932 = .ok (.invokevirtual 63, 3) := by decide +kernel
theorem dW_935 : decode code 935 = .ok (.iload 5, 2) := by decide +kernel
theorem dW_937 : decode code 937 = .ok (.if_icmp .eq 5, 3) := by decide +kernel
theorem dW_940 : decode code 940 = .ok (.iconst 0, 1) := by decide +kernel
theorem dW_941 : decode code 941 = .ok (.ireturn, 1) := by decide +kernel
theorem dW_942 : decode code 942 = .ok (.iload 5, 2) := by decide +kernel
theorem dW_944 : decode code 944 = .ok (.ifCond .ne 15, 3) := by decide +kernel
theorem dW_947 : decode code 947 = .ok (.aload_n 3, 1) := by decide +kernel
theorem dW_948 : decode code 948 = .ok (.iconst 0, 1) := by decide +kernel
theorem dW_949 : decode code 949 = .ok (.laload, 1) := by decide +kernel
theorem dW_950 : decode code 950 = .ok (.iload 6, 2) := by decide +kernel
theorem dW_952 : decode code 952 = .ok (.i2l, 1) := by decide +kernel
theorem dW_953 : decode code 953 = .ok (.lcmp, 1) := by decide +kernel
theorem dW_954 : decode code 954 = .ok (.ifCond .eq 5, 3) := by decide +kernel
theorem dW_957 : decode code 957 = .ok (.iconst 0, 1) := by decide +kernel
theorem dW_958 : decode code 958 = .ok (.ireturn, 1) := by decide +kernel
theorem dW_959 : decode code 959 = .ok (.goto 92, 3) := by decide +kernel
theorem dW_962 : decode code 962 = .ok (.aload_n 1, 1) := by decide +kernel
theorem dW_963 : decode code 963 = .ok (.invokevirtual 109, 3) := by decide +kernel
theorem dW_966 : decode code 966 = .ok (.aload_n 2, 1) := by decide +kernel
theorem dW_967 : decode code 967 = .ok (.invokevirtual 112, 3) := by decide +kernel
theorem dW_970 : decode code 970 = .ok (.if_icmp .eq 81, 3) := by decide +kernel
theorem dW_973 : decode code 973 = .ok (.iconst 0, 1) := by decide +kernel
theorem dW_974 : decode code 974 = .ok (.ireturn, 1) := by decide +kernel
theorem dW_975 : decode code 975 = .ok (.aload_n 1, 1) := by decide +kernel
theorem dW_976 : decode code 976 = .ok (.aload_n 0, 1) := by decide +kernel
theorem dW_977 : decode code 977 = .ok (.iload 4, 2) := by decide +kernel
theorem dW_979 : decode code 979 = .ok (.iconst 1, 1) := by decide +kernel
theorem dW_980 : decode code 980 = .ok (.iadd, 1) := by decide +kernel
theorem dW_981 : decode code 981 = .ok (.iaload, 1) := by decide +kernel
theorem dW_982 : decode code 982 = .ok (.invokevirtual 113, 3) := by decide +kernel
theorem dW_985 : decode code 985 = .ok (.aload_n 2, 1) := by decide +kernel
theorem dW_986 : decode code 986 = .ok (.aload_n 0, 1) := by decide +kernel
theorem dW_987 : decode code 987 = .ok (.iload 4, 2) := by decide +kernel
theorem dW_989 : decode code 989 = .ok (.iconst 1, 1) := by decide +kernel
theorem dW_990 : decode code 990 = .ok (.iadd, 1) := by decide +kernel
theorem dW_991 : decode code 991 = .ok (.iaload, 1) := by decide +kernel
theorem dW_992 : decode code 992 = .ok (.invokevirtual 116, 3) := by decide +kernel
theorem dW_995 : decode code 995 = .ok (.if_icmp .eq 56, 3) := by decide +kernel
theorem dW_998 : decode code 998 = .ok (.iconst 0, 1) := by decide +kernel
theorem dW_999 : decode code 999 = .ok (.ireturn, 1) := by decide +kernel
theorem dW_1000 : decode code 1000 = .ok (.aload_n 1, 1) := by decide +kernel
theorem dW_1001 : decode code 1001 = .ok (.invokevirtual 117, 3) := by decide +kernel
theorem dW_1004 : decode code 1004 = .ok (.aload_n 2, 1) := by decide +kernel
theorem dW_1005 : decode code 1005 = .ok (.invokevirtual 120, 3) := by decide +kernel
theorem dW_1008 : decode code 1008 = .ok (.if_icmp .eq 43, 3) := by decide +kernel
theorem dW_1011 : decode code 1011 = .ok (.iconst 0, 1) := by decide +kernel
theorem dW_1012 : decode code 1012 = .ok (.ireturn, 1) := by decide +kernel
theorem dW_1013 : decode code 1013 = .ok (.aload_n 1, 1) := by decide +kernel
theorem dW_1014 : decode code 1014 = .ok (.invokevirtual 121, 3) := by decide +kernel
theorem dW_1017 : decode code 1017 = .ok (.aload_n 2, 1) := by decide +kernel
theorem dW_1018 : decode code 1018 = .ok (.invokevirtual 124, 3) := by decide +kernel
theorem dW_1021 : decode code 1021 = .ok (.if_icmp .eq 30, 3) := by decide +kernel
theorem dW_1024 : decode code 1024 = .ok (.iconst 0, 1) := by decide +kernel
theorem dW_1025 : decode code 1025 = .ok (.ireturn, 1) := by decide +kernel
theorem dW_1026 : decode code 1026 = .ok (.aload_n 1, 1) := by decide +kernel
theorem dW_1027 : decode code 1027 = .ok (.aload_n 0, 1) := by decide +kernel
theorem dW_1028 : decode code 1028 = .ok (.iload 4, 2) := by decide +kernel
theorem dW_1030 : decode code 1030 = .ok (.iconst 1, 1) := by decide +kernel
theorem dW_1031 : decode code 1031 = .ok (.iadd, 1) := by decide +kernel
theorem dW_1032 : decode code 1032 = .ok (.iaload, 1) := by decide +kernel
theorem dW_1033 : decode code 1033 = .ok (.invokevirtual 125, 3) := by decide +kernel
theorem dW_1036 : decode code 1036 = .ok (.aload_n 2, 1) := by decide +kernel
theorem dW_1037 : decode code 1037 = .ok (.aload_n 0, 1) := by decide +kernel
theorem dW_1038 : decode code 1038 = .ok (.iload 4, 2) := by decide +kernel
theorem dW_1040 : decode code 1040 = .ok (.iconst 1, 1) := by decide +kernel
theorem dW_1041 : decode code 1041 = .ok (.iadd, 1) := by decide +kernel
theorem dW_1042 : decode code 1042 = .ok (.iaload, 1) := by decide +kernel
theorem dW_1043 : decode code 1043 = .ok (.invokevirtual 128, 3) := by decide +kernel
theorem dW_1046 : decode code 1046 = .ok (.if_icmp .eq 5, 3) := by decide +kernel
theorem dW_1049 : decode code 1049 = .ok (.iconst 0, 1) := by decide +kernel
theorem dW_1050 : decode code 1050 = .ok (.ireturn, 1) := by decide +kernel
theorem dW_1051 : decode code 1051 = .ok (.iinc 4 5, 3) := by decide +kernel
theorem dW_1054 : decode code 1054 = .ok (.goto (-1031), 3) := by decide +kernel
theorem dW_1057 : decode code 1057 = .ok (.iconst 1, 1) := by decide +kernel
theorem dW_1058 : decode code 1058 = .ok (.ireturn, 1) := by decide +kernel
