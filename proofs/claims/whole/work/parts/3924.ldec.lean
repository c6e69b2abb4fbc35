/-! ===== the law, decoded ===== -/
theorem dL_912 : decode code 912 = .ok (.iconst 4, 1) := by decide +kernel
theorem dL_913 : decode code 913 = .ok (.iadd, 1) := by decide +kernel
theorem dL_914 : decode code 914 = .ok (.iaload, 1) := by decide +kernel
theorem dL_915 : decode code 915 = .ok (.invokevirtual 118, 3) := by decide +kernel
theorem dL_918 : decode code 918 = .ok (.if_icmp .eq 305, 3) := by decide +kernel
theorem dL_921 : decode code 921 = .ok (.iconst 0, 1) := by decide +kernel
theorem dL_922 : decode code 922 = .ok (.ireturn, 1) := by decide +kernel
theorem dL_923 : decode code 923 = .ok (.aload_n 1, 1) := by decide +kernel
theorem dL_924 : decode code 924 = .ok (.aload_n 0, 1) := by decide +kernel
theorem dL_925 : decode code 925 = .ok (.iload_n 3, 1) := by decide +kernel
theorem dL_926 : decode code 926 = .ok (.iconst 1, 1) := by decide +kernel
theorem dL_927 : decode code 927 = .ok (.iadd, 1) := by decide +kernel
theorem dL_928 : decode code 928 = .ok (.iaload, 1) := by decide +kernel
theorem dL_929 : decode code 929 = .ok (.invokevirtual 119, 3) := by decide +kernel
theorem dL_932 : decode code 932 = .ok (.aload_n 2, 1) := by decide +kernel
theorem dL_933 : decode code 933 = .ok (.aload_n 0, 1) := by decide +kernel
theorem dL_934 : decode code 934 = .ok (.iload_n 3, 1) := by decide +kernel
theorem dL_935 : decode code 935 = .ok (.iconst 1, 1) := by decide +kernel
theorem dL_936 : decode code 936 = .ok (.iadd, 1) := by decide +kernel
theorem dL_937 : decode code 937 = .ok (.iaload, 1) := by decide +kernel
theorem dL_938 : decode code 938 = .ok (.invokevirtual 122, 3) := by decide +kernel
theorem dL_941 : decode code 941 = .ok (.if_icmp .eq 282, 3) := by decide +kernel
theorem dL_944 : decode code 944 = .ok (.iconst 0, 1) := by decide +kernel
theorem dL_945 : decode code 945 = .ok (.ireturn, 1) := by decide +kernel
theorem dL_946 : decode code 946 = .ok (.aload_n 1, 1) := by decide +kernel
theorem dL_947 : decode code 947 = .ok (.aload_n 0, 1) := by decide +kernel
theorem dL_948 : decode code 948 = .ok (.iload_n 3, 1) := by decide +kernel
theorem dL_949 : decode code 949 = .ok (.iconst 1, 1) := by decide +kernel
theorem dL_950 : decode code 950 = .ok (.iadd, 1) := by decide +kernel
theorem dL_951 : decode code 951 = .ok (.iaload, 1) := by decide +kernel
theorem dL_952 : decode code 952 = .ok (.aload_n 0, 1) := by decide +kernel
theorem dL_953 : decode code 953 = .ok (.iload_n 3, 1) := by decide +kernel
theorem dL_954 : decode code 954 = .ok (.iconst 2, 1) := by decide +kernel
theorem dL_955 : decode code 955 = .ok (.iadd, 1) := by decide +kernel
theorem dL_956 : decode code 956 = .ok (.iaload, 1) := by decide +kernel
theorem dL_957 : decode code 957 = .ok (.invokevirtual 123, 3) := by decide +kernel
theorem dL_960 : decode code 960 = .ok (.aload_n 2, 1) := by decide +kernel
theorem dL_961 : decode code 961 = .ok (.aload_n 0, 1) := by decide +kernel
theorem dL_962 : decode code 962 = .ok (.iload_n 3, 1) := by decide +kernel
theorem dL_963 : decode code 963 = .ok (.iconst 1, 1) := by decide +kernel
theorem dL_964 : decode code 964 = .ok (.iadd, 1) := by decide +kernel
theorem dL_965 : decode code 965 = .ok (.iaload, 1) := by decide +kernel
theorem dL_966 : decode code 966 = .ok (.aload_n 0, 1) := by decide +kernel
theorem dL_967 : decode code 967 = .ok (.iload_n 3, 1) := by decide +kernel
theorem dL_968 : decode code 968 = .ok (.iconst 2, 1) := by decide +kernel
theorem dL_969 : decode code 969 = .ok (.iadd, 1) := by decide +kernel
theorem dL_970 : decode code 970 = .ok (.iaload, 1) := by decide +kernel
theorem dL_971 : decode code 971 = .ok (.invokevirtual 126, 3) := by decide +kernel
theorem dL_974 : decode code 974 = .ok (.if_icmp .eq 249, 3) := by decide +kernel
theorem dL_977 : decode code 977 = .ok (.iconst 0, 1) := by decide +kernel
theorem dL_978 : decode code 978 = .ok (.ireturn, 1) := by decide +kernel
theorem dL_979 : decode code 979 = .ok (.aload_n 1, 1) := by decide +kernel
theorem dL_980 : decode code 980 = .ok (.aload_n 0, 1) := by decide +kernel
theorem dL_981 : decode code 981 = .ok (.iload_n 3, 1) := by decide +kernel
theorem dL_982 : decode code 982 = .ok (.iconst 1, 1) := by decide +kernel
theorem dL_983 : decode code 983 = .ok (.iadd, 1) := by decide +kernel
theorem dL_984 : decode code 984 = .ok (.iaload, 1) := by decide +kernel
theorem dL_985 : decode code 985 = .ok (.aload_n 0, 1) := by decide +kernel
theorem dL_986 : decode code 986 = .ok (.iload_n 3, 1) := by decide +kernel
theorem dL_987 : decode code 987 = .ok (.iconst 2, 1) := by decide +kernel
theorem dL_988 : decode code 988 = .ok (.iadd, 1) := by decide +kernel
theorem dL_989 : decode code 989 = .ok (.iaload, 1) := by decide +kernel
theorem dL_990 : decode code 990 = .ok (.aload_n 0, 1) := by decide +kernel
theorem dL_991 : decode code 991 = .ok (.iload_n 3, 1) := by decide +kernel
theorem dL_992 : decode code 992 = .ok (.iconst 3, 1) := by decide +kernel
theorem dL_993 : decode code 993 = .ok (.iadd, 1) := by decide +kernel
theorem dL_994 : decode code 994 = .ok (.iaload, 1) := by decide +kernel
theorem dL_995 : decode code 995 = .ok (.invokevirtual 127, 3) := by decide +kernel
theorem dL_998 : decode code 998 = .ok (.aload_n 2, 1) := by decide +kernel
theorem dL_999 : decode code 999 = .ok (.aload_n 0, 1) := by decide +kernel
theorem dL_1000 : decode code 1000 = .ok (.iload_n 3, 1) := by decide +kernel
theorem dL_1001 : decode code 1001 = .ok (.iconst 1, 1) := by decide +kernel
theorem dL_1002 : decode code 1002 = .ok (.iadd, 1) := by decide +kernel
theorem dL_1003 : decode code 1003 = .ok (.iaload, 1) := by decide +kernel
theorem dL_1004 : decode code 1004 = .ok (.aload_n 0, 1) := by decide +kernel
theorem dL_1005 : decode code 1005 = .ok (.iload_n 3, 1) := by decide +kernel
theorem dL_1006 : decode code 1006 = .ok (.iconst 2, 1) := by decide +kernel
theorem dL_1007 : decode code 1007 = .ok (.iadd, 1) := by decide +kernel
theorem dL_1008 : decode code 1008 = .ok (.iaload, 1) := by decide +kernel
theorem dL_1009 : decode code 1009 = .ok (.aload_n 0, 1) := by decide +kernel
theorem dL_1010 : decode code 1010 = .ok (.iload_n 3, 1) := by decide +kernel
theorem dL_1011 : decode code 1011 = .ok (.iconst 3, 1) := by decide +kernel
theorem dL_1012 : decode code 1012 = .ok (.iadd, 1) := by decide +kernel
theorem dL_1013 : decode code 1013 = .ok (.iaload, 1) := by decide +kernel
theorem dL_1014 : decode code 1014 = .ok (.invokevirtual 130, 3) := by decide +kernel
theorem dL_1017 : decode code 1017 = .ok (.if_icmp .eq 206, 3) := by decide +kernel
theorem dL_1020 : decode code 1020 = .ok (.iconst 0, 1) := by decide +kernel
theorem dL_1021 : decode code 1021 = .ok (.ireturn, 1) := by decide +kernel
theorem dL_1022 : decode code 1022 = .ok (.aload_n 1, 1) := by decide +kernel
theorem dL_1023 : decode code 1023 = .ok (.aload_n 0, 1) := by decide +kernel
theorem dL_1024 : decode code 1024 = .ok (.iload_n 3, 1) := by decide +kernel
theorem dL_1025 : decode code 1025 = .ok (.iconst 1, 1) := by decide +kernel
theorem dL_1026 : decode code 1026 = .ok (.iadd, 1) := by decide +kernel
theorem dL_1027 : decode code 1027 = .ok (.iaload, 1) := by decide +kernel
theorem dL_1028 : decode code 1028 = .ok (.invokevirtual 131, 3) := by decide +kernel
theorem dL_1031 : decode code 1031 = .ok (.aload_n 2, 1) := by decide +kernel
theorem dL_1032 : decode code 1032 = .ok (.aload_n 0, 1) := by decide +kernel
theorem dL_1033 : decode code 1033 = .ok (.iload_n 3, 1) := by decide +kernel
theorem dL_1034 : decode code 1034 = .ok (.iconst 1, 1) := by decide +kernel
theorem dL_1035 : decode code 1035 = .ok (.iadd, 1) := by decide +kernel
theorem dL_1036 : decode code 1036 = .ok (.iaload, 1) := by decide +kernel
theorem dL_1037 : decode code 1037 = .ok (.invokevirtual 134, 3) := by decide +kernel
theorem dL_1040 : decode code 1040 = .ok (.if_icmp .eq 183, 3) := by decide +kernel
theorem dL_1043 : decode code 1043 = .ok (.iconst 0, 1) := by decide +kernel
theorem dL_1044 : decode code 1044 = .ok (.ireturn, 1) := by decide +kernel
theorem dL_1045 : decode code 1045 = .ok (.aload_n 1, 1) := by decide +kernel
theorem dL_1046 : decode code 1046 = .ok (.aload_n 0, 1) := by decide +kernel
theorem dL_1047 : decode code 1047 = .ok (.iload_n 3, 1) := by decide +kernel
theorem dL_1048 : decode code 1048 = .ok (.iconst 1, 1) := by decide +kernel
theorem dL_1049 : decode code 1049 = .ok (.iadd, 1) := by decide +kernel
theorem dL_1050 : decode code 1050 = .ok (.iaload, 1) := by decide +kernel
theorem dL_1051 : decode code 1051 = .ok (.aload_n 0, 1) := by decide +kernel
theorem dL_1052 : decode code 1052 = .ok (.iload_n 3, 1) := by decide +kernel
theorem dL_1053 : decode code 1053 = .ok (.iconst 2, 1) := by decide +kernel
theorem dL_1054 : decode code 1054 = .ok (.iadd, 1) := by decide +kernel
theorem dL_1055 : decode code 1055 = .ok (.iaload, 1) := by decide +kernel
theorem dL_1056 : decode code 1056 = .ok (.invokevirtual 135, 3) := by decide +kernel
theorem dL_1059 : decode code 1059 = .ok (.aload_n 2, 1) := by decide +kernel
theorem dL_1060 : decode code 1060 = .ok (.aload_n 0, 1) := by decide +kernel
theorem dL_1061 : decode code 1061 = .ok (.iload_n 3, 1) := by decide +kernel
theorem dL_1062 : decode code 1062 = .ok (.iconst 1, 1) := by decide +kernel
theorem dL_1063 : decode code 1063 = .ok (.iadd, 1) := by decide +kernel
theorem dL_1064 : decode code 1064 = .ok (.iaload, 1) := by decide +kernel
theorem dL_1065 : decode code 1065 = .ok (.aload_n 0, 1) := by decide +kernel
theorem dL_1066 : decode code 1066 = .ok (.iload_n 3, 1) := by decide +kernel
theorem dL_1067 : decode code 1067 = .ok (.iconst 2, 1) := by decide +kernel
theorem dL_1068 : decode code 1068 = .ok (.iadd, 1) := by decide +kernel
theorem dL_1069 : decode code 1069 = .ok (.iaload, 1) := by decide +kernel
theorem dL_1070 : decode code 1070 = .ok (.invokevirtual 138, 3) := by decide +kernel
theorem dL_1073 : decode code 1073 = .ok (.if_icmp .eq 150, 3) := by decide +kernel
theorem dL_1076 : decode code 1076 = .ok (.iconst 0, 1) := by decide +kernel
theorem dL_1077 : decode code 1077 = .ok (.ireturn, 1) := by decide +kernel
theorem dL_1078 : decode code 1078 = .ok (.aload_n 1, 1) := by decide +kernel
theorem dL_1079 : decode code 1079 = .ok (.aload_n 0, 1) := by decide +kernel
theorem dL_1080 : decode code 1080 = .ok (.iload_n 3, 1) := by decide +kernel
theorem dL_1081 : decode code 1081 = .ok (.iconst 1, 1) := by decide +kernel
theorem dL_1082 : decode code 1082 = .ok (.iadd, 1) := by decide +kernel
theorem dL_1083 : decode code 1083 = .ok (.iaload, 1) := by decide +kernel
theorem dL_1084 : decode code 1084 = .ok (.invokevirtual 139, 3) := by decide +kernel
theorem dL_1087 : decode code 1087 = .ok (.aload_n 2, 1) := by decide +kernel
theorem dL_1088 : decode code 1088 = .ok (.aload_n 0, 1) := by decide +kernel
theorem dL_1089 : decode code 1089 = .ok (.iload_n 3, 1) := by decide +kernel
theorem dL_1090 : decode code 1090 = .ok (.iconst 1, 1) := by decide +kernel
theorem dL_1091 : decode code 1091 = .ok (.iadd, 1) := by decide +kernel
theorem dL_1092 : decode code 1092 = .ok (.iaload, 1) := by decide +kernel
theorem dL_1093 : decode code 1093 = .ok (.invokevirtual 142, 3) := by decide +kernel
theorem dL_1096 : decode code 1096 = .ok (.if_icmp .eq 127, 3) := by decide +kernel
theorem dL_1099 : decode code 1099 = .ok (.iconst 0, 1) := by decide +kernel
theorem dL_1100 : decode code 1100 = .ok (.ireturn, 1) := by decide +kernel
theorem dL_1101 : decode code 1101 = .ok (.aload_n 1, 1) := by decide +kernel
