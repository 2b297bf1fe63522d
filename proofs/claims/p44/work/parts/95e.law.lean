set_option maxRecDepth 20000 in
theorem dL_866 : decode code 866 = .ok (.iconst 1, 1) := by decide +kernel
set_option maxRecDepth 20000 in
theorem dL_867 : decode code 867 = .ok (.iadd, 1) := by decide +kernel
set_option maxRecDepth 20000 in
theorem dL_868 : decode code 868 = .ok (.iaload, 1) := by decide +kernel
set_option maxRecDepth 20000 in
theorem dL_869 : decode code 869 = .ok (.invokevirtual 106, 3) := by decide +kernel
set_option maxRecDepth 20000 in
theorem dL_872 : decode code 872 = .ok (.pop, 1) := by decide +kernel
set_option maxRecDepth 20000 in
theorem dL_873 : decode code 873 = .ok (.goto 656, 3) := by decide +kernel
set_option maxRecDepth 20000 in
theorem dL_876 : decode code 876 = .ok (.aload_n 1, 1) := by decide +kernel
set_option maxRecDepth 20000 in
theorem dL_877 : decode code 877 = .ok (.invokevirtual 107, 3) := by decide +kernel
set_option maxRecDepth 20000 in
theorem dL_880 : decode code 880 = .ok (.pop, 1) := by decide +kernel
set_option maxRecDepth 20000 in
theorem dL_881 : decode code 881 = .ok (.aload_n 2, 1) := by decide +kernel
set_option maxRecDepth 20000 in
theorem dL_882 : decode code 882 = .ok (.invokevirtual 110, 3) := by decide +kernel
set_option maxRecDepth 20000 in
theorem dL_885 : decode code 885 = .ok (.pop, 1) := by decide +kernel
set_option maxRecDepth 20000 in
theorem dL_886 : decode code 886 = .ok (.goto 643, 3) := by decide +kernel
set_option maxRecDepth 20000 in
theorem dL_889 : decode code 889 = .ok (.aload_n 1, 1) := by decide +kernel
set_option maxRecDepth 20000 in
theorem dL_890 : decode code 890 = .ok (.invokevirtual 111, 3) := by decide +kernel
set_option maxRecDepth 20000 in
theorem dL_893 : decode code 893 = .ok (.pop, 1) := by decide +kernel
set_option maxRecDepth 20000 in
theorem dL_894 : decode code 894 = .ok (.aload_n 2, 1) := by decide +kernel
set_option maxRecDepth 20000 in
theorem dL_895 : decode code 895 = .ok (.invokevirtual 114, 3) := by decide +kernel
set_option maxRecDepth 20000 in
theorem dL_898 : decode code 898 = .ok (.pop, 1) := by decide +kernel
set_option maxRecDepth 20000 in
theorem dL_899 : decode code 899 = .ok (.goto 630, 3) := by decide +kernel
set_option maxRecDepth 20000 in
theorem dL_902 : decode code 902 = .ok (.aload_n 1, 1) := by decide +kernel
set_option maxRecDepth 20000 in
theorem dL_903 : decode code 903 = .ok (.aload_n 0, 1) := by decide +kernel
set_option maxRecDepth 20000 in
theorem dL_904 : decode code 904 = .ok (.iload_n 3, 1) := by decide +kernel
set_option maxRecDepth 20000 in
theorem dL_905 : decode code 905 = .ok (.iconst 1, 1) := by decide +kernel
set_option maxRecDepth 20000 in
theorem dL_906 : decode code 906 = .ok (.iadd, 1) := by decide +kernel
set_option maxRecDepth 20000 in
theorem dL_907 : decode code 907 = .ok (.iaload, 1) := by decide +kernel
set_option maxRecDepth 20000 in
theorem dL_908 : decode code 908 = .ok (.aload_n 0, 1) := by decide +kernel
set_option maxRecDepth 20000 in
theorem dL_909 : decode code 909 = .ok (.iload_n 3, 1) := by decide +kernel
set_option maxRecDepth 20000 in
theorem dL_910 : decode code 910 = .ok (.iconst 2, 1) := by decide +kernel
set_option maxRecDepth 20000 in
theorem dL_911 : decode code 911 = .ok (.iadd, 1) := by decide +kernel
set_option maxRecDepth 20000 in
theorem dL_912 : decode code 912 = .ok (.iaload, 1) := by decide +kernel
set_option maxRecDepth 20000 in
theorem dL_913 : decode code 913 = .ok (.invokevirtual 115, 3) := by decide +kernel
set_option maxRecDepth 20000 in
theorem dL_916 : decode code 916 = .ok (.pop, 1) := by decide +kernel
set_option maxRecDepth 20000 in
theorem dL_917 : decode code 917 = .ok (.aload_n 2, 1) := by decide +kernel
set_option maxRecDepth 20000 in
theorem dL_918 : decode code 918 = .ok (.aload_n 0, 1) := by decide +kernel
set_option maxRecDepth 20000 in
theorem dL_919 : decode code 919 = .ok (.iload_n 3, 1) := by decide +kernel
set_option maxRecDepth 20000 in
theorem dL_920 : decode code 920 = .ok (.iconst 1, 1) := by decide +kernel
set_option maxRecDepth 20000 in
theorem dL_921 : decode code 921 = .ok (.iadd, 1) := by decide +kernel
set_option maxRecDepth 20000 in
theorem dL_922 : decode code 922 = .ok (.iaload, 1) := by decide +kernel
set_option maxRecDepth 20000 in
theorem dL_923 : decode code 923 = .ok (.aload_n 0, 1) := by decide +kernel
set_option maxRecDepth 20000 in
theorem dL_924 : decode code 924 = .ok (.iload_n 3, 1) := by decide +kernel
set_option maxRecDepth 20000 in
theorem dL_925 : decode code 925 = .ok (.iconst 2, 1) := by decide +kernel
set_option maxRecDepth 20000 in
theorem dL_926 : decode code 926 = .ok (.iadd, 1) := by decide +kernel
set_option maxRecDepth 20000 in
theorem dL_927 : decode code 927 = .ok (.iaload, 1) := by decide +kernel
set_option maxRecDepth 20000 in
theorem dL_928 : decode code 928 = .ok (.invokevirtual 118, 3) := by decide +kernel
set_option maxRecDepth 20000 in
theorem dL_931 : decode code 931 = .ok (.pop, 1) := by decide +kernel
set_option maxRecDepth 20000 in
theorem dL_932 : decode code 932 = .ok (.goto 597, 3) := by decide +kernel
set_option maxRecDepth 20000 in
theorem dL_935 : decode code 935 = .ok (.aload_n 1, 1) := by decide +kernel
set_option maxRecDepth 20000 in
theorem dL_936 : decode code 936 = .ok (.aload_n 0, 1) := by decide +kernel
set_option maxRecDepth 20000 in
theorem dL_937 : decode code 937 = .ok (.iload_n 3, 1) := by decide +kernel
set_option maxRecDepth 20000 in
theorem dL_938 : decode code 938 = .ok (.iconst 1, 1) := by decide +kernel
set_option maxRecDepth 20000 in
theorem dL_939 : decode code 939 = .ok (.iadd, 1) := by decide +kernel
set_option maxRecDepth 20000 in
theorem dL_940 : decode code 940 = .ok (.iaload, 1) := by decide +kernel
set_option maxRecDepth 20000 in
theorem dL_941 : decode code 941 = .ok (.aload_n 0, 1) := by decide +kernel
set_option maxRecDepth 20000 in
theorem dL_942 : decode code 942 = .ok (.iload_n 3, 1) := by decide +kernel
set_option maxRecDepth 20000 in
theorem dL_943 : decode code 943 = .ok (.iconst 2, 1) := by decide +kernel
set_option maxRecDepth 20000 in
theorem dL_944 : decode code 944 = .ok (.iadd, 1) := by decide +kernel
set_option maxRecDepth 20000 in
theorem dL_945 : decode code 945 = .ok (.iaload, 1) := by decide +kernel
set_option maxRecDepth 20000 in
theorem dL_946 : decode code 946 = .ok (.aload_n 0, 1) := by decide +kernel
set_option maxRecDepth 20000 in
theorem dL_947 : decode code 947 = .ok (.iload_n 3, 1) := by decide +kernel
set_option maxRecDepth 20000 in
theorem dL_948 : decode code 948 = .ok (.iconst 3, 1) := by decide +kernel
set_option maxRecDepth 20000 in
theorem dL_949 : decode code 949 = .ok (.iadd, 1) := by decide +kernel
set_option maxRecDepth 20000 in
theorem dL_950 : decode code 950 = .ok (.iaload, 1) := by decide +kernel
set_option maxRecDepth 20000 in
theorem dL_951 : decode code 951 = .ok (.invokevirtual 119, 3) := by decide +kernel
set_option maxRecDepth 20000 in
theorem dL_954 : decode code 954 = .ok (.pop, 1) := by decide +kernel
set_option maxRecDepth 20000 in
theorem dL_955 : decode code 955 = .ok (.aload_n 2, 1) := by decide +kernel
set_option maxRecDepth 20000 in
theorem dL_956 : decode code 956 = .ok (.aload_n 0, 1) := by decide +kernel
set_option maxRecDepth 20000 in
theorem dL_957 : decode code 957 = .ok (.iload_n 3, 1) := by decide +kernel
set_option maxRecDepth 20000 in
theorem dL_958 : decode code 958 = .ok (.iconst 1, 1) := by decide +kernel
set_option maxRecDepth 20000 in
theorem dL_959 : decode code 959 = .ok (.iadd, 1) := by decide +kernel
set_option maxRecDepth 20000 in
theorem dL_960 : decode code 960 = .ok (.iaload, 1) := by decide +kernel
set_option maxRecDepth 20000 in
theorem dL_961 : decode code 961 = .ok (.aload_n 0, 1) := by decide +kernel
set_option maxRecDepth 20000 in
theorem dL_962 : decode code 962 = .ok (.iload_n 3, 1) := by decide +kernel
set_option maxRecDepth 20000 in
theorem dL_963 : decode code 963 = .ok (.iconst 2, 1) := by decide +kernel
set_option maxRecDepth 20000 in
theorem dL_964 : decode code 964 = .ok (.iadd, 1) := by decide +kernel
set_option maxRecDepth 20000 in
theorem dL_965 : decode code 965 = .ok (.iaload, 1) := by decide +kernel
set_option maxRecDepth 20000 in
theorem dL_966 : decode code 966 = .ok (.aload_n 0, 1) := by decide +kernel
set_option maxRecDepth 20000 in
theorem dL_967 : decode code 967 = .ok (.iload_n 3, 1) := by decide +kernel
set_option maxRecDepth 20000 in
theorem dL_968 : decode code 968 = .ok (.iconst 3, 1) := by decide +kernel
set_option maxRecDepth 20000 in
theorem dL_969 : decode code 969 = .ok (.iadd, 1) := by decide +kernel
set_option maxRecDepth 20000 in
theorem dL_970 : decode code 970 = .ok (.iaload, 1) := by decide +kernel
set_option maxRecDepth 20000 in
theorem dL_971 : decode code 971 = .ok (.invokevirtual 122, 3) := by decide +kernel
set_option maxRecDepth 20000 in
theorem dL_974 : decode code 974 = .ok (.pop, 1) := by decide +kernel
set_option maxRecDepth 20000 in
theorem dL_975 : decode code 975 = .ok (.goto 554, 3) := by decide +kernel
set_option maxRecDepth 20000 in
theorem dL_978 : decode code 978 = .ok (.aload_n 1, 1) := by decide +kernel
set_option maxRecDepth 20000 in
theorem dL_979 : decode code 979 = .ok (.invokevirtual 123, 3) := by decide +kernel
set_option maxRecDepth 20000 in
theorem dL_982 : decode code 982 = .ok (.pop, 1) := by decide +kernel
set_option maxRecDepth 20000 in
theorem dL_983 : decode code 983 = .ok (.aload_n 2, 1) := by decide +kernel
set_option maxRecDepth 20000 in
theorem dL_984 : decode code 984 = .ok (.invokevirtual 126, 3) := by decide +kernel
set_option maxRecDepth 20000 in
theorem dL_987 : decode code 987 = .ok (.pop, 1) := by decide +kernel
set_option maxRecDepth 20000 in
theorem dL_988 : decode code 988 = .ok (.goto 541, 3) := by decide +kernel
set_option maxRecDepth 20000 in
theorem dL_991 : decode code 991 = .ok (.aload_n 1, 1) := by decide +kernel
set_option maxRecDepth 20000 in
theorem dL_992 : decode code 992 = .ok (.aload_n 0, 1) := by decide +kernel
set_option maxRecDepth 20000 in
theorem dL_993 : decode code 993 = .ok (.iload_n 3, 1) := by decide +kernel
set_option maxRecDepth 20000 in
theorem dL_994 : decode code 994 = .ok (.iconst 1, 1) := by decide +kernel
set_option maxRecDepth 20000 in
theorem dL_995 : decode code 995 = .ok (.iadd, 1) := by decide +kernel
set_option maxRecDepth 20000 in
theorem dL_996 : decode code 996 = .ok (.iaload, 1) := by decide +kernel
set_option maxRecDepth 20000 in
theorem dL_997 : decode code 997 = .ok (.invokevirtual 127, 3) := by decide +kernel
set_option maxRecDepth 20000 in
theorem dL_1000 : decode code 1000 = .ok (.pop, 1) := by decide +kernel
set_option maxRecDepth 20000 in
theorem dL_1001 : decode code 1001 = .ok (.aload_n 2, 1) := by decide +kernel
set_option maxRecDepth 20000 in
theorem dL_1002 : decode code 1002 = .ok (.aload_n 0, 1) := by decide +kernel
set_option maxRecDepth 20000 in
theorem dL_1003 : decode code 1003 = .ok (.iload_n 3, 1) := by decide +kernel
set_option maxRecDepth 20000 in
theorem dL_1004 : decode code 1004 = .ok (.iconst 1, 1) := by decide +kernel
set_option maxRecDepth 20000 in
theorem dL_1005 : decode code 1005 = .ok (.iadd, 1) := by decide +kernel
set_option maxRecDepth 20000 in
theorem dL_1006 : decode code 1006 = .ok (.iaload, 1) := by decide +kernel
set_option maxRecDepth 20000 in
theorem dL_1007 : decode code 1007 = .ok (.invokevirtual 130, 3) := by decide +kernel
set_option maxRecDepth 20000 in
theorem dL_1010 : decode code 1010 = .ok (.pop, 1) := by decide +kernel
set_option maxRecDepth 20000 in
theorem dL_1011 : decode code 1011 = .ok (.goto 518, 3) := by decide +kernel
set_option maxRecDepth 20000 in
theorem dL_1014 : decode code 1014 = .ok (.aload_n 1, 1) := by decide +kernel
set_option maxRecDepth 20000 in
theorem dL_1015 : decode code 1015 = .ok (.aload_n 0, 1) := by decide +kernel
set_option maxRecDepth 20000 in
theorem dL_1016 : decode code 1016 = .ok (.iload_n 3, 1) := by decide +kernel
set_option maxRecDepth 20000 in
theorem dL_1017 : decode code 1017 = .ok (.iconst 1, 1) := by decide +kernel
set_option maxRecDepth 20000 in
theorem dL_1018 : decode code 1018 = .ok (.iadd, 1) := by decide +kernel
set_option maxRecDepth 20000 in
theorem dL_1019 : decode code 1019 = .ok (.iaload, 1) := by decide +kernel
set_option maxRecDepth 20000 in
theorem dL_1020 : decode code 1020 = .ok (.invokevirtual 131, 3) := by decide +kernel
set_option maxRecDepth 20000 in
theorem dL_1023 : decode code 1023 = .ok (.pop, 1) := by decide +kernel
set_option maxRecDepth 20000 in
theorem dL_1024 : decode code 1024 = .ok (.aload_n 2, 1) := by decide +kernel
set_option maxRecDepth 20000 in
theorem dL_1025 : decode code 1025 = .ok (.aload_n 0, 1) := by decide +kernel
set_option maxRecDepth 20000 in
theorem dL_1026 : decode code 1026 = .ok (.iload_n 3, 1) := by decide +kernel
set_option maxRecDepth 20000 in
theorem dL_1027 : decode code 1027 = .ok (.iconst 1, 1) := by decide +kernel
set_option maxRecDepth 20000 in
theorem dL_1028 : decode code 1028 = .ok (.iadd, 1) := by decide +kernel
set_option maxRecDepth 20000 in
theorem dL_1029 : decode code 1029 = .ok (.iaload, 1) := by decide +kernel
set_option maxRecDepth 20000 in
theorem dL_1030 : decode code 1030 = .ok (.invokevirtual 134, 3) := by decide +kernel
set_option maxRecDepth 20000 in
theorem dL_1033 : decode code 1033 = .ok (.pop, 1) := by decide +kernel
set_option maxRecDepth 20000 in
theorem dL_1034 : decode code 1034 = .ok (.goto 495, 3) := by decide +kernel
set_option maxRecDepth 20000 in
theorem dL_1037 : decode code 1037 = .ok (.aload_n 1, 1) := by decide +kernel
set_option maxRecDepth 20000 in
theorem dL_1038 : decode code 1038 = .ok (.invokevirtual 135, 3) := by decide +kernel
set_option maxRecDepth 20000 in
theorem dL_1041 : decode code 1041 = .ok (.pop2, 1) := by decide +kernel
set_option maxRecDepth 20000 in
theorem dL_1042 : decode code 1042 = .ok (.aload_n 2, 1) := by decide +kernel
set_option maxRecDepth 20000 in
theorem dL_1043 : decode code 1043 = .ok (.invokevirtual 139, 3) := by decide +kernel
set_option maxRecDepth 20000 in
theorem dL_1046 : decode code 1046 = .ok (.pop2, 1) := by decide +kernel
set_option maxRecDepth 20000 in
theorem dL_1047 : decode code 1047 = .ok (.goto 482, 3) := by decide +kernel
set_option maxRecDepth 20000 in
theorem dL_1050 : decode code 1050 = .ok (.aload_n 1, 1) := by decide +kernel
set_option maxRecDepth 20000 in
theorem dL_1051 : decode code 1051 = .ok (.aload_n 0, 1) := by decide +kernel
set_option maxRecDepth 20000 in
theorem dL_1052 : decode code 1052 = .ok (.iload_n 3, 1) := by decide +kernel
