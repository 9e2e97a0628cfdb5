/-! DECODED INSTRUCTIONS OF THE LAW -/
theorem d_W_law_924 : decode code 924 = .ok (.goto 59, 3) := by decide +kernel
theorem d_W_law_927 : decode code 927 = .ok (.aload_n 1, 1) := by decide +kernel
theorem d_W_law_928 : decode code 928 = .ok (.aload_n 0, 1) := by decide +kernel
theorem d_W_law_929 : decode code 929 = .ok (.iload 5, 2) := by decide +kernel
theorem d_W_law_931 : decode code 931 = .ok (.iconst 1, 1) := by decide +kernel
theorem d_W_law_932 : decode code 932 = .ok (.iadd, 1) := by decide +kernel
theorem d_W_law_933 : decode code 933 = .ok (.iaload, 1) := by decide +kernel
theorem d_W_law_934 : decode code 934 = .ok (.aload_n 3, 1) := by decide +kernel
theorem d_W_law_935 : decode code 935 = .ok (.invokestatic 129, 3) := by decide +kernel
theorem d_W_law_938 : decode code 938 = .ok (.istore 6, 2) := by decide +kernel
theorem d_W_law_940 : decode code 940 = .ok (.aload_n 2, 1) := by decide +kernel
theorem d_W_law_941 : decode code 941 = .ok (.aload_n 0, 1) := by decide +kernel
theorem d_W_law_942 : decode code 942 = .ok (.iload 5, 2) := by decide +kernel
theorem d_W_law_944 : decode code 944 = .ok (.iconst 1, 1) := by decide +kernel
theorem d_W_law_945 : decode code 945 = .ok (.iadd, 1) := by decide +kernel
theorem d_W_law_946 : decode code 946 = .ok (.iaload, 1) := by decide +kernel
theorem d_W_law_947 : decode code 947 = .ok (.invokevirtual 131, 3) := by decide +kernel
theorem d_W_law_950 : decode code 950 = .ok (.istore 7, 2) := by decide +kernel
theorem d_W_law_952 : decode code 952 = .ok (.aload_n 2, 1) := by decide +kernel
theorem d_W_law_953 : decode code 953 = .ok (.invokevirtual 78, 3) := by decide +kernel
theorem d_W_law_956 : decode code 956 = .ok (.iload 6, 2) := by decide +kernel
theorem d_W_law_958 : decode code 958 = .ok (.if_icmp .eq 5, 3) := by decide +kernel
theorem d_W_law_961 : decode code 961 = .ok (.iconst 0, 1) := by decide +kernel
theorem d_W_law_962 : decode code 962 = .ok (.ireturn, 1) := by decide +kernel
theorem d_W_law_963 : decode code 963 = .ok (.iload 6, 2) := by decide +kernel
theorem d_W_law_965 : decode code 965 = .ok (.ifCond .ne 15, 3) := by decide +kernel
theorem d_W_law_968 : decode code 968 = .ok (.aload_n 3, 1) := by decide +kernel
theorem d_W_law_969 : decode code 969 = .ok (.iconst 0, 1) := by decide +kernel
theorem d_W_law_970 : decode code 970 = .ok (.laload, 1) := by decide +kernel
theorem d_W_law_971 : decode code 971 = .ok (.iload 7, 2) := by decide +kernel
theorem d_W_law_973 : decode code 973 = .ok (.i2l, 1) := by decide +kernel
theorem d_W_law_974 : decode code 974 = .ok (.lcmp, 1) := by decide +kernel
theorem d_W_law_975 : decode code 975 = .ok (.ifCond .eq 5, 3) := by decide +kernel
theorem d_W_law_978 : decode code 978 = .ok (.iconst 0, 1) := by decide +kernel
theorem d_W_law_979 : decode code 979 = .ok (.ireturn, 1) := by decide +kernel
theorem d_W_law_980 : decode code 980 = .ok (.goto 3, 3) := by decide +kernel
theorem d_W_law_983 : decode code 983 = .ok (.iinc 5 3, 3) := by decide +kernel
theorem d_W_law_986 : decode code 986 = .ok (.goto (-958), 3) := by decide +kernel
theorem d_W_law_989 : decode code 989 = .ok (.iconst 1, 1) := by decide +kernel
theorem d_W_law_990 : decode code 990 = .ok (.ireturn, 1) := by decide +kernel
