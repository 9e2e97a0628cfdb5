/-! DECODED INSTRUCTIONS OF THE LAW -/
theorem d_W_law_803 : decode code 803 = .ok (.invokevirtual 125, 3) := by decide +kernel
theorem d_W_law_806 : decode code 806 = .ok (.dstore 7, 2) := by decide +kernel
theorem d_W_law_808 : decode code 808 = .ok (.aload_n 2, 1) := by decide +kernel
theorem d_W_law_809 : decode code 809 = .ok (.invokevirtual 78, 3) := by decide +kernel
theorem d_W_law_812 : decode code 812 = .ok (.iload 6, 2) := by decide +kernel
theorem d_W_law_814 : decode code 814 = .ok (.if_icmp .eq 5, 3) := by decide +kernel
theorem d_W_law_817 : decode code 817 = .ok (.iconst 0, 1) := by decide +kernel
theorem d_W_law_818 : decode code 818 = .ok (.ireturn, 1) := by decide +kernel
theorem d_W_law_819 : decode code 819 = .ok (.iload 6, 2) := by decide +kernel
theorem d_W_law_821 : decode code 821 = .ok (.ifCond .ne 35, 3) := by decide +kernel
theorem d_W_law_824 : decode code 824 = .ok (.aload 4, 2) := by decide +kernel
theorem d_W_law_826 : decode code 826 = .ok (.iconst 0, 1) := by decide +kernel
theorem d_W_law_827 : decode code 827 = .ok (.daload, 1) := by decide +kernel
theorem d_W_law_828 : decode code 828 = .ok (.dload 7, 2) := by decide +kernel
theorem d_W_law_830 : decode code 830 = .ok (.dcmp .l, 1) := by decide +kernel
theorem d_W_law_831 : decode code 831 = .ok (.ifCond .eq 25, 3) := by decide +kernel
theorem d_W_law_834 : decode code 834 = .ok (.aload 4, 2) := by decide +kernel
theorem d_W_law_836 : decode code 836 = .ok (.iconst 0, 1) := by decide +kernel
theorem d_W_law_837 : decode code 837 = .ok (.daload, 1) := by decide +kernel
theorem d_W_law_838 : decode code 838 = .ok (.aload 4, 2) := by decide +kernel
theorem d_W_law_840 : decode code 840 = .ok (.iconst 0, 1) := by decide +kernel
theorem d_W_law_841 : decode code 841 = .ok (.daload, 1) := by decide +kernel
theorem d_W_law_842 : decode code 842 = .ok (.dcmp .l, 1) := by decide +kernel
theorem d_W_law_843 : decode code 843 = .ok (.ifCond .eq 11, 3) := by decide +kernel
theorem d_W_law_846 : decode code 846 = .ok (.dload 7, 2) := by decide +kernel
theorem d_W_law_848 : decode code 848 = .ok (.dload 7, 2) := by decide +kernel
theorem d_W_law_850 : decode code 850 = .ok (.dcmp .l, 1) := by decide +kernel
theorem d_W_law_851 : decode code 851 = .ok (.ifCond .ne 5, 3) := by decide +kernel
theorem d_W_law_854 : decode code 854 = .ok (.iconst 0, 1) := by decide +kernel
theorem d_W_law_855 : decode code 855 = .ok (.ireturn, 1) := by decide +kernel
theorem d_W_law_856 : decode code 856 = .ok (.goto 127, 3) := by decide +kernel
theorem d_W_law_859 : decode code 859 = .ok (.aload_n 1, 1) := by decide +kernel
theorem d_W_law_860 : decode code 860 = .ok (.aload_n 0, 1) := by decide +kernel
theorem d_W_law_861 : decode code 861 = .ok (.iload 5, 2) := by decide +kernel
theorem d_W_law_863 : decode code 863 = .ok (.iconst 1, 1) := by decide +kernel
theorem d_W_law_864 : decode code 864 = .ok (.iadd, 1) := by decide +kernel
theorem d_W_law_865 : decode code 865 = .ok (.iaload, 1) := by decide +kernel
theorem d_W_law_866 : decode code 866 = .ok (.aload_n 0, 1) := by decide +kernel
theorem d_W_law_867 : decode code 867 = .ok (.iload 5, 2) := by decide +kernel
theorem d_W_law_869 : decode code 869 = .ok (.iconst 2, 1) := by decide +kernel
theorem d_W_law_870 : decode code 870 = .ok (.iadd, 1) := by decide +kernel
theorem d_W_law_871 : decode code 871 = .ok (.iaload, 1) := by decide +kernel
theorem d_W_law_872 : decode code 872 = .ok (.aload_n 3, 1) := by decide +kernel
theorem d_W_law_873 : decode code 873 = .ok (.invokestatic 126, 3) := by decide +kernel
theorem d_W_law_876 : decode code 876 = .ok (.istore 6, 2) := by decide +kernel
theorem d_W_law_878 : decode code 878 = .ok (.aload_n 2, 1) := by decide +kernel
theorem d_W_law_879 : decode code 879 = .ok (.aload_n 0, 1) := by decide +kernel
theorem d_W_law_880 : decode code 880 = .ok (.iload 5, 2) := by decide +kernel
theorem d_W_law_882 : decode code 882 = .ok (.iconst 1, 1) := by decide +kernel
theorem d_W_law_883 : decode code 883 = .ok (.iadd, 1) := by decide +kernel
theorem d_W_law_884 : decode code 884 = .ok (.iaload, 1) := by decide +kernel
theorem d_W_law_885 : decode code 885 = .ok (.aload_n 0, 1) := by decide +kernel
theorem d_W_law_886 : decode code 886 = .ok (.iload 5, 2) := by decide +kernel
theorem d_W_law_888 : decode code 888 = .ok (.iconst 2, 1) := by decide +kernel
theorem d_W_law_889 : decode code 889 = .ok (.iadd, 1) := by decide +kernel
theorem d_W_law_890 : decode code 890 = .ok (.iaload, 1) := by decide +kernel
theorem d_W_law_891 : decode code 891 = .ok (.invokevirtual 128, 3) := by decide +kernel
theorem d_W_law_894 : decode code 894 = .ok (.istore 7, 2) := by decide +kernel
theorem d_W_law_896 : decode code 896 = .ok (.aload_n 2, 1) := by decide +kernel
theorem d_W_law_897 : decode code 897 = .ok (.invokevirtual 78, 3) := by decide +kernel
theorem d_W_law_900 : decode code 900 = .ok (.iload 6, 2) := by decide +kernel
theorem d_W_law_902 : decode code 902 = .ok (.if_icmp .eq 5, 3) := by decide +kernel
theorem d_W_law_905 : decode code 905 = .ok (.iconst 0, 1) := by decide +kernel
theorem d_W_law_906 : decode code 906 = .ok (.ireturn, 1) := by decide +kernel
theorem d_W_law_907 : decode code 907 = .ok (.iload 6, 2) := by decide +kernel
theorem d_W_law_909 : decode code 909 = .ok (.ifCond .ne 15, 3) := by decide +kernel
theorem d_W_law_912 : decode code 912 = .ok (.aload_n 3, 1) := by decide +kernel
theorem d_W_law_913 : decode code 913 = .ok (.iconst 0, 1) := by decide +kernel
theorem d_W_law_914 : decode code 914 = .ok (.laload, 1) := by decide +kernel
theorem d_W_law_915 : decode code 915 = .ok (.iload 7, 2) := by decide +kernel
theorem d_W_law_917 : decode code 917 = .ok (.i2l, 1) := by decide +kernel
theorem d_W_law_918 : decode code 918 = .ok (.lcmp, 1) := by decide +kernel
theorem d_W_law_919 : decode code 919 = .ok (.ifCond .eq 5, 3) := by decide +kernel
theorem d_W_law_922 : decode code 922 = .ok (.iconst 0, 1) := by decide +kernel
theorem d_W_law_923 : decode code 923 = .ok (.ireturn, 1) := by decide +kernel
