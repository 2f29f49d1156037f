theorem dL_law_864 : decode cL_law 864 = .ok (.iconst 2, 1) := by decide +kernel
theorem dL_law_865 : decode cL_law 865 = .ok (.iadd, 1) := by decide +kernel
theorem dL_law_866 : decode cL_law 866 = .ok (.iaload, 1) := by decide +kernel
theorem dL_law_867 : decode cL_law 867 = .ok (.aload_n 0, 1) := by decide +kernel
theorem dL_law_868 : decode cL_law 868 = .ok (.iload_n 3, 1) := by decide +kernel
theorem dL_law_869 : decode cL_law 869 = .ok (.iconst 3, 1) := by decide +kernel
theorem dL_law_870 : decode cL_law 870 = .ok (.iadd, 1) := by decide +kernel
theorem dL_law_871 : decode cL_law 871 = .ok (.iaload, 1) := by decide +kernel
theorem dL_law_872 : decode cL_law 872 = .ok (.invokevirtual 106, 3) := by decide +kernel
theorem dL_law_875 : decode cL_law 875 = .ok (.if_icmp .eq 68, 3) := by decide +kernel
theorem dL_law_878 : decode cL_law 878 = .ok (.iconst 0, 1) := by decide +kernel
theorem dL_law_879 : decode cL_law 879 = .ok (.ireturn, 1) := by decide +kernel
theorem dL_law_880 : decode cL_law 880 = .ok (.aload_n 1, 1) := by decide +kernel
theorem dL_law_881 : decode cL_law 881 = .ok (.invokevirtual 107, 3) := by decide +kernel
theorem dL_law_884 : decode cL_law 884 = .ok (.aload_n 2, 1) := by decide +kernel
theorem dL_law_885 : decode cL_law 885 = .ok (.invokevirtual 110, 3) := by decide +kernel
theorem dL_law_888 : decode cL_law 888 = .ok (.if_icmp .eq 55, 3) := by decide +kernel
theorem dL_law_891 : decode cL_law 891 = .ok (.iconst 0, 1) := by decide +kernel
theorem dL_law_892 : decode cL_law 892 = .ok (.ireturn, 1) := by decide +kernel
theorem dL_law_893 : decode cL_law 893 = .ok (.aload_n 1, 1) := by decide +kernel
theorem dL_law_894 : decode cL_law 894 = .ok (.invokevirtual 111, 3) := by decide +kernel
theorem dL_law_897 : decode cL_law 897 = .ok (.aload_n 2, 1) := by decide +kernel
theorem dL_law_898 : decode cL_law 898 = .ok (.invokevirtual 114, 3) := by decide +kernel
theorem dL_law_901 : decode cL_law 901 = .ok (.if_icmp .eq 42, 3) := by decide +kernel
theorem dL_law_904 : decode cL_law 904 = .ok (.iconst 0, 1) := by decide +kernel
theorem dL_law_905 : decode cL_law 905 = .ok (.ireturn, 1) := by decide +kernel
theorem dL_law_906 : decode cL_law 906 = .ok (.aload_n 1, 1) := by decide +kernel
theorem dL_law_907 : decode cL_law 907 = .ok (.aload_n 0, 1) := by decide +kernel
theorem dL_law_908 : decode cL_law 908 = .ok (.iload_n 3, 1) := by decide +kernel
theorem dL_law_909 : decode cL_law 909 = .ok (.iconst 1, 1) := by decide +kernel
theorem dL_law_910 : decode cL_law 910 = .ok (.iadd, 1) := by decide +kernel
theorem dL_law_911 : decode cL_law 911 = .ok (.iaload, 1) := by decide +kernel
theorem dL_law_912 : decode cL_law 912 = .ok (.invokevirtual 115, 3) := by decide +kernel
theorem dL_law_915 : decode cL_law 915 = .ok (.aload_n 2, 1) := by decide +kernel
theorem dL_law_916 : decode cL_law 916 = .ok (.aload_n 0, 1) := by decide +kernel
theorem dL_law_917 : decode cL_law 917 = .ok (.iload_n 3, 1) := by decide +kernel
theorem dL_law_918 : decode cL_law 918 = .ok (.iconst 1, 1) := by decide +kernel
theorem dL_law_919 : decode cL_law 919 = .ok (.iadd, 1) := by decide +kernel
theorem dL_law_920 : decode cL_law 920 = .ok (.iaload, 1) := by decide +kernel
theorem dL_law_921 : decode cL_law 921 = .ok (.invokevirtual 118, 3) := by decide +kernel
theorem dL_law_924 : decode cL_law 924 = .ok (.if_icmp .eq 19, 3) := by decide +kernel
theorem dL_law_927 : decode cL_law 927 = .ok (.iconst 0, 1) := by decide +kernel
theorem dL_law_928 : decode cL_law 928 = .ok (.ireturn, 1) := by decide +kernel
theorem dL_law_929 : decode cL_law 929 = .ok (.aload_n 1, 1) := by decide +kernel
theorem dL_law_930 : decode cL_law 930 = .ok (.invokevirtual 119, 3) := by decide +kernel
theorem dL_law_933 : decode cL_law 933 = .ok (.aload_n 2, 1) := by decide +kernel
theorem dL_law_934 : decode cL_law 934 = .ok (.invokevirtual 123, 3) := by decide +kernel
theorem dL_law_937 : decode cL_law 937 = .ok (.lcmp, 1) := by decide +kernel
theorem dL_law_938 : decode cL_law 938 = .ok (.ifCond .eq 5, 3) := by decide +kernel
theorem dL_law_941 : decode cL_law 941 = .ok (.iconst 0, 1) := by decide +kernel
theorem dL_law_942 : decode cL_law 942 = .ok (.ireturn, 1) := by decide +kernel
theorem dL_law_943 : decode cL_law 943 = .ok (.iinc 3 7, 3) := by decide +kernel
theorem dL_law_946 : decode cL_law 946 = .ok (.goto (-928), 3) := by decide +kernel
theorem dL_law_949 : decode cL_law 949 = .ok (.iconst 1, 1) := by decide +kernel
theorem dL_law_950 : decode cL_law 950 = .ok (.ireturn, 1) := by decide +kernel
