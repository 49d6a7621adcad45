theorem dK_820 : decode code 820 = .ok (.invokevirtual 125, 3) := by decide +kernel
theorem dK_823 : decode code 823 = .ok (.istore 6, 2) := by decide +kernel
theorem dK_825 : decode code 825 = .ok (.aload_n 2, 1) := by decide +kernel
theorem dK_826 : decode code 826 = .ok (.invokevirtual 90, 3) := by decide +kernel
theorem dK_829 : decode code 829 = .ok (.iload 5, 2) := by decide +kernel
theorem dK_831 : decode code 831 = .ok (.if_icmp .eq 5, 3) := by decide +kernel
theorem dK_834 : decode code 834 = .ok (.iconst 0, 1) := by decide +kernel
theorem dK_835 : decode code 835 = .ok (.ireturn, 1) := by decide +kernel
theorem dK_836 : decode code 836 = .ok (.iload 5, 2) := by decide +kernel
theorem dK_838 : decode code 838 = .ok (.ifCond .ne 15, 3) := by decide +kernel
theorem dK_841 : decode code 841 = .ok (.aload_n 3, 1) := by decide +kernel
theorem dK_842 : decode code 842 = .ok (.iconst 0, 1) := by decide +kernel
theorem dK_843 : decode code 843 = .ok (.laload, 1) := by decide +kernel
theorem dK_844 : decode code 844 = .ok (.iload 6, 2) := by decide +kernel
theorem dK_846 : decode code 846 = .ok (.i2l, 1) := by decide +kernel
theorem dK_847 : decode code 847 = .ok (.lcmp, 1) := by decide +kernel
theorem dK_848 : decode code 848 = .ok (.ifCond .eq 5, 3) := by decide +kernel
theorem dK_851 : decode code 851 = .ok (.iconst 0, 1) := by decide +kernel
theorem dK_852 : decode code 852 = .ok (.ireturn, 1) := by decide +kernel
theorem dK_853 : decode code 853 = .ok (.goto 505, 3) := by decide +kernel
theorem dK_856 : decode code 856 = .ok (.aload_n 1, 1) := by decide +kernel
theorem dK_857 : decode code 857 = .ok (.aload_n 0, 1) := by decide +kernel
theorem dK_858 : decode code 858 = .ok (.iload 4, 2) := by decide +kernel
theorem dK_860 : decode code 860 = .ok (.iconst 1, 1) := by decide +kernel
theorem dK_861 : decode code 861 = .ok (.iadd, 1) := by decide +kernel
theorem dK_862 : decode code 862 = .ok (.iaload, 1) := by decide +kernel
theorem dK_863 : decode code 863 = .ok (.aload_n 3, 1) := by decide +kernel
theorem dK_864 : decode code 864 = .ok (.invokestatic 126, 3) := by decide +kernel
theorem dK_867 : decode code 867 = .ok (.istore 5, 2) := by decide +kernel
theorem dK_869 : decode code 869 = .ok (.aload_n 2, 1) := by decide +kernel
theorem dK_870 : decode code 870 = .ok (.aload_n 0, 1) := by decide +kernel
theorem dK_871 : decode code 871 = .ok (.iload 4, 2) := by decide +kernel
theorem dK_873 : decode code 873 = .ok (.iconst 1, 1) := by decide +kernel
theorem dK_874 : decode code 874 = .ok (.iadd, 1) := by decide +kernel
theorem dK_875 : decode code 875 = .ok (.iaload, 1) := by decide +kernel
theorem dK_876 : decode code 876 = .ok (.invokevirtual 128, 3) := by decide +kernel
theorem dK_879 : decode code 879 = .ok (.istore 6, 2) := by decide +kernel
theorem dK_881 : decode code 881 = .ok (.aload_n 2, 1) := by decide +kernel
theorem dK_882 : decode code 882 = .ok (.invokevirtual 90, 3) := by decide +kernel
theorem dK_885 : decode code 885 = .ok (.iload 5, 2) := by decide +kernel
theorem dK_887 : decode code 887 = .ok (.if_icmp .eq 5, 3) := by decide +kernel
theorem dK_890 : decode code 890 = .ok (.iconst 0, 1) := by decide +kernel
theorem dK_891 : decode code 891 = .ok (.ireturn, 1) := by decide +kernel
theorem dK_892 : decode code 892 = .ok (.iload 5, 2) := by decide +kernel
theorem dK_894 : decode code 894 = .ok (.ifCond .ne 15, 3) := by decide +kernel
theorem dK_897 : decode code 897 = .ok (.aload_n 3, 1) := by decide +kernel
theorem dK_898 : decode code 898 = .ok (.iconst 0, 1) := by decide +kernel
theorem dK_899 : decode code 899 = .ok (.laload, 1) := by decide +kernel
theorem dK_900 : decode code 900 = .ok (.iload 6, 2) := by decide +kernel
theorem dK_902 : decode code 902 = .ok (.i2l, 1) := by decide +kernel
theorem dK_903 : decode code 903 = .ok (.lcmp, 1) := by decide +kernel
theorem dK_904 : decode code 904 = .ok (.ifCond .eq 5, 3) := by decide +kernel
theorem dK_907 : decode code 907 = .ok (.iconst 0, 1) := by decide +kernel
theorem dK_908 : decode code 908 = .ok (.ireturn, 1) := by decide +kernel
theorem dK_909 : decode code 909 = .ok (.goto 449, 3) := by decide +kernel
theorem dK_912 : decode code 912 = .ok (.aload_n 1, 1) := by decide +kernel
theorem dK_913 : decode code 913 = .ok (.invokevirtual 129, 3) := by decide +kernel
theorem dK_916 : decode code 916 = .ok (.aload_n 2, 1) := by decide +kernel
theorem dK_917 : decode code 917 = .ok (.invokevirtual 132, 3) := by decide +kernel
theorem dK_920 : decode code 920 = .ok (.if_icmp .eq 438, 3) := by decide +kernel
theorem dK_923 : decode code 923 = .ok (.iconst 0, 1) := by decide +kernel
theorem dK_924 : decode code 924 = .ok (.ireturn, 1) := by decide +kernel
theorem dK_925 : decode code 925 = .ok (.aload_n 1, 1) := by decide +kernel
theorem dK_926 : decode code 926 = .ok (.aload_n 0, 1) := by decide +kernel
theorem dK_927 : decode code 927 = .ok (.iload 4, 2) := by decide +kernel
theorem dK_929 : decode code 929 = .ok (.iconst 1, 1) := by decide +kernel
theorem dK_930 : decode code 930 = .ok (.iadd, 1) := by decide +kernel
theorem dK_931 : decode code 931 = .ok (.iaload, 1) := by decide +kernel
theorem dK_932 : decode code 932 = .ok (.aload_n 0, 1) := by decide +kernel
theorem dK_933 : decode code 933 = .ok (.iload 4, 2) := by decide +kernel
theorem dK_935 : decode code 935 = .ok (.iconst 2, 1) := by decide +kernel
theorem dK_936 : decode code 936 = .ok (.iadd, 1) := by decide +kernel
theorem dK_937 : decode code 937 = .ok (.iaload, 1) := by decide +kernel
theorem dK_938 : decode code 938 = .ok (.aload_n 0, 1) := by decide +kernel
theorem dK_939 : decode code 939 = .ok (.iload 4, 2) := by decide +kernel
theorem dK_941 : decode code 941 = .ok (.iconst 3, 1) := by decide +kernel
theorem dK_942 : decode code 942 = .ok (.iadd, 1) := by decide +kernel
theorem dK_943 : decode code 943 = .ok (.iaload, 1) := by decide +kernel
theorem dK_944 : decode code 944 = .ok (.aload_n 3, 1) := by decide +kernel
theorem dK_945 : decode code 945 = .ok (.invokestatic 133, 3) := by decide +kernel
theorem dK_948 : decode code 948 = .ok (.istore 5, 2) := by decide +kernel
theorem dK_950 : decode code 950 = .ok (.aload_n 2, 1) := by decide +kernel
theorem dK_951 : decode code 951 = .ok (.aload_n 0, 1) := by decide +kernel
theorem dK_952 : decode code 952 = .ok (.iload 4, 2) := by decide +kernel
theorem dK_954 : decode code 954 = .ok (.iconst 1, 1) := by decide +kernel
theorem dK_955 : decode code 955 = .ok (.iadd, 1) := by decide +kernel
theorem dK_956 : decode code 956 = .ok (.iaload, 1) := by decide +kernel
theorem dK_957 : decode code 957 = .ok (.aload_n 0, 1) := by decide +kernel
theorem dK_958 : decode code 958 = .ok (.iload 4, 2) := by decide +kernel
theorem dK_960 : decode code 960 = .ok (.iconst 2, 1) := by decide +kernel
theorem dK_961 : decode code 961 = .ok (.iadd, 1) := by decide +kernel
theorem dK_962 : decode code 962 = .ok (.iaload, 1) := by decide +kernel
theorem dK_963 : decode code 963 = .ok (.aload_n 0, 1) := by decide +kernel
theorem dK_964 : decode code 964 = .ok (.iload 4, 2) := by decide +kernel
theorem dK_966 : decode code 966 = .ok (.iconst 3, 1) := by decide +kernel
theorem dK_967 : decode code 967 = .ok (.iadd, 1) := by decide +kernel
theorem dK_968 : decode code 968 = .ok (.iaload, 1) := by decide +kernel
theorem dK_969 : decode code 969 = .ok (.invokevirtual 136, 3) := by decide +kernel
theorem dK_972 : decode code 972 = .ok (.istore 6, 2) := by decide +kernel
theorem dK_974 : decode code 974 = .ok (.aload_n 2, 1) := by decide +kernel
theorem dK_975 : decode code 975 = .ok (.invokevirtual 90, 3) := by decide +kernel
theorem dK_978 : decode code 978 = .ok (.iload 5, 2) := by decide +kernel
theorem dK_980 : decode code 980 = .ok (.if_icmp .eq 5, 3) := by decide +kernel
theorem dK_983 : decode code 983 = .ok (.iconst 0, 1) := by decide +kernel
theorem dK_984 : decode code 984 = .ok (.ireturn, 1) := by decide +kernel
theorem dK_985 : decode code 985 = .ok (.iload 5, 2) := by decide +kernel
theorem dK_987 : decode code 987 = .ok (.ifCond .ne 15, 3) := by decide +kernel
theorem dK_990 : decode code 990 = .ok (.aload_n 3, 1) := by decide +kernel
theorem dK_991 : decode code 991 = .ok (.iconst 0, 1) := by decide +kernel
theorem dK_992 : decode code 992 = .ok (.laload, 1) := by decide +kernel
theorem dK_993 : decode code 993 = .ok (.iload 6, 2) := by decide +kernel
theorem dK_995 : decode code 995 = .ok (.i2l, 1) := by decide +kernel
theorem dK_996 : decode code 996 = .ok (.lcmp, 1) := by decide +kernel
theorem dK_997 : decode code 997 = .ok (.ifCond .eq 5, 3) := by decide +kernel
theorem dK_1000 : decode code 1000 = .ok (.iconst 0, 1) := by decide +kernel
theorem dK_1001 : decode code 1001 = .ok (.ireturn, 1) := by decide +kernel
theorem dK_1002 : decode code 1002 = .ok (.goto 356, 3) := by decide +kernel
theorem dK_1005 : decode code 1005 = .ok (.aload_n 1, 1) := by decide +kernel
theorem dK_1006 : decode code 1006 = .ok (.aload_n 0, 1) := by decide +kernel
theorem dK_1007 : decode code 1007 = .ok (.iload 4, 2) := by decide +kernel
