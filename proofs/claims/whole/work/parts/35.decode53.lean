theorem d_L_law_781 : decode code 781 = .ok (.iload 5, 2) := by decide +kernel
theorem d_L_law_783 : decode code 783 = .ok (.if_icmp .eq 5, 3) := by decide +kernel
theorem d_L_law_786 : decode code 786 = .ok (.iconst 0, 1) := by decide +kernel
theorem d_L_law_787 : decode code 787 = .ok (.ireturn, 1) := by decide +kernel
theorem d_L_law_788 : decode code 788 = .ok (.iload 5, 2) := by decide +kernel
theorem d_L_law_790 : decode code 790 = .ok (.ifCond .ne 14, 3) := by decide +kernel
theorem d_L_law_793 : decode code 793 = .ok (.aload_n 3, 1) := by decide +kernel
theorem d_L_law_794 : decode code 794 = .ok (.iconst 0, 1) := by decide +kernel
theorem d_L_law_795 : decode code 795 = .ok (.laload, 1) := by decide +kernel
theorem d_L_law_796 : decode code 796 = .ok (.lload 6, 2) := by decide +kernel
theorem d_L_law_798 : decode code 798 = .ok (.lcmp, 1) := by decide +kernel
theorem d_L_law_799 : decode code 799 = .ok (.ifCond .eq 5, 3) := by decide +kernel
theorem d_L_law_802 : decode code 802 = .ok (.iconst 0, 1) := by decide +kernel
theorem d_L_law_803 : decode code 803 = .ok (.ireturn, 1) := by decide +kernel
theorem d_L_law_804 : decode code 804 = .ok (.goto 176, 3) := by decide +kernel
theorem d_L_law_807 : decode code 807 = .ok (.aload_n 1, 1) := by decide +kernel
theorem d_L_law_808 : decode code 808 = .ok (.aload_n 0, 1) := by decide +kernel
theorem d_L_law_809 : decode code 809 = .ok (.iload 4, 2) := by decide +kernel
theorem d_L_law_811 : decode code 811 = .ok (.iconst 1, 1) := by decide +kernel
theorem d_L_law_812 : decode code 812 = .ok (.iadd, 1) := by decide +kernel
theorem d_L_law_813 : decode code 813 = .ok (.iaload, 1) := by decide +kernel
theorem d_L_law_814 : decode code 814 = .ok (.aload_n 0, 1) := by decide +kernel
theorem d_L_law_815 : decode code 815 = .ok (.iload 4, 2) := by decide +kernel
theorem d_L_law_817 : decode code 817 = .ok (.iconst 2, 1) := by decide +kernel
theorem d_L_law_818 : decode code 818 = .ok (.iadd, 1) := by decide +kernel
theorem d_L_law_819 : decode code 819 = .ok (.iaload, 1) := by decide +kernel
theorem d_L_law_820 : decode code 820 = .ok (.aload_n 0, 1) := by decide +kernel
theorem d_L_law_821 : decode code 821 = .ok (.iload 4, 2) := by decide +kernel
theorem d_L_law_823 : decode code 823 = .ok (.iconst 3, 1) := by decide +kernel
theorem d_L_law_824 : decode code 824 = .ok (.iadd, 1) := by decide +kernel
theorem d_L_law_825 : decode code 825 = .ok (.iaload, 1) := by decide +kernel
theorem d_L_law_826 : decode code 826 = .ok (.aload_n 3, 1) := by decide +kernel
theorem d_L_law_827 : decode code 827 = .ok (.invokestatic 108, 3) := by decide +kernel
theorem d_L_law_830 : decode code 830 = .ok (.istore 5, 2) := by decide +kernel
theorem d_L_law_832 : decode code 832 = .ok (.aload_n 2, 1) := by decide +kernel
theorem d_L_law_833 : decode code 833 = .ok (.aload_n 0, 1) := by decide +kernel
theorem d_L_law_834 : decode code 834 = .ok (.iload 4, 2) := by decide +kernel
theorem d_L_law_836 : decode code 836 = .ok (.iconst 1, 1) := by decide +kernel
theorem d_L_law_837 : decode code 837 = .ok (.iadd, 1) := by decide +kernel
theorem d_L_law_838 : decode code 838 = .ok (.iaload, 1) := by decide +kernel
theorem d_L_law_839 : decode code 839 = .ok (.aload_n 0, 1) := by decide +kernel
theorem d_L_law_840 : decode code 840 = .ok (.iload 4, 2) := by decide +kernel
theorem d_L_law_842 : decode code 842 = .ok (.iconst 2, 1) := by decide +kernel
theorem d_L_law_843 : decode code 843 = .ok (.iadd, 1) := by decide +kernel
theorem d_L_law_844 : decode code 844 = .ok (.iaload, 1) := by decide +kernel
theorem d_L_law_845 : decode code 845 = .ok (.aload_n 0, 1) := by decide +kernel
theorem d_L_law_846 : decode code 846 = .ok (.iload 4, 2) := by decide +kernel
theorem d_L_law_848 : decode code 848 = .ok (.iconst 3, 1) := by decide +kernel
theorem d_L_law_849 : decode code 849 = .ok (.iadd, 1) := by decide +kernel
theorem d_L_law_850 : decode code 850 = .ok (.iaload, 1) := by decide +kernel
theorem d_L_law_851 : decode code 851 = .ok (.invokevirtual 110, 3) := by decide +kernel
theorem d_L_law_854 : decode code 854 = .ok (.lstore 6, 2) := by decide +kernel
theorem d_L_law_856 : decode code 856 = .ok (.aload_n 2, 1) := by decide +kernel
theorem d_L_law_857 : decode code 857 = .ok (.invokevirtual 68, 3) := by decide +kernel
theorem d_L_law_860 : decode code 860 = .ok (.iload 5, 2) := by decide +kernel
theorem d_L_law_862 : decode code 862 = .ok (.if_icmp .eq 5, 3) := by decide +kernel
theorem d_L_law_865 : decode code 865 = .ok (.iconst 0, 1) := by decide +kernel
theorem d_L_law_866 : decode code 866 = .ok (.ireturn, 1) := by decide +kernel
theorem d_L_law_867 : decode code 867 = .ok (.iload 5, 2) := by decide +kernel
theorem d_L_law_869 : decode code 869 = .ok (.ifCond .ne 14, 3) := by decide +kernel
theorem d_L_law_872 : decode code 872 = .ok (.aload_n 3, 1) := by decide +kernel
theorem d_L_law_873 : decode code 873 = .ok (.iconst 0, 1) := by decide +kernel
theorem d_L_law_874 : decode code 874 = .ok (.laload, 1) := by decide +kernel
theorem d_L_law_875 : decode code 875 = .ok (.lload 6, 2) := by decide +kernel
theorem d_L_law_877 : decode code 877 = .ok (.lcmp, 1) := by decide +kernel
theorem d_L_law_878 : decode code 878 = .ok (.ifCond .eq 5, 3) := by decide +kernel
theorem d_L_law_881 : decode code 881 = .ok (.iconst 0, 1) := by decide +kernel
theorem d_L_law_882 : decode code 882 = .ok (.ireturn, 1) := by decide +kernel
theorem d_L_law_883 : decode code 883 = .ok (.goto 97, 3) := by decide +kernel
theorem d_L_law_886 : decode code 886 = .ok (.aload_n 1, 1) := by decide +kernel
theorem d_L_law_887 : decode code 887 = .ok (.aload_n 0, 1) := by decide +kernel
theorem d_L_law_888 : decode code 888 = .ok (.iload 4, 2) := by decide +kernel
theorem d_L_law_890 : decode code 890 = .ok (.iconst 1, 1) := by decide +kernel
theorem d_L_law_891 : decode code 891 = .ok (.iadd, 1) := by decide +kernel
theorem d_L_law_892 : decode code 892 = .ok (.iaload, 1) := by decide +kernel
theorem d_L_law_893 : decode code 893 = .ok (.aload_n 0, 1) := by decide +kernel
theorem d_L_law_894 : decode code 894 = .ok (.iload 4, 2) := by decide +kernel
theorem d_L_law_896 : decode code 896 = .ok (.iconst 2, 1) := by decide +kernel
theorem d_L_law_897 : decode code 897 = .ok (.iadd, 1) := by decide +kernel
theorem d_L_law_898 : decode code 898 = .ok (.iaload, 1) := by decide +kernel
theorem d_L_law_899 : decode code 899 = .ok (.aload_n 3, 1) := by decide +kernel
theorem d_L_law_900 : decode code 900 = .ok (.invokestatic 111, 3) := by decide +kernel
theorem d_L_law_903 : decode code 903 = .ok (.istore 5, 2) := by decide +kernel
theorem d_L_law_905 : decode code 905 = .ok (.aload_n 2, 1) := by decide +kernel
theorem d_L_law_906 : decode code 906 = .ok (.aload_n 0, 1) := by decide +kernel
theorem d_L_law_907 : decode code 907 = .ok (.iload 4, 2) := by decide +kernel
theorem d_L_law_909 : decode code 909 = .ok (.iconst 1, 1) := by decide +kernel
theorem d_L_law_910 : decode code 910 = .ok (.iadd, 1) := by decide +kernel
theorem d_L_law_911 : decode code 911 = .ok (.iaload, 1) := by decide +kernel
theorem d_L_law_912 : decode code 912 = .ok (.aload_n 0, 1) := by decide +kernel
theorem d_L_law_913 : decode code 913 = .ok (.iload 4, 2) := by decide +kernel
theorem d_L_law_915 : decode code 915 = .ok (.iconst 2, 1) := by decide +kernel
theorem d_L_law_916 : decode code 916 = .ok (.iadd, 1) := by decide +kernel
theorem d_L_law_917 : decode code 917 = .ok (.iaload, 1) := by decide +kernel
theorem d_L_law_918 : decode code 918 = .ok (.invokevirtual 113, 3) := by decide +kernel
theorem d_L_law_921 : decode code 921 = .ok (.istore 6, 2) := by decide +kernel
theorem d_L_law_923 : decode code 923 = .ok (.aload_n 2, 1) := by decide +kernel
theorem d_L_law_924 : decode code 924 = .ok (.invokevirtual 68, 3) := by decide +kernel
theorem d_L_law_927 : decode code 927 = .ok (.iload 5, 2) := by decide +kernel
theorem d_L_law_929 : decode code 929 = .ok (.if_icmp .eq 5, 3) := by decide +kernel
theorem d_L_law_932 : decode code 932 = .ok (.iconst 0, 1) := by decide +kernel
theorem d_L_law_933 : decode code 933 = .ok (.ireturn, 1) := by decide +kernel
theorem d_L_law_934 : decode code 934 = .ok (.iload 5, 2) := by decide +kernel
theorem d_L_law_936 : decode code 936 = .ok (.ifCond .ne 15, 3) := by decide +kernel
theorem d_L_law_939 : decode code 939 = .ok (.aload_n 3, 1) := by decide +kernel
theorem d_L_law_940 : decode code 940 = .ok (.iconst 0, 1) := by decide +kernel
theorem d_L_law_941 : decode code 941 = .ok (.laload, 1) := by decide +kernel
theorem d_L_law_942 : decode code 942 = .ok (.iload 6, 2) := by decide +kernel
theorem d_L_law_944 : decode code 944 = .ok (.i2l, 1) := by decide +kernel
theorem d_L_law_945 : decode code 945 = .ok (.lcmp, 1) := by decide +kernel
theorem d_L_law_946 : decode code 946 = .ok (.ifCond .eq 5, 3) := by decide +kernel
theorem d_L_law_949 : decode code 949 = .ok (.iconst 0, 1) := by decide +kernel
theorem d_L_law_950 : decode code 950 = .ok (.ireturn, 1) := by decide +kernel
theorem d_L_law_951 : decode code 951 = .ok (.goto 29, 3) := by decide +kernel
theorem d_L_law_954 : decode code 954 = .ok (.aload_n 1, 1) := by decide +kernel
theorem d_L_law_955 : decode code 955 = .ok (.aload_n 0, 1) := by decide +kernel
theorem d_L_law_956 : decode code 956 = .ok (.iload 4, 2) := by decide +kernel
theorem d_L_law_958 : decode code 958 = .ok (.iconst 1, 1) := by decide +kernel
theorem d_L_law_959 : decode code 959 = .ok (.iadd, 1) := by decide +kernel
theorem d_L_law_960 : decode code 960 = .ok (.iaload, 1) := by decide +kernel
theorem d_L_law_961 : decode code 961 = .ok (.invokevirtual 114, 3) := by decide +kernel
theorem d_L_law_964 : decode code 964 = .ok (.aload_n 2, 1) := by decide +kernel
theorem d_L_law_965 : decode code 965 = .ok (.aload_n 0, 1) := by decide +kernel
theorem d_L_law_966 : decode code 966 = .ok (.iload 4, 2) := by decide +kernel
theorem d_L_law_968 : decode code 968 = .ok (.iconst 1, 1) := by decide +kernel
theorem d_L_law_969 : decode code 969 = .ok (.iadd, 1) := by decide +kernel
theorem d_L_law_970 : decode code 970 = .ok (.iaload, 1) := by decide +kernel
theorem d_L_law_971 : decode code 971 = .ok (.invokevirtual 118, 3) := by decide +kernel
theorem d_L_law_974 : decode code 974 = .ok (.lcmp, 1) := by decide +kernel
theorem d_L_law_975 : decode code 975 = .ok (.ifCond .eq 5, 3) := by decide +kernel
theorem d_L_law_978 : decode code 978 = .ok (.iconst 0, 1) := by decide +kernel
theorem d_L_law_979 : decode code 979 = .ok (.ireturn, 1) := by decide +kernel
theorem d_L_law_980 : decode code 980 = .ok (.iinc 4 4, 3) := by decide +kernel
theorem d_L_law_983 : decode code 983 = .ok (.goto (-960), 3) := by decide +kernel
theorem d_L_law_986 : decode code 986 = .ok (.iconst 1, 1) := by decide +kernel
theorem d_L_law_987 : decode code 987 = .ok (.ireturn, 1) := by decide +kernel
