theorem kl_92 : Cond.initialized RX10 ∈ lw_gd := lw_g (List.mem_of_getElem? (i := 92) (by decide +kernel)) rfl
theorem kl_102 : Cond.initialized RX11 ∈ lw_gd := lw_g (List.mem_of_getElem? (i := 102) (by decide +kernel)) rfl
theorem kl_108 : Cond.classLink R_law 7 RX10 ∈ lw_gd := lw_g (List.mem_of_getElem? (i := 108) (by decide +kernel)) rfl
theorem kl_109 : Cond.instantiable RX10 13 ∈ lw_gd := lw_g (List.mem_of_getElem? (i := 109) (by decide +kernel)) rfl
theorem kl_110 : Cond.methodLink R_law 9 yX10_init ∈ lw_gd := lw_g (List.mem_of_getElem? (i := 110) (by decide +kernel)) rfl
theorem kl_111 : Cond.instanceMethod yX10_init ∈ lw_gd := lw_g (List.mem_of_getElem? (i := 111) (by decide +kernel)) rfl
theorem kl_112 : Cond.code yX10_init prog_1_method_1_code 1 none ∈ lw_gd := lw_g (List.mem_of_getElem? (i := 112) (by decide +kernel)) rfl
theorem kl_117 : Cond.instantiable RX5 10 ∈ lw_gd := lw_g (List.mem_of_getElem? (i := 117) (by decide +kernel)) rfl
theorem kl_153 : Cond.arrayClass .int ∈ lw_gd := lw_g (List.mem_of_getElem? (i := 153) (by decide +kernel)) rfl
theorem kl_155 : Cond.instantiable RX6 4 ∈ lw_gd := lw_g (List.mem_of_getElem? (i := 155) (by decide +kernel)) rfl
theorem kl_174 : Cond.instantiable RX1 8 ∈ lw_gd := lw_g (List.mem_of_getElem? (i := 174) (by decide +kernel)) rfl
theorem kl_180 : Cond.instantiable RX0 12 ∈ lw_gd := lw_g (List.mem_of_getElem? (i := 180) (by decide +kernel)) rfl
theorem kl_186 : Cond.arrayOver (.object "ReactiveSheet$Formula") ∈ lw_tbl := List.mem_of_getElem? (i := 186) (by decide +kernel)
theorem kl_224 : Cond.arrayClass .long ∈ lw_gd := lw_g (List.mem_of_getElem? (i := 224) (by decide +kernel)) rfl
theorem kl_251 : Cond.instantiable RX7 4 ∈ lw_gd := lw_g (List.mem_of_getElem? (i := 251) (by decide +kernel)) rfl
theorem kl_271 : Cond.instantiable RX9 12 ∈ lw_gd := lw_g (List.mem_of_getElem? (i := 271) (by decide +kernel)) rfl
theorem kl_314 : Cond.instantiable RX3 2 ∈ lw_gd := lw_g (List.mem_of_getElem? (i := 314) (by decide +kernel)) rfl
theorem kl_327 : Cond.instantiable RX4 2 ∈ lw_gd := lw_g (List.mem_of_getElem? (i := 327) (by decide +kernel)) rfl
theorem kl_340 : Cond.instantiable RX8 2 ∈ lw_gd := lw_g (List.mem_of_getElem? (i := 340) (by decide +kernel)) rfl
theorem kl_394 : Cond.methodLink R_law 15 yX10_input ∈ lw_gd := lw_g (List.mem_of_getElem? (i := 394) (by decide +kernel)) rfl
theorem kl_395 : Cond.instanceMethod yX10_input ∈ lw_gd := lw_g (List.mem_of_getElem? (i := 395) (by decide +kernel)) rfl
theorem kl_396 : Cond.selects RX10 yX10_input yX10_input ∈ lw_gd := lw_g (List.mem_of_getElem? (i := 396) (by decide +kernel)) rfl
theorem kl_397 : Cond.code yX10_input prog_1_method_2_code 4 (some .int) ∈ lw_gd := lw_g (List.mem_of_getElem? (i := 397) (by decide +kernel)) rfl
theorem kl_673 : Cond.methodLink R_law 20 yX10_define ∈ lw_gd := lw_g (List.mem_of_getElem? (i := 673) (by decide +kernel)) rfl
theorem kl_674 : Cond.instanceMethod yX10_define ∈ lw_gd := lw_g (List.mem_of_getElem? (i := 674) (by decide +kernel)) rfl
theorem kl_675 : Cond.selects RX10 yX10_define yX10_define ∈ lw_gd := lw_g (List.mem_of_getElem? (i := 675) (by decide +kernel)) rfl
theorem kl_676 : Cond.code yX10_define prog_1_method_3_code 3 (some .int) ∈ lw_gd := lw_g (List.mem_of_getElem? (i := 676) (by decide +kernel)) rfl
theorem kl_749 : Cond.instantiable RX2 6 ∈ lw_gd := lw_g (List.mem_of_getElem? (i := 749) (by decide +kernel)) rfl
theorem kl_791 : Cond.methodLink R_law 25 yX10_drop ∈ lw_gd := lw_g (List.mem_of_getElem? (i := 791) (by decide +kernel)) rfl
theorem kl_792 : Cond.instanceMethod yX10_drop ∈ lw_gd := lw_g (List.mem_of_getElem? (i := 792) (by decide +kernel)) rfl
theorem kl_793 : Cond.selects RX10 yX10_drop yX10_drop ∈ lw_gd := lw_g (List.mem_of_getElem? (i := 793) (by decide +kernel)) rfl
theorem kl_794 : Cond.code yX10_drop prog_1_method_4_code 2 (some .int) ∈ lw_gd := lw_g (List.mem_of_getElem? (i := 794) (by decide +kernel)) rfl
theorem kl_795 : Cond.methodLink R_law 29 yX10_copy ∈ lw_gd := lw_g (List.mem_of_getElem? (i := 795) (by decide +kernel)) rfl
theorem kl_796 : Cond.instanceMethod yX10_copy ∈ lw_gd := lw_g (List.mem_of_getElem? (i := 796) (by decide +kernel)) rfl
theorem kl_797 : Cond.selects RX10 yX10_copy yX10_copy ∈ lw_gd := lw_g (List.mem_of_getElem? (i := 797) (by decide +kernel)) rfl
theorem kl_798 : Cond.code yX10_copy prog_1_method_5_code 5 (some .int) ∈ lw_gd := lw_g (List.mem_of_getElem? (i := 798) (by decide +kernel)) rfl
theorem kl_810 : Cond.methodLink R_law 34 yX10_freeze ∈ lw_gd := lw_g (List.mem_of_getElem? (i := 810) (by decide +kernel)) rfl
theorem kl_811 : Cond.instanceMethod yX10_freeze ∈ lw_gd := lw_g (List.mem_of_getElem? (i := 811) (by decide +kernel)) rfl
theorem kl_812 : Cond.selects RX10 yX10_freeze yX10_freeze ∈ lw_gd := lw_g (List.mem_of_getElem? (i := 812) (by decide +kernel)) rfl
theorem kl_813 : Cond.code yX10_freeze prog_1_method_6_code 3 (some .int) ∈ lw_gd := lw_g (List.mem_of_getElem? (i := 813) (by decide +kernel)) rfl
theorem kl_820 : Cond.methodLink R_law 38 yX10_begin ∈ lw_gd := lw_g (List.mem_of_getElem? (i := 820) (by decide +kernel)) rfl
theorem kl_821 : Cond.instanceMethod yX10_begin ∈ lw_gd := lw_g (List.mem_of_getElem? (i := 821) (by decide +kernel)) rfl
theorem kl_822 : Cond.selects RX10 yX10_begin yX10_begin ∈ lw_gd := lw_g (List.mem_of_getElem? (i := 822) (by decide +kernel)) rfl
theorem kl_823 : Cond.code yX10_begin prog_1_method_7_code 1 (some .int) ∈ lw_gd := lw_g (List.mem_of_getElem? (i := 823) (by decide +kernel)) rfl
theorem kl_824 : Cond.methodLink R_law 43 yX10_end ∈ lw_gd := lw_g (List.mem_of_getElem? (i := 824) (by decide +kernel)) rfl
theorem kl_825 : Cond.instanceMethod yX10_end ∈ lw_gd := lw_g (List.mem_of_getElem? (i := 825) (by decide +kernel)) rfl
theorem kl_826 : Cond.selects RX10 yX10_end yX10_end ∈ lw_gd := lw_g (List.mem_of_getElem? (i := 826) (by decide +kernel)) rfl
theorem kl_827 : Cond.code yX10_end prog_1_method_8_code 1 (some .int) ∈ lw_gd := lw_g (List.mem_of_getElem? (i := 827) (by decide +kernel)) rfl
theorem kl_828 : Cond.methodLink R_law 47 yX10_cancel ∈ lw_gd := lw_g (List.mem_of_getElem? (i := 828) (by decide +kernel)) rfl
theorem kl_829 : Cond.instanceMethod yX10_cancel ∈ lw_gd := lw_g (List.mem_of_getElem? (i := 829) (by decide +kernel)) rfl
theorem kl_830 : Cond.selects RX10 yX10_cancel yX10_cancel ∈ lw_gd := lw_g (List.mem_of_getElem? (i := 830) (by decide +kernel)) rfl
theorem kl_831 : Cond.code yX10_cancel prog_1_method_9_code 2 (some .int) ∈ lw_gd := lw_g (List.mem_of_getElem? (i := 831) (by decide +kernel)) rfl
theorem kl_832 : Cond.methodLink R_law 51 yX10_feed ∈ lw_gd := lw_g (List.mem_of_getElem? (i := 832) (by decide +kernel)) rfl
theorem kl_833 : Cond.instanceMethod yX10_feed ∈ lw_gd := lw_g (List.mem_of_getElem? (i := 833) (by decide +kernel)) rfl
theorem kl_834 : Cond.selects RX10 yX10_feed yX10_feed ∈ lw_gd := lw_g (List.mem_of_getElem? (i := 834) (by decide +kernel)) rfl
theorem kl_835 : Cond.code yX10_feed prog_1_method_10_code 2 (some .int) ∈ lw_gd := lw_g (List.mem_of_getElem? (i := 835) (by decide +kernel)) rfl
theorem kl_844 : Cond.methodLink R_law 55 yX10_clear ∈ lw_gd := lw_g (List.mem_of_getElem? (i := 844) (by decide +kernel)) rfl
theorem kl_845 : Cond.instanceMethod yX10_clear ∈ lw_gd := lw_g (List.mem_of_getElem? (i := 845) (by decide +kernel)) rfl
theorem kl_846 : Cond.selects RX10 yX10_clear yX10_clear ∈ lw_gd := lw_g (List.mem_of_getElem? (i := 846) (by decide +kernel)) rfl
theorem kl_847 : Cond.code yX10_clear prog_1_method_11_code 1 (some .int) ∈ lw_gd := lw_g (List.mem_of_getElem? (i := 847) (by decide +kernel)) rfl
theorem kl_852 : Cond.methodLink R_law 59 yX10_value ∈ lw_gd := lw_g (List.mem_of_getElem? (i := 852) (by decide +kernel)) rfl
theorem kl_853 : Cond.instanceMethod yX10_value ∈ lw_gd := lw_g (List.mem_of_getElem? (i := 853) (by decide +kernel)) rfl
theorem kl_854 : Cond.selects RX10 yX10_value yX10_value ∈ lw_gd := lw_g (List.mem_of_getElem? (i := 854) (by decide +kernel)) rfl
theorem kl_855 : Cond.code yX10_value prog_1_method_12_code 2 (some .long) ∈ lw_gd := lw_g (List.mem_of_getElem? (i := 855) (by decide +kernel)) rfl
theorem kl_857 : Cond.methodLink R_law 64 yX10_of ∈ lw_gd := lw_g (List.mem_of_getElem? (i := 857) (by decide +kernel)) rfl
theorem kl_858 : Cond.instanceMethod yX10_of ∈ lw_gd := lw_g (List.mem_of_getElem? (i := 858) (by decide +kernel)) rfl
theorem kl_859 : Cond.selects RX10 yX10_of yX10_of ∈ lw_gd := lw_g (List.mem_of_getElem? (i := 859) (by decide +kernel)) rfl
theorem kl_860 : Cond.code yX10_of prog_1_method_13_code 4 (some .int) ∈ lw_gd := lw_g (List.mem_of_getElem? (i := 860) (by decide +kernel)) rfl
theorem kl_886 : Cond.methodLink R_law 68 yX10_reads ∈ lw_gd := lw_g (List.mem_of_getElem? (i := 886) (by decide +kernel)) rfl
theorem kl_887 : Cond.instanceMethod yX10_reads ∈ lw_gd := lw_g (List.mem_of_getElem? (i := 887) (by decide +kernel)) rfl
theorem kl_888 : Cond.selects RX10 yX10_reads yX10_reads ∈ lw_gd := lw_g (List.mem_of_getElem? (i := 888) (by decide +kernel)) rfl
theorem kl_889 : Cond.code yX10_reads prog_1_method_14_code 3 (some .int) ∈ lw_gd := lw_g (List.mem_of_getElem? (i := 889) (by decide +kernel)) rfl
theorem kl_891 : Cond.methodLink R_law 72 yX10_readers ∈ lw_gd := lw_g (List.mem_of_getElem? (i := 891) (by decide +kernel)) rfl
theorem kl_892 : Cond.instanceMethod yX10_readers ∈ lw_gd := lw_g (List.mem_of_getElem? (i := 892) (by decide +kernel)) rfl
theorem kl_893 : Cond.selects RX10 yX10_readers yX10_readers ∈ lw_gd := lw_g (List.mem_of_getElem? (i := 893) (by decide +kernel)) rfl
theorem kl_894 : Cond.code yX10_readers prog_1_method_15_code 2 (some .long) ∈ lw_gd := lw_g (List.mem_of_getElem? (i := 894) (by decide +kernel)) rfl
theorem kl_896 : Cond.methodLink R_law 76 yX10_order ∈ lw_gd := lw_g (List.mem_of_getElem? (i := 896) (by decide +kernel)) rfl
theorem kl_897 : Cond.instanceMethod yX10_order ∈ lw_gd := lw_g (List.mem_of_getElem? (i := 897) (by decide +kernel)) rfl
theorem kl_898 : Cond.selects RX10 yX10_order yX10_order ∈ lw_gd := lw_g (List.mem_of_getElem? (i := 898) (by decide +kernel)) rfl
theorem kl_899 : Cond.code yX10_order prog_1_method_16_code 2 (some .int) ∈ lw_gd := lw_g (List.mem_of_getElem? (i := 899) (by decide +kernel)) rfl
theorem kl_912 : Cond.methodLink R_law 80 yX10_why ∈ lw_gd := lw_g (List.mem_of_getElem? (i := 912) (by decide +kernel)) rfl
theorem kl_913 : Cond.instanceMethod yX10_why ∈ lw_gd := lw_g (List.mem_of_getElem? (i := 913) (by decide +kernel)) rfl
theorem kl_914 : Cond.selects RX10 yX10_why yX10_why ∈ lw_gd := lw_g (List.mem_of_getElem? (i := 914) (by decide +kernel)) rfl
theorem kl_915 : Cond.code yX10_why prog_1_method_17_code 3 (some .int) ∈ lw_gd := lw_g (List.mem_of_getElem? (i := 915) (by decide +kernel)) rfl
theorem kl_921 : Cond.methodLink R_law 84 yX10_way ∈ lw_gd := lw_g (List.mem_of_getElem? (i := 921) (by decide +kernel)) rfl
theorem kl_922 : Cond.instanceMethod yX10_way ∈ lw_gd := lw_g (List.mem_of_getElem? (i := 922) (by decide +kernel)) rfl
theorem kl_923 : Cond.selects RX10 yX10_way yX10_way ∈ lw_gd := lw_g (List.mem_of_getElem? (i := 923) (by decide +kernel)) rfl
theorem kl_924 : Cond.code yX10_way prog_1_method_18_code 5 (some .int) ∈ lw_gd := lw_g (List.mem_of_getElem? (i := 924) (by decide +kernel)) rfl
theorem kl_946 : Cond.methodLink R_law 89 yX10_whatIf ∈ lw_gd := lw_g (List.mem_of_getElem? (i := 946) (by decide +kernel)) rfl
theorem kl_947 : Cond.instanceMethod yX10_whatIf ∈ lw_gd := lw_g (List.mem_of_getElem? (i := 947) (by decide +kernel)) rfl
theorem kl_948 : Cond.selects RX10 yX10_whatIf yX10_whatIf ∈ lw_gd := lw_g (List.mem_of_getElem? (i := 948) (by decide +kernel)) rfl
theorem kl_949 : Cond.code yX10_whatIf prog_1_method_19_code 7 (some .long) ∈ lw_gd := lw_g (List.mem_of_getElem? (i := 949) (by decide +kernel)) rfl
theorem kl_955 : Cond.methodLink R_law 94 yX10_would ∈ lw_gd := lw_g (List.mem_of_getElem? (i := 955) (by decide +kernel)) rfl
theorem kl_956 : Cond.instanceMethod yX10_would ∈ lw_gd := lw_g (List.mem_of_getElem? (i := 956) (by decide +kernel)) rfl
theorem kl_957 : Cond.selects RX10 yX10_would yX10_would ∈ lw_gd := lw_g (List.mem_of_getElem? (i := 957) (by decide +kernel)) rfl
theorem kl_958 : Cond.code yX10_would prog_1_method_20_code 5 (some .int) ∈ lw_gd := lw_g (List.mem_of_getElem? (i := 958) (by decide +kernel)) rfl
theorem kl_959 : Cond.methodLink R_law 98 yX10_seek ∈ lw_gd := lw_g (List.mem_of_getElem? (i := 959) (by decide +kernel)) rfl
theorem kl_960 : Cond.instanceMethod yX10_seek ∈ lw_gd := lw_g (List.mem_of_getElem? (i := 960) (by decide +kernel)) rfl
theorem kl_961 : Cond.selects RX10 yX10_seek yX10_seek ∈ lw_gd := lw_g (List.mem_of_getElem? (i := 961) (by decide +kernel)) rfl
theorem kl_962 : Cond.code yX10_seek prog_1_method_21_code 10 (some .long) ∈ lw_gd := lw_g (List.mem_of_getElem? (i := 962) (by decide +kernel)) rfl
theorem kl_968 : Cond.methodLink R_law 103 yX10_spell ∈ lw_gd := lw_g (List.mem_of_getElem? (i := 968) (by decide +kernel)) rfl
theorem kl_969 : Cond.instanceMethod yX10_spell ∈ lw_gd := lw_g (List.mem_of_getElem? (i := 969) (by decide +kernel)) rfl
theorem kl_970 : Cond.selects RX10 yX10_spell yX10_spell ∈ lw_gd := lw_g (List.mem_of_getElem? (i := 970) (by decide +kernel)) rfl
theorem kl_971 : Cond.code yX10_spell prog_1_method_22_code 3 (some .int) ∈ lw_gd := lw_g (List.mem_of_getElem? (i := 971) (by decide +kernel)) rfl
theorem kl_1017 : Cond.methodLink R_law 107 yX10_paper ∈ lw_gd := lw_g (List.mem_of_getElem? (i := 1017) (by decide +kernel)) rfl
theorem kl_1018 : Cond.instanceMethod yX10_paper ∈ lw_gd := lw_g (List.mem_of_getElem? (i := 1018) (by decide +kernel)) rfl
theorem kl_1019 : Cond.selects RX10 yX10_paper yX10_paper ∈ lw_gd := lw_g (List.mem_of_getElem? (i := 1019) (by decide +kernel)) rfl
theorem kl_1020 : Cond.code yX10_paper prog_1_method_23_code 2 (some .int) ∈ lw_gd := lw_g (List.mem_of_getElem? (i := 1020) (by decide +kernel)) rfl
theorem kl_1025 : Cond.methodLink R_law 111 yX10_watch ∈ lw_gd := lw_g (List.mem_of_getElem? (i := 1025) (by decide +kernel)) rfl
theorem kl_1026 : Cond.instanceMethod yX10_watch ∈ lw_gd := lw_g (List.mem_of_getElem? (i := 1026) (by decide +kernel)) rfl
theorem kl_1027 : Cond.selects RX10 yX10_watch yX10_watch ∈ lw_gd := lw_g (List.mem_of_getElem? (i := 1027) (by decide +kernel)) rfl
theorem kl_1028 : Cond.code yX10_watch prog_1_method_24_code 5 (some .int) ∈ lw_gd := lw_g (List.mem_of_getElem? (i := 1028) (by decide +kernel)) rfl
theorem kl_1034 : Cond.methodLink R_law 116 yX10_quit ∈ lw_gd := lw_g (List.mem_of_getElem? (i := 1034) (by decide +kernel)) rfl
theorem kl_1035 : Cond.instanceMethod yX10_quit ∈ lw_gd := lw_g (List.mem_of_getElem? (i := 1035) (by decide +kernel)) rfl
theorem kl_1036 : Cond.selects RX10 yX10_quit yX10_quit ∈ lw_gd := lw_g (List.mem_of_getElem? (i := 1036) (by decide +kernel)) rfl
theorem kl_1037 : Cond.code yX10_quit prog_1_method_25_code 2 (some .int) ∈ lw_gd := lw_g (List.mem_of_getElem? (i := 1037) (by decide +kernel)) rfl
theorem kl_1043 : Cond.methodLink R_law 120 yX10_log ∈ lw_gd := lw_g (List.mem_of_getElem? (i := 1043) (by decide +kernel)) rfl
theorem kl_1044 : Cond.instanceMethod yX10_log ∈ lw_gd := lw_g (List.mem_of_getElem? (i := 1044) (by decide +kernel)) rfl
theorem kl_1045 : Cond.selects RX10 yX10_log yX10_log ∈ lw_gd := lw_g (List.mem_of_getElem? (i := 1045) (by decide +kernel)) rfl
theorem kl_1046 : Cond.code yX10_log prog_1_method_26_code 3 (some .int) ∈ lw_gd := lw_g (List.mem_of_getElem? (i := 1046) (by decide +kernel)) rfl
theorem kl_1056 : Cond.methodLink R_law 124 yX10_logged ∈ lw_gd := lw_g (List.mem_of_getElem? (i := 1056) (by decide +kernel)) rfl
theorem kl_1057 : Cond.instanceMethod yX10_logged ∈ lw_gd := lw_g (List.mem_of_getElem? (i := 1057) (by decide +kernel)) rfl
theorem kl_1058 : Cond.selects RX10 yX10_logged yX10_logged ∈ lw_gd := lw_g (List.mem_of_getElem? (i := 1058) (by decide +kernel)) rfl
theorem kl_1059 : Cond.code yX10_logged prog_1_method_27_code 3 (some .long) ∈ lw_gd := lw_g (List.mem_of_getElem? (i := 1059) (by decide +kernel)) rfl
theorem kl_1065 : Cond.methodLink R_law 129 yX10_told ∈ lw_gd := lw_g (List.mem_of_getElem? (i := 1065) (by decide +kernel)) rfl
theorem kl_1066 : Cond.instanceMethod yX10_told ∈ lw_gd := lw_g (List.mem_of_getElem? (i := 1066) (by decide +kernel)) rfl
theorem kl_1067 : Cond.selects RX10 yX10_told yX10_told ∈ lw_gd := lw_g (List.mem_of_getElem? (i := 1067) (by decide +kernel)) rfl
theorem kl_1068 : Cond.code yX10_told prog_1_method_28_code 3 (some .int) ∈ lw_gd := lw_g (List.mem_of_getElem? (i := 1068) (by decide +kernel)) rfl
theorem kl_1091 : Cond.methodLink R_law 133 yX10_past ∈ lw_gd := lw_g (List.mem_of_getElem? (i := 1091) (by decide +kernel)) rfl
theorem kl_1092 : Cond.instanceMethod yX10_past ∈ lw_gd := lw_g (List.mem_of_getElem? (i := 1092) (by decide +kernel)) rfl
theorem kl_1093 : Cond.selects RX10 yX10_past yX10_past ∈ lw_gd := lw_g (List.mem_of_getElem? (i := 1093) (by decide +kernel)) rfl
theorem kl_1094 : Cond.code yX10_past prog_1_method_29_code 3 (some .int) ∈ lw_gd := lw_g (List.mem_of_getElem? (i := 1094) (by decide +kernel)) rfl
theorem kl_1099 : Cond.methodLink R_law 137 yX10_list ∈ lw_gd := lw_g (List.mem_of_getElem? (i := 1099) (by decide +kernel)) rfl
theorem kl_1100 : Cond.instanceMethod yX10_list ∈ lw_gd := lw_g (List.mem_of_getElem? (i := 1100) (by decide +kernel)) rfl
theorem kl_1101 : Cond.selects RX10 yX10_list yX10_list ∈ lw_gd := lw_g (List.mem_of_getElem? (i := 1101) (by decide +kernel)) rfl
theorem kl_1102 : Cond.code yX10_list prog_1_method_30_code 3 (some .int) ∈ lw_gd := lw_g (List.mem_of_getElem? (i := 1102) (by decide +kernel)) rfl
theorem kl_1118 : Cond.methodLink R_law 141 yX10_set ∈ lw_gd := lw_g (List.mem_of_getElem? (i := 1118) (by decide +kernel)) rfl
theorem kl_1119 : Cond.instanceMethod yX10_set ∈ lw_gd := lw_g (List.mem_of_getElem? (i := 1119) (by decide +kernel)) rfl
theorem kl_1120 : Cond.selects RX10 yX10_set yX10_set ∈ lw_gd := lw_g (List.mem_of_getElem? (i := 1120) (by decide +kernel)) rfl
theorem kl_1121 : Cond.code yX10_set prog_1_method_31_code 5 (some .int) ∈ lw_gd := lw_g (List.mem_of_getElem? (i := 1121) (by decide +kernel)) rfl
theorem kl_1136 : Cond.methodLink R_law 145 yX10_get ∈ lw_gd := lw_g (List.mem_of_getElem? (i := 1136) (by decide +kernel)) rfl
theorem kl_1137 : Cond.instanceMethod yX10_get ∈ lw_gd := lw_g (List.mem_of_getElem? (i := 1137) (by decide +kernel)) rfl
theorem kl_1138 : Cond.selects RX10 yX10_get yX10_get ∈ lw_gd := lw_g (List.mem_of_getElem? (i := 1138) (by decide +kernel)) rfl
theorem kl_1139 : Cond.code yX10_get prog_1_method_32_code 3 (some .long) ∈ lw_gd := lw_g (List.mem_of_getElem? (i := 1139) (by decide +kernel)) rfl
theorem kl_1145 : Cond.methodLink R_law 149 yX10_move ∈ lw_gd := lw_g (List.mem_of_getElem? (i := 1145) (by decide +kernel)) rfl
theorem kl_1146 : Cond.instanceMethod yX10_move ∈ lw_gd := lw_g (List.mem_of_getElem? (i := 1146) (by decide +kernel)) rfl
theorem kl_1147 : Cond.selects RX10 yX10_move yX10_move ∈ lw_gd := lw_g (List.mem_of_getElem? (i := 1147) (by decide +kernel)) rfl
theorem kl_1148 : Cond.code yX10_move prog_1_method_33_code 6 (some .int) ∈ lw_gd := lw_g (List.mem_of_getElem? (i := 1148) (by decide +kernel)) rfl
theorem kl_1159 : Cond.methodLink R_law 154 yX10_fill ∈ lw_gd := lw_g (List.mem_of_getElem? (i := 1159) (by decide +kernel)) rfl
theorem kl_1160 : Cond.instanceMethod yX10_fill ∈ lw_gd := lw_g (List.mem_of_getElem? (i := 1160) (by decide +kernel)) rfl
theorem kl_1161 : Cond.selects RX10 yX10_fill yX10_fill ∈ lw_gd := lw_g (List.mem_of_getElem? (i := 1161) (by decide +kernel)) rfl
theorem kl_1162 : Cond.code yX10_fill prog_1_method_34_code 6 (some .int) ∈ lw_gd := lw_g (List.mem_of_getElem? (i := 1162) (by decide +kernel)) rfl
theorem kl_1167 : Cond.methodLink R_law 159 yX10_pour ∈ lw_gd := lw_g (List.mem_of_getElem? (i := 1167) (by decide +kernel)) rfl
theorem kl_1168 : Cond.instanceMethod yX10_pour ∈ lw_gd := lw_g (List.mem_of_getElem? (i := 1168) (by decide +kernel)) rfl
theorem kl_1169 : Cond.selects RX10 yX10_pour yX10_pour ∈ lw_gd := lw_g (List.mem_of_getElem? (i := 1169) (by decide +kernel)) rfl
theorem kl_1170 : Cond.code yX10_pour prog_1_method_35_code 6 (some .int) ∈ lw_gd := lw_g (List.mem_of_getElem? (i := 1170) (by decide +kernel)) rfl
theorem kl_1171 : Cond.methodLink R_law 163 yX10_image ∈ lw_gd := lw_g (List.mem_of_getElem? (i := 1171) (by decide +kernel)) rfl
theorem kl_1172 : Cond.instanceMethod yX10_image ∈ lw_gd := lw_g (List.mem_of_getElem? (i := 1172) (by decide +kernel)) rfl
theorem kl_1173 : Cond.selects RX10 yX10_image yX10_image ∈ lw_gd := lw_g (List.mem_of_getElem? (i := 1173) (by decide +kernel)) rfl
theorem kl_1174 : Cond.code yX10_image prog_1_method_36_code 1 (some .int) ∈ lw_gd := lw_g (List.mem_of_getElem? (i := 1174) (by decide +kernel)) rfl
theorem kl_1182 : Cond.methodLink R_law 167 yX10_undo ∈ lw_gd := lw_g (List.mem_of_getElem? (i := 1182) (by decide +kernel)) rfl
theorem kl_1183 : Cond.instanceMethod yX10_undo ∈ lw_gd := lw_g (List.mem_of_getElem? (i := 1183) (by decide +kernel)) rfl
theorem kl_1184 : Cond.selects RX10 yX10_undo yX10_undo ∈ lw_gd := lw_g (List.mem_of_getElem? (i := 1184) (by decide +kernel)) rfl
theorem kl_1185 : Cond.code yX10_undo prog_1_method_37_code 1 (some .int) ∈ lw_gd := lw_g (List.mem_of_getElem? (i := 1185) (by decide +kernel)) rfl
theorem kl_1186 : Cond.classLink R_law 10 RX11 ∈ lw_gd := lw_g (List.mem_of_getElem? (i := 1186) (by decide +kernel)) rfl
theorem kl_1187 : Cond.instantiable RX11 76 ∈ lw_gd := lw_g (List.mem_of_getElem? (i := 1187) (by decide +kernel)) rfl
theorem kl_1188 : Cond.methodLink R_law 12 yX11_init ∈ lw_gd := lw_g (List.mem_of_getElem? (i := 1188) (by decide +kernel)) rfl
theorem kl_1189 : Cond.instanceMethod yX11_init ∈ lw_gd := lw_g (List.mem_of_getElem? (i := 1189) (by decide +kernel)) rfl
theorem kl_1190 : Cond.code yX11_init prog_13_method_1_code 2 none ∈ lw_gd := lw_g (List.mem_of_getElem? (i := 1190) (by decide +kernel)) rfl
theorem kl_1421 : Cond.arrayClass .boolean ∈ lw_gd := lw_g (List.mem_of_getElem? (i := 1421) (by decide +kernel)) rfl
theorem kl_1422 : Cond.methodLink R_law 54 yX11_feed ∈ lw_gd := lw_g (List.mem_of_getElem? (i := 1422) (by decide +kernel)) rfl
theorem kl_1423 : Cond.instanceMethod yX11_feed ∈ lw_gd := lw_g (List.mem_of_getElem? (i := 1423) (by decide +kernel)) rfl
theorem kl_1424 : Cond.selects RX11 yX11_feed yX11_feed ∈ lw_gd := lw_g (List.mem_of_getElem? (i := 1424) (by decide +kernel)) rfl
theorem kl_1425 : Cond.code yX11_feed prog_13_method_4_code 2 (some .int) ∈ lw_gd := lw_g (List.mem_of_getElem? (i := 1425) (by decide +kernel)) rfl
theorem kl_1429 : Cond.methodLink R_law 58 yX11_clear ∈ lw_gd := lw_g (List.mem_of_getElem? (i := 1429) (by decide +kernel)) rfl
theorem kl_1430 : Cond.instanceMethod yX11_clear ∈ lw_gd := lw_g (List.mem_of_getElem? (i := 1430) (by decide +kernel)) rfl
theorem kl_1431 : Cond.selects RX11 yX11_clear yX11_clear ∈ lw_gd := lw_g (List.mem_of_getElem? (i := 1431) (by decide +kernel)) rfl
theorem kl_1432 : Cond.code yX11_clear prog_13_method_5_code 2 (some .int) ∈ lw_gd := lw_g (List.mem_of_getElem? (i := 1432) (by decide +kernel)) rfl
theorem kl_1433 : Cond.methodLink R_law 19 yX11_input ∈ lw_gd := lw_g (List.mem_of_getElem? (i := 1433) (by decide +kernel)) rfl
theorem kl_1434 : Cond.instanceMethod yX11_input ∈ lw_gd := lw_g (List.mem_of_getElem? (i := 1434) (by decide +kernel)) rfl
theorem kl_1435 : Cond.selects RX11 yX11_input yX11_input ∈ lw_gd := lw_g (List.mem_of_getElem? (i := 1435) (by decide +kernel)) rfl
theorem kl_1436 : Cond.code yX11_input prog_13_method_43_code 4 (some .int) ∈ lw_gd := lw_g (List.mem_of_getElem? (i := 1436) (by decide +kernel)) rfl
theorem kl_1539 : Cond.methodLink R_law 24 yX11_define ∈ lw_gd := lw_g (List.mem_of_getElem? (i := 1539) (by decide +kernel)) rfl
theorem kl_1540 : Cond.instanceMethod yX11_define ∈ lw_gd := lw_g (List.mem_of_getElem? (i := 1540) (by decide +kernel)) rfl
theorem kl_1541 : Cond.selects RX11 yX11_define yX11_define ∈ lw_gd := lw_g (List.mem_of_getElem? (i := 1541) (by decide +kernel)) rfl
theorem kl_1542 : Cond.code yX11_define prog_13_method_44_code 3 (some .int) ∈ lw_gd := lw_g (List.mem_of_getElem? (i := 1542) (by decide +kernel)) rfl
theorem kl_1592 : Cond.methodLink R_law 28 yX11_drop ∈ lw_gd := lw_g (List.mem_of_getElem? (i := 1592) (by decide +kernel)) rfl
theorem kl_1593 : Cond.instanceMethod yX11_drop ∈ lw_gd := lw_g (List.mem_of_getElem? (i := 1593) (by decide +kernel)) rfl
theorem kl_1594 : Cond.selects RX11 yX11_drop yX11_drop ∈ lw_gd := lw_g (List.mem_of_getElem? (i := 1594) (by decide +kernel)) rfl
theorem kl_1595 : Cond.code yX11_drop prog_13_method_45_code 2 (some .int) ∈ lw_gd := lw_g (List.mem_of_getElem? (i := 1595) (by decide +kernel)) rfl
theorem kl_1596 : Cond.methodLink R_law 33 yX11_copy ∈ lw_gd := lw_g (List.mem_of_getElem? (i := 1596) (by decide +kernel)) rfl
theorem kl_1597 : Cond.instanceMethod yX11_copy ∈ lw_gd := lw_g (List.mem_of_getElem? (i := 1597) (by decide +kernel)) rfl
theorem kl_1598 : Cond.selects RX11 yX11_copy yX11_copy ∈ lw_gd := lw_g (List.mem_of_getElem? (i := 1598) (by decide +kernel)) rfl
theorem kl_1599 : Cond.code yX11_copy prog_13_method_46_code 4 (some .int) ∈ lw_gd := lw_g (List.mem_of_getElem? (i := 1599) (by decide +kernel)) rfl
theorem kl_1604 : Cond.methodLink R_law 37 yX11_freeze ∈ lw_gd := lw_g (List.mem_of_getElem? (i := 1604) (by decide +kernel)) rfl
theorem kl_1605 : Cond.instanceMethod yX11_freeze ∈ lw_gd := lw_g (List.mem_of_getElem? (i := 1605) (by decide +kernel)) rfl
theorem kl_1606 : Cond.selects RX11 yX11_freeze yX11_freeze ∈ lw_gd := lw_g (List.mem_of_getElem? (i := 1606) (by decide +kernel)) rfl
theorem kl_1607 : Cond.code yX11_freeze prog_13_method_48_code 2 (some .int) ∈ lw_gd := lw_g (List.mem_of_getElem? (i := 1607) (by decide +kernel)) rfl
theorem kl_1608 : Cond.methodLink R_law 42 yX11_begin ∈ lw_gd := lw_g (List.mem_of_getElem? (i := 1608) (by decide +kernel)) rfl
theorem kl_1609 : Cond.instanceMethod yX11_begin ∈ lw_gd := lw_g (List.mem_of_getElem? (i := 1609) (by decide +kernel)) rfl
theorem kl_1610 : Cond.selects RX11 yX11_begin yX11_begin ∈ lw_gd := lw_g (List.mem_of_getElem? (i := 1610) (by decide +kernel)) rfl
theorem kl_1611 : Cond.code yX11_begin prog_13_method_49_code 2 (some .int) ∈ lw_gd := lw_g (List.mem_of_getElem? (i := 1611) (by decide +kernel)) rfl
theorem kl_1612 : Cond.methodLink R_law 46 yX11_end ∈ lw_gd := lw_g (List.mem_of_getElem? (i := 1612) (by decide +kernel)) rfl
theorem kl_1613 : Cond.instanceMethod yX11_end ∈ lw_gd := lw_g (List.mem_of_getElem? (i := 1613) (by decide +kernel)) rfl
theorem kl_1614 : Cond.selects RX11 yX11_end yX11_end ∈ lw_gd := lw_g (List.mem_of_getElem? (i := 1614) (by decide +kernel)) rfl
theorem kl_1615 : Cond.code yX11_end prog_13_method_50_code 2 (some .int) ∈ lw_gd := lw_g (List.mem_of_getElem? (i := 1615) (by decide +kernel)) rfl
theorem kl_1616 : Cond.methodLink R_law 50 yX11_cancel ∈ lw_gd := lw_g (List.mem_of_getElem? (i := 1616) (by decide +kernel)) rfl
theorem kl_1617 : Cond.instanceMethod yX11_cancel ∈ lw_gd := lw_g (List.mem_of_getElem? (i := 1617) (by decide +kernel)) rfl
theorem kl_1618 : Cond.selects RX11 yX11_cancel yX11_cancel ∈ lw_gd := lw_g (List.mem_of_getElem? (i := 1618) (by decide +kernel)) rfl
theorem kl_1619 : Cond.code yX11_cancel prog_13_method_52_code 2 (some .int) ∈ lw_gd := lw_g (List.mem_of_getElem? (i := 1619) (by decide +kernel)) rfl
theorem kl_1624 : Cond.methodLink R_law 63 yX11_value ∈ lw_gd := lw_g (List.mem_of_getElem? (i := 1624) (by decide +kernel)) rfl
theorem kl_1625 : Cond.instanceMethod yX11_value ∈ lw_gd := lw_g (List.mem_of_getElem? (i := 1625) (by decide +kernel)) rfl
theorem kl_1626 : Cond.selects RX11 yX11_value yX11_value ∈ lw_gd := lw_g (List.mem_of_getElem? (i := 1626) (by decide +kernel)) rfl
theorem kl_1627 : Cond.code yX11_value prog_13_method_53_code 2 (some .long) ∈ lw_gd := lw_g (List.mem_of_getElem? (i := 1627) (by decide +kernel)) rfl
theorem kl_1628 : Cond.methodLink R_law 75 yX11_readers ∈ lw_gd := lw_g (List.mem_of_getElem? (i := 1628) (by decide +kernel)) rfl
theorem kl_1629 : Cond.instanceMethod yX11_readers ∈ lw_gd := lw_g (List.mem_of_getElem? (i := 1629) (by decide +kernel)) rfl
theorem kl_1630 : Cond.selects RX11 yX11_readers yX11_readers ∈ lw_gd := lw_g (List.mem_of_getElem? (i := 1630) (by decide +kernel)) rfl
theorem kl_1631 : Cond.code yX11_readers prog_13_method_56_code 6 (some .long) ∈ lw_gd := lw_g (List.mem_of_getElem? (i := 1631) (by decide +kernel)) rfl
theorem kl_1632 : Cond.methodLink R_law 67 yX11_of ∈ lw_gd := lw_g (List.mem_of_getElem? (i := 1632) (by decide +kernel)) rfl
theorem kl_1633 : Cond.instanceMethod yX11_of ∈ lw_gd := lw_g (List.mem_of_getElem? (i := 1633) (by decide +kernel)) rfl
theorem kl_1634 : Cond.selects RX11 yX11_of yX11_of ∈ lw_gd := lw_g (List.mem_of_getElem? (i := 1634) (by decide +kernel)) rfl
theorem kl_1635 : Cond.code yX11_of prog_13_method_59_code 3 (some .int) ∈ lw_gd := lw_g (List.mem_of_getElem? (i := 1635) (by decide +kernel)) rfl
theorem kl_1653 : Cond.methodLink R_law 71 yX11_reads_ ∈ lw_gd := lw_g (List.mem_of_getElem? (i := 1653) (by decide +kernel)) rfl
theorem kl_1654 : Cond.instanceMethod yX11_reads_ ∈ lw_gd := lw_g (List.mem_of_getElem? (i := 1654) (by decide +kernel)) rfl
theorem kl_1655 : Cond.selects RX11 yX11_reads_ yX11_reads_ ∈ lw_gd := lw_g (List.mem_of_getElem? (i := 1655) (by decide +kernel)) rfl
theorem kl_1656 : Cond.code yX11_reads_ prog_13_method_60_code 3 (some .int) ∈ lw_gd := lw_g (List.mem_of_getElem? (i := 1656) (by decide +kernel)) rfl
theorem kl_1657 : Cond.methodLink R_law 79 yX11_order ∈ lw_gd := lw_g (List.mem_of_getElem? (i := 1657) (by decide +kernel)) rfl
theorem kl_1658 : Cond.instanceMethod yX11_order ∈ lw_gd := lw_g (List.mem_of_getElem? (i := 1658) (by decide +kernel)) rfl
theorem kl_1659 : Cond.selects RX11 yX11_order yX11_order ∈ lw_gd := lw_g (List.mem_of_getElem? (i := 1659) (by decide +kernel)) rfl
theorem kl_1660 : Cond.code yX11_order prog_13_method_61_code 5 (some .int) ∈ lw_gd := lw_g (List.mem_of_getElem? (i := 1660) (by decide +kernel)) rfl
theorem kl_1661 : Cond.methodLink R_law 83 yX11_why ∈ lw_gd := lw_g (List.mem_of_getElem? (i := 1661) (by decide +kernel)) rfl
theorem kl_1662 : Cond.instanceMethod yX11_why ∈ lw_gd := lw_g (List.mem_of_getElem? (i := 1662) (by decide +kernel)) rfl
theorem kl_1663 : Cond.selects RX11 yX11_why yX11_why ∈ lw_gd := lw_g (List.mem_of_getElem? (i := 1663) (by decide +kernel)) rfl
theorem kl_1664 : Cond.code yX11_why prog_13_method_62_code 5 (some .int) ∈ lw_gd := lw_g (List.mem_of_getElem? (i := 1664) (by decide +kernel)) rfl
theorem kl_1665 : Cond.methodLink R_law 88 yX11_way ∈ lw_gd := lw_g (List.mem_of_getElem? (i := 1665) (by decide +kernel)) rfl
theorem kl_1666 : Cond.instanceMethod yX11_way ∈ lw_gd := lw_g (List.mem_of_getElem? (i := 1666) (by decide +kernel)) rfl
theorem kl_1667 : Cond.selects RX11 yX11_way yX11_way ∈ lw_gd := lw_g (List.mem_of_getElem? (i := 1667) (by decide +kernel)) rfl
theorem kl_1668 : Cond.code yX11_way prog_13_method_63_code 9 (some .int) ∈ lw_gd := lw_g (List.mem_of_getElem? (i := 1668) (by decide +kernel)) rfl
theorem kl_1669 : Cond.methodLink R_law 93 yX11_whatIf ∈ lw_gd := lw_g (List.mem_of_getElem? (i := 1669) (by decide +kernel)) rfl
theorem kl_1670 : Cond.instanceMethod yX11_whatIf ∈ lw_gd := lw_g (List.mem_of_getElem? (i := 1670) (by decide +kernel)) rfl
theorem kl_1671 : Cond.selects RX11 yX11_whatIf yX11_whatIf ∈ lw_gd := lw_g (List.mem_of_getElem? (i := 1671) (by decide +kernel)) rfl
theorem kl_1672 : Cond.code yX11_whatIf prog_13_method_65_code 5 (some .long) ∈ lw_gd := lw_g (List.mem_of_getElem? (i := 1672) (by decide +kernel)) rfl
theorem kl_1677 : Cond.methodLink R_law 97 yX11_would ∈ lw_gd := lw_g (List.mem_of_getElem? (i := 1677) (by decide +kernel)) rfl
theorem kl_1678 : Cond.instanceMethod yX11_would ∈ lw_gd := lw_g (List.mem_of_getElem? (i := 1678) (by decide +kernel)) rfl
theorem kl_1679 : Cond.selects RX11 yX11_would yX11_would ∈ lw_gd := lw_g (List.mem_of_getElem? (i := 1679) (by decide +kernel)) rfl
theorem kl_1680 : Cond.code yX11_would prog_13_method_66_code 4 (some .int) ∈ lw_gd := lw_g (List.mem_of_getElem? (i := 1680) (by decide +kernel)) rfl
theorem kl_1681 : Cond.methodLink R_law 102 yX11_seek ∈ lw_gd := lw_g (List.mem_of_getElem? (i := 1681) (by decide +kernel)) rfl
theorem kl_1682 : Cond.instanceMethod yX11_seek ∈ lw_gd := lw_g (List.mem_of_getElem? (i := 1682) (by decide +kernel)) rfl
theorem kl_1683 : Cond.selects RX11 yX11_seek yX11_seek ∈ lw_gd := lw_g (List.mem_of_getElem? (i := 1683) (by decide +kernel)) rfl
theorem kl_1684 : Cond.code yX11_seek prog_13_method_67_code 9 (some .long) ∈ lw_gd := lw_g (List.mem_of_getElem? (i := 1684) (by decide +kernel)) rfl
theorem kl_1686 : Cond.methodLink R_law 106 yX11_spell ∈ lw_gd := lw_g (List.mem_of_getElem? (i := 1686) (by decide +kernel)) rfl
theorem kl_1687 : Cond.instanceMethod yX11_spell ∈ lw_gd := lw_g (List.mem_of_getElem? (i := 1687) (by decide +kernel)) rfl
theorem kl_1688 : Cond.selects RX11 yX11_spell yX11_spell ∈ lw_gd := lw_g (List.mem_of_getElem? (i := 1688) (by decide +kernel)) rfl
theorem kl_1689 : Cond.code yX11_spell prog_13_method_72_code 2 (some .int) ∈ lw_gd := lw_g (List.mem_of_getElem? (i := 1689) (by decide +kernel)) rfl
theorem kl_1705 : Cond.methodLink R_law 110 yX11_paper ∈ lw_gd := lw_g (List.mem_of_getElem? (i := 1705) (by decide +kernel)) rfl
theorem kl_1706 : Cond.instanceMethod yX11_paper ∈ lw_gd := lw_g (List.mem_of_getElem? (i := 1706) (by decide +kernel)) rfl
theorem kl_1707 : Cond.selects RX11 yX11_paper yX11_paper ∈ lw_gd := lw_g (List.mem_of_getElem? (i := 1707) (by decide +kernel)) rfl
theorem kl_1708 : Cond.code yX11_paper prog_13_method_73_code 2 (some .int) ∈ lw_gd := lw_g (List.mem_of_getElem? (i := 1708) (by decide +kernel)) rfl
theorem kl_1709 : Cond.methodLink R_law 115 yX11_watch ∈ lw_gd := lw_g (List.mem_of_getElem? (i := 1709) (by decide +kernel)) rfl
theorem kl_1710 : Cond.instanceMethod yX11_watch ∈ lw_gd := lw_g (List.mem_of_getElem? (i := 1710) (by decide +kernel)) rfl
theorem kl_1711 : Cond.selects RX11 yX11_watch yX11_watch ∈ lw_gd := lw_g (List.mem_of_getElem? (i := 1711) (by decide +kernel)) rfl
theorem kl_1712 : Cond.code yX11_watch prog_13_method_74_code 5 (some .int) ∈ lw_gd := lw_g (List.mem_of_getElem? (i := 1712) (by decide +kernel)) rfl
theorem kl_1713 : Cond.methodLink R_law 119 yX11_quit ∈ lw_gd := lw_g (List.mem_of_getElem? (i := 1713) (by decide +kernel)) rfl
theorem kl_1714 : Cond.instanceMethod yX11_quit ∈ lw_gd := lw_g (List.mem_of_getElem? (i := 1714) (by decide +kernel)) rfl
theorem kl_1715 : Cond.selects RX11 yX11_quit yX11_quit ∈ lw_gd := lw_g (List.mem_of_getElem? (i := 1715) (by decide +kernel)) rfl
theorem kl_1716 : Cond.code yX11_quit prog_13_method_75_code 3 (some .int) ∈ lw_gd := lw_g (List.mem_of_getElem? (i := 1716) (by decide +kernel)) rfl
theorem kl_1717 : Cond.methodLink R_law 123 yX11_log_ ∈ lw_gd := lw_g (List.mem_of_getElem? (i := 1717) (by decide +kernel)) rfl
theorem kl_1718 : Cond.instanceMethod yX11_log_ ∈ lw_gd := lw_g (List.mem_of_getElem? (i := 1718) (by decide +kernel)) rfl
theorem kl_1719 : Cond.selects RX11 yX11_log_ yX11_log_ ∈ lw_gd := lw_g (List.mem_of_getElem? (i := 1719) (by decide +kernel)) rfl
theorem kl_1720 : Cond.code yX11_log_ prog_13_method_76_code 3 (some .int) ∈ lw_gd := lw_g (List.mem_of_getElem? (i := 1720) (by decide +kernel)) rfl
theorem kl_1721 : Cond.methodLink R_law 128 yX11_logged ∈ lw_gd := lw_g (List.mem_of_getElem? (i := 1721) (by decide +kernel)) rfl
theorem kl_1722 : Cond.instanceMethod yX11_logged ∈ lw_gd := lw_g (List.mem_of_getElem? (i := 1722) (by decide +kernel)) rfl
theorem kl_1723 : Cond.selects RX11 yX11_logged yX11_logged ∈ lw_gd := lw_g (List.mem_of_getElem? (i := 1723) (by decide +kernel)) rfl
theorem kl_1724 : Cond.code yX11_logged prog_13_method_77_code 3 (some .long) ∈ lw_gd := lw_g (List.mem_of_getElem? (i := 1724) (by decide +kernel)) rfl
theorem kl_1725 : Cond.methodLink R_law 132 yX11_told_ ∈ lw_gd := lw_g (List.mem_of_getElem? (i := 1725) (by decide +kernel)) rfl
theorem kl_1726 : Cond.instanceMethod yX11_told_ ∈ lw_gd := lw_g (List.mem_of_getElem? (i := 1726) (by decide +kernel)) rfl
theorem kl_1727 : Cond.selects RX11 yX11_told_ yX11_told_ ∈ lw_gd := lw_g (List.mem_of_getElem? (i := 1727) (by decide +kernel)) rfl
theorem kl_1728 : Cond.code yX11_told_ prog_13_method_78_code 4 (some .int) ∈ lw_gd := lw_g (List.mem_of_getElem? (i := 1728) (by decide +kernel)) rfl
theorem kl_1729 : Cond.methodLink R_law 136 yX11_past ∈ lw_gd := lw_g (List.mem_of_getElem? (i := 1729) (by decide +kernel)) rfl
theorem kl_1730 : Cond.instanceMethod yX11_past ∈ lw_gd := lw_g (List.mem_of_getElem? (i := 1730) (by decide +kernel)) rfl
theorem kl_1731 : Cond.selects RX11 yX11_past yX11_past ∈ lw_gd := lw_g (List.mem_of_getElem? (i := 1731) (by decide +kernel)) rfl
theorem kl_1732 : Cond.code yX11_past prog_13_method_79_code 3 (some .int) ∈ lw_gd := lw_g (List.mem_of_getElem? (i := 1732) (by decide +kernel)) rfl
theorem kl_1733 : Cond.methodLink R_law 140 yX11_list ∈ lw_gd := lw_g (List.mem_of_getElem? (i := 1733) (by decide +kernel)) rfl
theorem kl_1734 : Cond.instanceMethod yX11_list ∈ lw_gd := lw_g (List.mem_of_getElem? (i := 1734) (by decide +kernel)) rfl
theorem kl_1735 : Cond.selects RX11 yX11_list yX11_list ∈ lw_gd := lw_g (List.mem_of_getElem? (i := 1735) (by decide +kernel)) rfl
theorem kl_1736 : Cond.code yX11_list prog_13_method_81_code 4 (some .int) ∈ lw_gd := lw_g (List.mem_of_getElem? (i := 1736) (by decide +kernel)) rfl
theorem kl_1740 : Cond.methodLink R_law 144 yX11_set ∈ lw_gd := lw_g (List.mem_of_getElem? (i := 1740) (by decide +kernel)) rfl
theorem kl_1741 : Cond.instanceMethod yX11_set ∈ lw_gd := lw_g (List.mem_of_getElem? (i := 1741) (by decide +kernel)) rfl
theorem kl_1742 : Cond.selects RX11 yX11_set yX11_set ∈ lw_gd := lw_g (List.mem_of_getElem? (i := 1742) (by decide +kernel)) rfl
theorem kl_1743 : Cond.code yX11_set prog_13_method_82_code 5 (some .int) ∈ lw_gd := lw_g (List.mem_of_getElem? (i := 1743) (by decide +kernel)) rfl
theorem kl_1744 : Cond.methodLink R_law 148 yX11_get ∈ lw_gd := lw_g (List.mem_of_getElem? (i := 1744) (by decide +kernel)) rfl
theorem kl_1745 : Cond.instanceMethod yX11_get ∈ lw_gd := lw_g (List.mem_of_getElem? (i := 1745) (by decide +kernel)) rfl
theorem kl_1746 : Cond.selects RX11 yX11_get yX11_get ∈ lw_gd := lw_g (List.mem_of_getElem? (i := 1746) (by decide +kernel)) rfl
theorem kl_1747 : Cond.code yX11_get prog_13_method_83_code 3 (some .long) ∈ lw_gd := lw_g (List.mem_of_getElem? (i := 1747) (by decide +kernel)) rfl
theorem kl_1748 : Cond.methodLink R_law 153 yX11_move ∈ lw_gd := lw_g (List.mem_of_getElem? (i := 1748) (by decide +kernel)) rfl
theorem kl_1749 : Cond.instanceMethod yX11_move ∈ lw_gd := lw_g (List.mem_of_getElem? (i := 1749) (by decide +kernel)) rfl
theorem kl_1750 : Cond.selects RX11 yX11_move yX11_move ∈ lw_gd := lw_g (List.mem_of_getElem? (i := 1750) (by decide +kernel)) rfl
theorem kl_1751 : Cond.code yX11_move prog_13_method_84_code 8 (some .int) ∈ lw_gd := lw_g (List.mem_of_getElem? (i := 1751) (by decide +kernel)) rfl
theorem kl_1752 : Cond.methodLink R_law 158 yX11_fill ∈ lw_gd := lw_g (List.mem_of_getElem? (i := 1752) (by decide +kernel)) rfl
theorem kl_1753 : Cond.instanceMethod yX11_fill ∈ lw_gd := lw_g (List.mem_of_getElem? (i := 1753) (by decide +kernel)) rfl
theorem kl_1754 : Cond.selects RX11 yX11_fill yX11_fill ∈ lw_gd := lw_g (List.mem_of_getElem? (i := 1754) (by decide +kernel)) rfl
theorem kl_1755 : Cond.code yX11_fill prog_13_method_85_code 6 (some .int) ∈ lw_gd := lw_g (List.mem_of_getElem? (i := 1755) (by decide +kernel)) rfl
theorem kl_1756 : Cond.methodLink R_law 162 yX11_pour ∈ lw_gd := lw_g (List.mem_of_getElem? (i := 1756) (by decide +kernel)) rfl
theorem kl_1757 : Cond.instanceMethod yX11_pour ∈ lw_gd := lw_g (List.mem_of_getElem? (i := 1757) (by decide +kernel)) rfl
theorem kl_1758 : Cond.selects RX11 yX11_pour yX11_pour ∈ lw_gd := lw_g (List.mem_of_getElem? (i := 1758) (by decide +kernel)) rfl
theorem kl_1759 : Cond.code yX11_pour prog_13_method_86_code 6 (some .int) ∈ lw_gd := lw_g (List.mem_of_getElem? (i := 1759) (by decide +kernel)) rfl
theorem kl_1760 : Cond.methodLink R_law 166 yX11_image ∈ lw_gd := lw_g (List.mem_of_getElem? (i := 1760) (by decide +kernel)) rfl
theorem kl_1761 : Cond.instanceMethod yX11_image ∈ lw_gd := lw_g (List.mem_of_getElem? (i := 1761) (by decide +kernel)) rfl
theorem kl_1762 : Cond.selects RX11 yX11_image yX11_image ∈ lw_gd := lw_g (List.mem_of_getElem? (i := 1762) (by decide +kernel)) rfl
theorem kl_1763 : Cond.code yX11_image prog_13_method_92_code 1 (some .int) ∈ lw_gd := lw_g (List.mem_of_getElem? (i := 1763) (by decide +kernel)) rfl
theorem kl_1787 : Cond.methodLink R_law 170 yX11_undo ∈ lw_gd := lw_g (List.mem_of_getElem? (i := 1787) (by decide +kernel)) rfl
theorem kl_1788 : Cond.instanceMethod yX11_undo ∈ lw_gd := lw_g (List.mem_of_getElem? (i := 1788) (by decide +kernel)) rfl
theorem kl_1789 : Cond.selects RX11 yX11_undo yX11_undo ∈ lw_gd := lw_g (List.mem_of_getElem? (i := 1789) (by decide +kernel)) rfl
theorem kl_1790 : Cond.code yX11_undo prog_13_method_93_code 1 (some .int) ∈ lw_gd := lw_g (List.mem_of_getElem? (i := 1790) (by decide +kernel)) rfl
theorem kl_1791 : Cond.constantLong R_law 13 4294967295 ∈ lw_gd := lw_g (List.mem_of_getElem? (i := 1791) (by decide +kernel)) rfl
