theorem wt800 : wt 800 = (.code yX0_restOf cX0_restOf 6 (some .int) : Cond) := rfl
theorem wt801 : wt 801 = (.methodLink RL 70 yX11_tick : Cond) := rfl
theorem wt802 : wt 802 = (.instanceMethod yX11_tick : Cond) := rfl
theorem wt803 : wt 803 = (.selects RX11 yX11_tick yX11_tick : Cond) := rfl
theorem wt804 : wt 804 = (.code yX11_tick cX11_tick 4 (some .int) : Cond) := rfl
theorem wt805 : wt 805 = (.constantLong RX11 366 (240) : Cond) := rfl
theorem wt806 : wt 806 = (.methodLink RX11 363 yX11_isLaw : Cond) := rfl
theorem wt807 : wt 807 = (.instanceMethod yX11_isLaw : Cond) := rfl
theorem wt808 : wt 808 = (.selects RX11 yX11_isLaw yX11_isLaw : Cond) := rfl
theorem wt809 : wt 809 = (.code yX11_isLaw cX11_isLaw 2 (some .boolean) : Cond) := rfl
theorem wt810 : wt 810 = (.methodLink RX11 368 yX11_hour : Cond) := rfl
theorem wt811 : wt 811 = (.instanceMethod yX11_hour : Cond) := rfl
theorem wt812 : wt 812 = (.selects RX11 yX11_hour yX11_hour : Cond) := rfl
theorem wt813 : wt 813 = (.code yX11_hour cX11_hour 4 none : Cond) := rfl
theorem wt814 : wt 814 = (.methodLink RX11 357 yX11_meltOf : Cond) := rfl
theorem wt815 : wt 815 = (.instanceMethod yX11_meltOf : Cond) := rfl
theorem wt816 : wt 816 = (.selects RX11 yX11_meltOf yX11_meltOf : Cond) := rfl
theorem wt817 : wt 817 = (.code yX11_meltOf cX11_meltOf 3 (some .int) : Cond) := rfl
theorem wt818 : wt 818 = (.methodLink RX11 326 yX11_passWords : Cond) := rfl
theorem wt819 : wt 819 = (.instanceMethod yX11_passWords : Cond) := rfl
theorem wt820 : wt 820 = (.selects RX11 yX11_passWords yX11_passWords : Cond) := rfl
theorem wt821 : wt 821 = (.code yX11_passWords cX11_passWords 9 none : Cond) := rfl
theorem wt822 : wt 822 = (.constantLong RX11 316 (12) : Cond) := rfl
theorem wt823 : wt 823 = (.methodLink RX11 312 yX11_hourWords : Cond) := rfl
theorem wt824 : wt 824 = (.instanceMethod yX11_hourWords : Cond) := rfl
theorem wt825 : wt 825 = (.selects RX11 yX11_hourWords yX11_hourWords : Cond) := rfl
theorem wt826 : wt 826 = (.code yX11_hourWords cX11_hourWords 5 none : Cond) := rfl
theorem wt827 : wt 827 = (.methodLink RX11 330 yX11_nodeWords : Cond) := rfl
theorem wt828 : wt 828 = (.instanceMethod yX11_nodeWords : Cond) := rfl
theorem wt829 : wt 829 = (.selects RX11 yX11_nodeWords yX11_nodeWords : Cond) := rfl
theorem wt830 : wt 830 = (.code yX11_nodeWords cX11_nodeWords 6 none : Cond) := rfl
theorem wt831 : wt 831 = (.methodLink RX11 334 yX11_meltBy : Cond) := rfl
theorem wt832 : wt 832 = (.instanceMethod yX11_meltBy : Cond) := rfl
theorem wt833 : wt 833 = (.selects RX11 yX11_meltBy yX11_meltBy : Cond) := rfl
theorem wt834 : wt 834 = (.code yX11_meltBy cX11_meltBy 4 (some .int) : Cond) := rfl
theorem wt835 : wt 835 = (.methodLink RX11 318 yX11_summed : Cond) := rfl
theorem wt836 : wt 836 = (.instanceMethod yX11_summed : Cond) := rfl
theorem wt837 : wt 837 = (.selects RX11 yX11_summed yX11_summed : Cond) := rfl
theorem wt838 : wt 838 = (.code yX11_summed cX11_summed 5 (some .long) : Cond) := rfl
theorem wt839 : wt 839 = (.methodLink RX11 253 yX11_reckons : Cond) := rfl
theorem wt840 : wt 840 = (.instanceMethod yX11_reckons : Cond) := rfl
theorem wt841 : wt 841 = (.selects RX11 yX11_reckons yX11_reckons : Cond) := rfl
theorem wt842 : wt 842 = (.code yX11_reckons cX11_reckons 11 (some .long) : Cond) := rfl
theorem wt843 : wt 843 = (.fieldLink RX11 238 "SnowMulesModel" "top" "I" : Cond) := rfl
theorem wt844 : wt 844 = (.methodLink RX11 241 yX11_push : Cond) := rfl
theorem wt845 : wt 845 = (.instanceMethod yX11_push : Cond) := rfl
theorem wt846 : wt 846 = (.selects RX11 yX11_push yX11_push : Cond) := rfl
theorem wt847 : wt 847 = (.code yX11_push cX11_push 3 none : Cond) := rfl
theorem wt848 : wt 848 = (.methodLink RX11 245 yX11_pop : Cond) := rfl
theorem wt849 : wt 849 = (.instanceMethod yX11_pop : Cond) := rfl
theorem wt850 : wt 850 = (.selects RX11 yX11_pop yX11_pop : Cond) := rfl
theorem wt851 : wt 851 = (.code yX11_pop cX11_pop 1 (some .long) : Cond) := rfl
theorem wt852 : wt 852 = (.methodLink RX11 249 yX11_one : Cond) := rfl
theorem wt853 : wt 853 = (.static yX11_one : Cond) := rfl
theorem wt854 : wt 854 = (.code yX11_one cX11_one 5 (some .long) : Cond) := rfl
theorem wt855 : wt 855 = (.methodLink RX11 322 yX11_bounded : Cond) := rfl
theorem wt856 : wt 856 = (.static yX11_bounded : Cond) := rfl
theorem wt857 : wt 857 = (.code yX11_bounded cX11_bounded 6 (some .long) : Cond) := rfl
theorem wt858 : wt 858 = (.methodLink RX11 360 yX11_comes : Cond) := rfl
theorem wt859 : wt 859 = (.instanceMethod yX11_comes : Cond) := rfl
theorem wt860 : wt 860 = (.selects RX11 yX11_comes yX11_comes : Cond) := rfl
theorem wt861 : wt 861 = (.code yX11_comes cX11_comes 7 none : Cond) := rfl
theorem wt862 : wt 862 = (.constantLong RX11 349 (100) : Cond) := rfl
theorem wt863 : wt 863 = (.methodLink RX11 351 yX11_draw : Cond) := rfl
theorem wt864 : wt 864 = (.instanceMethod yX11_draw : Cond) := rfl
theorem wt865 : wt 865 = (.selects RX11 yX11_draw yX11_draw : Cond) := rfl
theorem wt866 : wt 866 = (.code yX11_draw cX11_draw 3 (some .int) : Cond) := rfl
theorem wt867 : wt 867 = (.constantLong RX11 338 (1103515245) : Cond) := rfl
theorem wt868 : wt 868 = (.constantLong RX11 340 (12345) : Cond) := rfl
theorem wt869 : wt 869 = (.constantLong RX11 342 (2147483648) : Cond) := rfl
theorem wt870 : wt 870 = (.constantLong RX11 344 (65536) : Cond) := rfl
theorem wt871 : wt 871 = (.methodLink RX11 346 yX11_goesFor : Cond) := rfl
theorem wt872 : wt 872 = (.instanceMethod yX11_goesFor : Cond) := rfl
theorem wt873 : wt 873 = (.selects RX11 yX11_goesFor yX11_goesFor : Cond) := rfl
theorem wt874 : wt 874 = (.code yX11_goesFor cX11_goesFor 3 none : Cond) := rfl
theorem wt875 : wt 875 = (.methodLink RX11 354 yX11_bursts : Cond) := rfl
theorem wt876 : wt 876 = (.instanceMethod yX11_bursts : Cond) := rfl
theorem wt877 : wt 877 = (.selects RX11 yX11_bursts yX11_bursts : Cond) := rfl
theorem wt878 : wt 878 = (.code yX11_bursts cX11_bursts 9 none : Cond) := rfl
theorem wt879 : wt 879 = (.methodLink RL 71 yX10_at : Cond) := rfl
theorem wt880 : wt 880 = (.instanceMethod yX10_at : Cond) := rfl
theorem wt881 : wt 881 = (.selects RX10 yX10_at yX10_at : Cond) := rfl
theorem wt882 : wt 882 = (.code yX10_at cX10_at 3 (some .int) : Cond) := rfl
theorem wt883 : wt 883 = (.methodLink RX10 169 yX9_jarsAt : Cond) := rfl
theorem wt884 : wt 884 = (.instanceMethod yX9_jarsAt : Cond) := rfl
theorem wt885 : wt 885 = (.selects RX9 yX9_jarsAt yX9_jarsAt : Cond) := rfl
theorem wt886 : wt 886 = (.code yX9_jarsAt cX9_jarsAt 4 (some .int) : Cond) := rfl
theorem wt887 : wt 887 = (.fieldLink RX9 60 "SnowMules$Table" "size" "I" : Cond) := rfl
theorem wt888 : wt 888 = (.methodLink RL 74 yX11_at : Cond) := rfl
theorem wt889 : wt 889 = (.instanceMethod yX11_at : Cond) := rfl
theorem wt890 : wt 890 = (.selects RX11 yX11_at yX11_at : Cond) := rfl
theorem wt891 : wt 891 = (.code yX11_at cX11_at 5 (some .int) : Cond) := rfl
theorem wt892 : wt 892 = (.constantLong RX11 371 (5) : Cond) := rfl
theorem wt893 : wt 893 = (.methodLink RL 75 yX10_of : Cond) := rfl
theorem wt894 : wt 894 = (.instanceMethod yX10_of : Cond) := rfl
theorem wt895 : wt 895 = (.selects RX10 yX10_of yX10_of : Cond) := rfl
theorem wt896 : wt 896 = (.code yX10_of cX10_of 3 (some .int) : Cond) := rfl
theorem wt897 : wt 897 = (.methodLink RL 78 yX11_of : Cond) := rfl
theorem wt898 : wt 898 = (.instanceMethod yX11_of : Cond) := rfl
theorem wt899 : wt 899 = (.selects RX11 yX11_of yX11_of : Cond) := rfl
theorem wt900 : wt 900 = (.code yX11_of cX11_of 3 (some .int) : Cond) := rfl
theorem wt901 : wt 901 = (.constantLong RX11 373 (8) : Cond) := rfl
theorem wt902 : wt 902 = (.methodLink RL 79 yX10_melt : Cond) := rfl
theorem wt903 : wt 903 = (.instanceMethod yX10_melt : Cond) := rfl
theorem wt904 : wt 904 = (.selects RX10 yX10_melt yX10_melt : Cond) := rfl
theorem wt905 : wt 905 = (.code yX10_melt cX10_melt 4 (some .int) : Cond) := rfl
theorem wt906 : wt 906 = (.methodLink RX10 172 yX0_meltOf : Cond) := rfl
theorem wt907 : wt 907 = (.methodLink RL 82 yX11_melt : Cond) := rfl
theorem wt908 : wt 908 = (.instanceMethod yX11_melt : Cond) := rfl
theorem wt909 : wt 909 = (.selects RX11 yX11_melt yX11_melt : Cond) := rfl
theorem wt910 : wt 910 = (.code yX11_melt cX11_melt 3 (some .int) : Cond) := rfl
theorem wt911 : wt 911 = (.methodLink RL 83 yX10_lay : Cond) := rfl
theorem wt912 : wt 912 = (.instanceMethod yX10_lay : Cond) := rfl
theorem wt913 : wt 913 = (.selects RX10 yX10_lay yX10_lay : Cond) := rfl
theorem wt914 : wt 914 = (.code yX10_lay cX10_lay 4 (some .int) : Cond) := rfl
theorem wt915 : wt 915 = (.fieldLink RX10 176 "SnowMules$World" "wayStart" "I" : Cond) := rfl
theorem wt916 : wt 916 = (.fieldLink RX10 185 "SnowMules$World" "way" "LSnowMules$Table;" : Cond) := rfl
theorem wt917 : wt 917 = (.methodLink RX10 179 yX9_wayEnd : Cond) := rfl
theorem wt918 : wt 918 = (.instanceMethod yX9_wayEnd : Cond) := rfl
theorem wt919 : wt 919 = (.selects RX9 yX9_wayEnd yX9_wayEnd : Cond) := rfl
theorem wt920 : wt 920 = (.code yX9_wayEnd cX9_wayEnd 3 (some .int) : Cond) := rfl
theorem wt921 : wt 921 = (.methodLink RX9 63 yX9_otherEnd : Cond) := rfl
theorem wt922 : wt 922 = (.methodLink RX10 182 yX9_wayHas : Cond) := rfl
theorem wt923 : wt 923 = (.instanceMethod yX9_wayHas : Cond) := rfl
theorem wt924 : wt 924 = (.selects RX9 yX9_wayHas yX9_wayHas : Cond) := rfl
theorem wt925 : wt 925 = (.code yX9_wayHas cX9_wayHas 4 (some .boolean) : Cond) := rfl
theorem wt926 : wt 926 = (.methodLink RL 86 yX11_lay : Cond) := rfl
theorem wt927 : wt 927 = (.instanceMethod yX11_lay : Cond) := rfl
theorem wt928 : wt 928 = (.selects RX11 yX11_lay yX11_lay : Cond) := rfl
theorem wt929 : wt 929 = (.code yX11_lay cX11_lay 3 (some .int) : Cond) := rfl
theorem wt930 : wt 930 = (.methodLink RX11 375 yX11_wayEnd : Cond) := rfl
theorem wt931 : wt 931 = (.instanceMethod yX11_wayEnd : Cond) := rfl
theorem wt932 : wt 932 = (.selects RX11 yX11_wayEnd yX11_wayEnd : Cond) := rfl
theorem wt933 : wt 933 = (.code yX11_wayEnd cX11_wayEnd 3 (some .int) : Cond) := rfl
theorem wt934 : wt 934 = (.methodLink RX11 378 yX11_isOfWay : Cond) := rfl
theorem wt935 : wt 935 = (.instanceMethod yX11_isOfWay : Cond) := rfl
theorem wt936 : wt 936 = (.selects RX11 yX11_isOfWay yX11_isOfWay : Cond) := rfl
theorem wt937 : wt 937 = (.code yX11_isOfWay cX11_isOfWay 5 (some .boolean) : Cond) := rfl
theorem wt938 : wt 938 = (.methodLink RL 87 yX10_from : Cond) := rfl
theorem wt939 : wt 939 = (.instanceMethod yX10_from : Cond) := rfl
theorem wt940 : wt 940 = (.selects RX10 yX10_from yX10_from : Cond) := rfl
theorem wt941 : wt 941 = (.code yX10_from cX10_from 2 (some .boolean) : Cond) := rfl
theorem wt942 : wt 942 = (.fieldLink RX10 188 "SnowMules$Table" "size" "I" : Cond) := rfl
theorem wt943 : wt 943 = (.methodLink RL 91 yX11_from : Cond) := rfl
theorem wt944 : wt 944 = (.instanceMethod yX11_from : Cond) := rfl
theorem wt945 : wt 945 = (.selects RX11 yX11_from yX11_from : Cond) := rfl
theorem wt946 : wt 946 = (.code yX11_from cX11_from 2 (some .boolean) : Cond) := rfl
theorem wt947 : wt 947 = (.methodLink RL 92 yX10_tried : Cond) := rfl
theorem wt948 : wt 948 = (.instanceMethod yX10_tried : Cond) := rfl
theorem wt949 : wt 949 = (.selects RX10 yX10_tried yX10_tried : Cond) := rfl
theorem wt950 : wt 950 = (.code yX10_tried cX10_tried 8 (some .int) : Cond) := rfl
theorem wt951 : wt 951 = (.fieldLink RX10 202 "SnowMules$Trip" "drops" "I" : Cond) := rfl
theorem wt952 : wt 952 = (.fieldLink RX10 205 "SnowMules$Trip" "hour" "I" : Cond) := rfl
theorem wt953 : wt 953 = (.methodLink RX10 191 yX10_isLoad : Cond) := rfl
theorem wt954 : wt 954 = (.static yX10_isLoad : Cond) := rfl
theorem wt955 : wt 955 = (.code yX10_isLoad cX10_isLoad 4 (some .boolean) : Cond) := rfl
theorem wt956 : wt 956 = (.methodLink RX10 195 yX7_begin : Cond) := rfl
theorem wt957 : wt 957 = (.instanceMethod yX7_begin : Cond) := rfl
theorem wt958 : wt 958 = (.selects RX7 yX7_begin yX7_begin : Cond) := rfl
theorem wt959 : wt 959 = (.code yX7_begin cX7_begin 6 none : Cond) := rfl
theorem wt960 : wt 960 = (.fieldLink RX7 29 "SnowMules$Trip" "hour" "I" : Cond) := rfl
theorem wt961 : wt 961 = (.fieldLink RX7 33 "SnowMules$Trip" "drops" "I" : Cond) := rfl
theorem wt962 : wt 962 = (.fieldLink RX7 36 "SnowMules$Trip" "felt" "I" : Cond) := rfl
theorem wt963 : wt 963 = (.fieldLink RX7 39 "SnowMules$Trip" "salt" "I" : Cond) := rfl
theorem wt964 : wt 964 = (.fieldLink RX7 42 "SnowMules$Trip" "warmth" "I" : Cond) := rfl
theorem wt965 : wt 965 = (.fieldLink RX7 45 "SnowMules$Trip" "needed" "I" : Cond) := rfl
theorem wt966 : wt 966 = (.methodLink RX10 199 yX7_followKeeping : Cond) := rfl
theorem wt967 : wt 967 = (.instanceMethod yX7_followKeeping : Cond) := rfl
theorem wt968 : wt 968 = (.selects RX7 yX7_followKeeping yX7_followKeeping : Cond) := rfl
theorem wt969 : wt 969 = (.code yX7_followKeeping cX7_followKeeping 4 (some .boolean) : Cond) := rfl
theorem wt970 : wt 970 = (.fieldLink RX7 97 "SnowMules$World" "wayStart" "I" : Cond) := rfl
theorem wt971 : wt 971 = (.fieldLink RX7 100 "SnowMules$World" "way" "LSnowMules$Table;" : Cond) := rfl
theorem wt972 : wt 972 = (.fieldLink RX7 103 "SnowMules$Table" "size" "I" : Cond) := rfl
theorem wt973 : wt 973 = (.methodLink RX7 84 yX6_get : Cond) := rfl
theorem wt974 : wt 974 = (.methodLink RX7 106 yX7_cross : Cond) := rfl
theorem wt975 : wt 975 = (.instanceMethod yX7_cross : Cond) := rfl
theorem wt976 : wt 976 = (.selects RX7 yX7_cross yX7_cross : Cond) := rfl
theorem wt977 : wt 977 = (.code yX7_cross cX7_cross 6 (some .int) : Cond) := rfl
theorem wt978 : wt 978 = (.fieldLink RX7 80 "SnowMules$World" "passes" "LSnowMules$Table;" : Cond) := rfl
theorem wt979 : wt 979 = (.fieldLink RX7 62 "SnowMules$Scene" "words" "[I" : Cond) := rfl
theorem wt980 : wt 980 = (.methodLink RX7 74 yX9_otherEnd : Cond) := rfl
theorem wt981 : wt 981 = (.methodLink RX7 89 yX4_setPass : Cond) := rfl
theorem wt982 : wt 982 = (.methodLink RX7 93 yX4_setGone : Cond) := rfl
theorem wt983 : wt 983 = (.methodLink RX7 52 yX7_meltOneHour : Cond) := rfl
theorem wt984 : wt 984 = (.instanceMethod yX7_meltOneHour : Cond) := rfl
theorem wt985 : wt 985 = (.selects RX7 yX7_meltOneHour yX7_meltOneHour : Cond) := rfl
theorem wt986 : wt 986 = (.code yX7_meltOneHour cX7_meltOneHour 1 none : Cond) := rfl
theorem wt987 : wt 987 = (.methodLink RX7 55 yX4_setHour : Cond) := rfl
theorem wt988 : wt 988 = (.methodLink RX7 58 yX4_setLoad : Cond) := rfl
theorem wt989 : wt 989 = (.methodLink RX7 66 yX1_sumOf : Cond) := rfl
theorem wt990 : wt 990 = (.methodLink RX7 48 yX4_setNode : Cond) := rfl
theorem wt991 : wt 991 = (.methodLink RL 96 yX11_tried : Cond) := rfl
theorem wt992 : wt 992 = (.instanceMethod yX11_tried : Cond) := rfl
theorem wt993 : wt 993 = (.selects RX11 yX11_tried yX11_tried : Cond) := rfl
theorem wt994 : wt 994 = (.code yX11_tried cX11_tried 8 (some .int) : Cond) := rfl
theorem wt995 : wt 995 = (.fieldLink RX11 384 "SnowMulesModel" "goDrops" "I" : Cond) := rfl
theorem wt996 : wt 996 = (.fieldLink RX11 387 "SnowMulesModel" "goHour" "I" : Cond) := rfl
theorem wt997 : wt 997 = (.methodLink RX11 403 yX11_canTry : Cond) := rfl
theorem wt998 : wt 998 = (.instanceMethod yX11_canTry : Cond) := rfl
theorem wt999 : wt 999 = (.selects RX11 yX11_canTry yX11_canTry : Cond) := rfl
theorem wt1000 : wt 1000 = (.code yX11_canTry cX11_canTry 6 (some .boolean) : Cond) := rfl
theorem wt1001 : wt 1001 = (.methodLink RX11 399 yX11_isJarLike : Cond) := rfl
theorem wt1002 : wt 1002 = (.static yX11_isJarLike : Cond) := rfl
theorem wt1003 : wt 1003 = (.code yX11_isJarLike cX11_isJarLike 3 (some .boolean) : Cond) := rfl
theorem wt1004 : wt 1004 = (.methodLink RX11 407 yX11_sets : Cond) := rfl
theorem wt1005 : wt 1005 = (.instanceMethod yX11_sets : Cond) := rfl
theorem wt1006 : wt 1006 = (.selects RX11 yX11_sets yX11_sets : Cond) := rfl
theorem wt1007 : wt 1007 = (.code yX11_sets cX11_sets 6 none : Cond) := rfl
theorem wt1008 : wt 1008 = (.fieldLink RX11 381 "SnowMulesModel" "goNode" "I" : Cond) := rfl
theorem wt1009 : wt 1009 = (.fieldLink RX11 390 "SnowMulesModel" "goFelt" "I" : Cond) := rfl
theorem wt1010 : wt 1010 = (.fieldLink RX11 393 "SnowMulesModel" "goSalt" "I" : Cond) := rfl
theorem wt1011 : wt 1011 = (.fieldLink RX11 396 "SnowMulesModel" "goMore" "I" : Cond) := rfl
theorem wt1012 : wt 1012 = (.methodLink RX11 410 yX11_travels : Cond) := rfl
theorem wt1013 : wt 1013 = (.instanceMethod yX11_travels : Cond) := rfl
theorem wt1014 : wt 1014 = (.selects RX11 yX11_travels yX11_travels : Cond) := rfl
theorem wt1015 : wt 1015 = (.code yX11_travels cX11_travels 5 none : Cond) := rfl
theorem wt1016 : wt 1016 = (.methodLink RL 97 yX10_best : Cond) := rfl
theorem wt1017 : wt 1017 = (.instanceMethod yX10_best : Cond) := rfl
theorem wt1018 : wt 1018 = (.selects RX10 yX10_best yX10_best : Cond) := rfl
theorem wt1019 : wt 1019 = (.code yX10_best cX10_best 10 (some .int) : Cond) := rfl
theorem wt1020 : wt 1020 = (.fieldLink RX10 217 "SnowMules$Search" "left" "I" : Cond) := rfl
theorem wt1021 : wt 1021 = (.fieldLink RX10 220 "SnowMules$Search" "leaving" "I" : Cond) := rfl
theorem wt1022 : wt 1022 = (.fieldLink RX10 223 "SnowMules$Search" "length" "I" : Cond) := rfl
theorem wt1023 : wt 1023 = (.methodLink RX10 208 yX10_isJourney : Cond) := rfl
theorem wt1024 : wt 1024 = (.instanceMethod yX10_isJourney : Cond) := rfl
theorem wt1025 : wt 1025 = (.selects RX10 yX10_isJourney yX10_isJourney : Cond) := rfl
theorem wt1026 : wt 1026 = (.code yX10_isJourney cX10_isJourney 3 (some .boolean) : Cond) := rfl
theorem wt1027 : wt 1027 = (.methodLink RX10 211 yX5_aim : Cond) := rfl
theorem wt1028 : wt 1028 = (.instanceMethod yX5_aim : Cond) := rfl
theorem wt1029 : wt 1029 = (.selects RX5 yX5_aim yX5_aim : Cond) := rfl
theorem wt1030 : wt 1030 = (.code yX5_aim cX5_aim 3 none : Cond) := rfl
theorem wt1031 : wt 1031 = (.fieldLink RX5 29 "SnowMules$Search" "target" "I" : Cond) := rfl
theorem wt1032 : wt 1032 = (.fieldLink RX5 33 "SnowMules$Search" "barred" "I" : Cond) := rfl
theorem wt1033 : wt 1033 = (.fieldLink RX5 36 "SnowMules$Search" "anyWill" "Z" : Cond) := rfl
theorem wt1034 : wt 1034 = (.constant RX5 40 (1000000) : Cond) := rfl
theorem wt1035 : wt 1035 = (.fieldLink RX5 41 "SnowMules$Search" "latest" "I" : Cond) := rfl
theorem wt1036 : wt 1036 = (.fieldLink RX5 44 "SnowMules$Search" "left" "I" : Cond) := rfl
theorem wt1037 : wt 1037 = (.fieldLink RX5 47 "SnowMules$Search" "leaving" "I" : Cond) := rfl
theorem wt1038 : wt 1038 = (.fieldLink RX5 50 "SnowMules$Search" "waited" "I" : Cond) := rfl
theorem wt1039 : wt 1039 = (.fieldLink RX5 53 "SnowMules$Search" "length" "I" : Cond) := rfl
theorem wt1040 : wt 1040 = (.methodLink RX5 56 yX5_measure : Cond) := rfl
theorem wt1041 : wt 1041 = (.instanceMethod yX5_measure : Cond) := rfl
theorem wt1042 : wt 1042 = (.selects RX5 yX5_measure yX5_measure : Cond) := rfl
theorem wt1043 : wt 1043 = (.code yX5_measure cX5_measure 7 none : Cond) := rfl
theorem wt1044 : wt 1044 = (.fieldLink RX5 109 "SnowMules$World" "passes" "LSnowMules$Table;" : Cond) := rfl
theorem wt1045 : wt 1045 = (.fieldLink RX5 112 "SnowMules$Table" "size" "I" : Cond) := rfl
theorem wt1046 : wt 1046 = (.methodLink RX5 125 yX5_shorten : Cond) := rfl
theorem wt1047 : wt 1047 = (.instanceMethod yX5_shorten : Cond) := rfl
theorem wt1048 : wt 1048 = (.selects RX5 yX5_shorten yX5_shorten : Cond) := rfl
theorem wt1049 : wt 1049 = (.code yX5_shorten cX5_shorten 6 (some .boolean) : Cond) := rfl
theorem wt1050 : wt 1050 = (.methodLink RX5 82 yX6_get : Cond) := rfl
theorem wt1051 : wt 1051 = (.methodLink RX5 118 yX5_farTo : Cond) := rfl
theorem wt1052 : wt 1052 = (.instanceMethod yX5_farTo : Cond) := rfl
theorem wt1053 : wt 1053 = (.selects RX5 yX5_farTo yX5_farTo : Cond) := rfl
theorem wt1054 : wt 1054 = (.code yX5_farTo cX5_farTo 2 (some .int) : Cond) := rfl
theorem wt1055 : wt 1055 = (.methodLink RX5 129 yX5_reach : Cond) := rfl
theorem wt1056 : wt 1056 = (.instanceMethod yX5_reach : Cond) := rfl
theorem wt1057 : wt 1057 = (.selects RX5 yX5_reach yX5_reach : Cond) := rfl
theorem wt1058 : wt 1058 = (.code yX5_reach cX5_reach 3 (some .boolean) : Cond) := rfl
theorem wt1059 : wt 1059 = (.methodLink RX10 214 yX5_findBest : Cond) := rfl
theorem wt1060 : wt 1060 = (.instanceMethod yX5_findBest : Cond) := rfl
theorem wt1061 : wt 1061 = (.selects RX5 yX5_findBest yX5_findBest : Cond) := rfl
theorem wt1062 : wt 1062 = (.code yX5_findBest cX5_findBest 5 none : Cond) := rfl
theorem wt1063 : wt 1063 = (.fieldLink RX5 60 "SnowMules$Trip" "hour" "I" : Cond) := rfl
theorem wt1064 : wt 1064 = (.fieldLink RX5 65 "SnowMules$Trip" "drops" "I" : Cond) := rfl
theorem wt1065 : wt 1065 = (.methodLink RX5 68 yX5_seek : Cond) := rfl
theorem wt1066 : wt 1066 = (.instanceMethod yX5_seek : Cond) := rfl
theorem wt1067 : wt 1067 = (.selects RX5 yX5_seek yX5_seek : Cond) := rfl
theorem wt1068 : wt 1068 = (.code yX5_seek cX5_seek 9 none : Cond) := rfl
theorem wt1069 : wt 1069 = (.methodLink RX5 105 yX5_keep : Cond) := rfl
theorem wt1070 : wt 1070 = (.instanceMethod yX5_keep : Cond) := rfl
theorem wt1071 : wt 1071 = (.selects RX5 yX5_keep yX5_keep : Cond) := rfl
theorem wt1072 : wt 1072 = (.code yX5_keep cX5_keep 3 none : Cond) := rfl
theorem wt1073 : wt 1073 = (.constant RX5 124 (99999) : Cond) := rfl
theorem wt1074 : wt 1074 = (.fieldLink RX5 102 "SnowMules$Trip" "needed" "I" : Cond) := rfl
theorem wt1075 : wt 1075 = (.methodLink RX5 115 yX9_otherEnd : Cond) := rfl
theorem wt1076 : wt 1076 = (.methodLink RX5 121 yX7_cross : Cond) := rfl
theorem wt1077 : wt 1077 = (.methodLink RX10 226 yX5_passOf : Cond) := rfl
theorem wt1078 : wt 1078 = (.instanceMethod yX5_passOf : Cond) := rfl
theorem wt1079 : wt 1079 = (.selects RX5 yX5_passOf yX5_passOf : Cond) := rfl
theorem wt1080 : wt 1080 = (.code yX5_passOf cX5_passOf 2 (some .int) : Cond) := rfl
theorem wt1081 : wt 1081 = (.methodLink RL 101 yX11_best : Cond) := rfl
theorem wt1082 : wt 1082 = (.instanceMethod yX11_best : Cond) := rfl
theorem wt1083 : wt 1083 = (.selects RX11 yX11_best yX11_best : Cond) := rfl
theorem wt1084 : wt 1084 = (.code yX11_best cX11_best 9 (some .int) : Cond) := rfl
theorem wt1085 : wt 1085 = (.fieldLink RX11 413 "SnowMulesModel" "bestLeft" "I" : Cond) := rfl
theorem wt1086 : wt 1086 = (.fieldLink RX11 416 "SnowMulesModel" "bestHour" "I" : Cond) := rfl
theorem wt1087 : wt 1087 = (.fieldLink RX11 419 "SnowMulesModel" "bestMany" "I" : Cond) := rfl
theorem wt1088 : wt 1088 = (.methodLink RX11 430 yX11_searchesDay : Cond) := rfl
theorem wt1089 : wt 1089 = (.instanceMethod yX11_searchesDay : Cond) := rfl
theorem wt1090 : wt 1090 = (.selects RX11 yX11_searchesDay yX11_searchesDay : Cond) := rfl
theorem wt1091 : wt 1091 = (.code yX11_searchesDay cX11_searchesDay 10 none : Cond) := rfl
theorem wt1092 : wt 1092 = (.constant RX11 425 (2147483647) : Cond) := rfl
theorem wt1093 : wt 1093 = (.methodLink RX11 426 yX11_searches : Cond) := rfl
theorem wt1094 : wt 1094 = (.instanceMethod yX11_searches : Cond) := rfl
theorem wt1095 : wt 1095 = (.selects RX11 yX11_searches yX11_searches : Cond) := rfl
theorem wt1096 : wt 1096 = (.code yX11_searches cX11_searches 13 none : Cond) := rfl
theorem wt1097 : wt 1097 = (.methodLink RX11 422 yX11_wasAt : Cond) := rfl
theorem wt1098 : wt 1098 = (.instanceMethod yX11_wasAt : Cond) := rfl
theorem wt1099 : wt 1099 = (.selects RX11 yX11_wasAt yX11_wasAt : Cond) := rfl
theorem wt1100 : wt 1100 = (.code yX11_wasAt cX11_wasAt 4 (some .boolean) : Cond) := rfl
theorem wt1101 : wt 1101 = (.methodLink RL 102 yX10_soonest : Cond) := rfl
theorem wt1102 : wt 1102 = (.instanceMethod yX10_soonest : Cond) := rfl
theorem wt1103 : wt 1103 = (.selects RX10 yX10_soonest yX10_soonest : Cond) := rfl
theorem wt1104 : wt 1104 = (.code yX10_soonest cX10_soonest 4 (some .int) : Cond) := rfl
theorem wt1105 : wt 1105 = (.constant RX10 236 (1000000) : Cond) := rfl
theorem wt1106 : wt 1106 = (.methodLink RX10 229 yX5_measure : Cond) := rfl
theorem wt1107 : wt 1107 = (.methodLink RX10 233 yX5_farTo : Cond) := rfl
theorem wt1108 : wt 1108 = (.methodLink RL 105 yX11_soonest : Cond) := rfl
theorem wt1109 : wt 1109 = (.instanceMethod yX11_soonest : Cond) := rfl
theorem wt1110 : wt 1110 = (.selects RX11 yX11_soonest yX11_soonest : Cond) := rfl
theorem wt1111 : wt 1111 = (.code yX11_soonest cX11_soonest 3 (some .int) : Cond) := rfl
theorem wt1112 : wt 1112 = (.methodLink RX11 434 yX11_spreads : Cond) := rfl
theorem wt1113 : wt 1113 = (.instanceMethod yX11_spreads : Cond) := rfl
theorem wt1114 : wt 1114 = (.selects RX11 yX11_spreads yX11_spreads : Cond) := rfl
theorem wt1115 : wt 1115 = (.code yX11_spreads cX11_spreads 7 none : Cond) := rfl
theorem wt1116 : wt 1116 = (.methodLink RL 106 yX10_nearest : Cond) := rfl
theorem wt1117 : wt 1117 = (.instanceMethod yX10_nearest : Cond) := rfl
theorem wt1118 : wt 1118 = (.selects RX10 yX10_nearest yX10_nearest : Cond) := rfl
theorem wt1119 : wt 1119 = (.code yX10_nearest cX10_nearest 6 (some .int) : Cond) := rfl
theorem wt1120 : wt 1120 = (.methodLink RL 109 yX11_nearest : Cond) := rfl
theorem wt1121 : wt 1121 = (.instanceMethod yX11_nearest : Cond) := rfl
theorem wt1122 : wt 1122 = (.selects RX11 yX11_nearest yX11_nearest : Cond) := rfl
theorem wt1123 : wt 1123 = (.code yX11_nearest cX11_nearest 5 (some .int) : Cond) := rfl
theorem wt1124 : wt 1124 = (.methodLink RL 110 yX10_warmer : Cond) := rfl
theorem wt1125 : wt 1125 = (.instanceMethod yX10_warmer : Cond) := rfl
theorem wt1126 : wt 1126 = (.selects RX10 yX10_warmer yX10_warmer : Cond) := rfl
theorem wt1127 : wt 1127 = (.code yX10_warmer cX10_warmer 10 (some .int) : Cond) := rfl
theorem wt1128 : wt 1128 = (.fieldLink RX10 237 "SnowMules$Trip" "warmth" "I" : Cond) := rfl
theorem wt1129 : wt 1129 = (.methodLink RX10 240 Lib.Math.max.name : Cond) := rfl
theorem wt1130 : wt 1130 = (.fieldLink RX10 245 "SnowMules$Trip" "needed" "I" : Cond) := rfl
theorem wt1131 : wt 1131 = (.methodLink RL 113 yX11_warmer : Cond) := rfl
theorem wt1132 : wt 1132 = (.instanceMethod yX11_warmer : Cond) := rfl
theorem wt1133 : wt 1133 = (.selects RX11 yX11_warmer yX11_warmer : Cond) := rfl
theorem wt1134 : wt 1134 = (.code yX11_warmer cX11_warmer 9 (some .int) : Cond) := rfl
theorem wt1135 : wt 1135 = (.methodLink RL 114 yX10_guess : Cond) := rfl
theorem wt1136 : wt 1136 = (.instanceMethod yX10_guess : Cond) := rfl
theorem wt1137 : wt 1137 = (.selects RX10 yX10_guess yX10_guess : Cond) := rfl
theorem wt1138 : wt 1138 = (.code yX10_guess cX10_guess 13 (some .int) : Cond) := rfl
theorem wt1139 : wt 1139 = (.fieldLink RX10 251 "SnowMules$Waits" "found" "I" : Cond) := rfl
theorem wt1140 : wt 1140 = (.methodLink RX10 248 yX8_find : Cond) := rfl
theorem wt1141 : wt 1141 = (.instanceMethod yX8_find : Cond) := rfl
theorem wt1142 : wt 1142 = (.selects RX8 yX8_find yX8_find : Cond) := rfl
theorem wt1143 : wt 1143 = (.code yX8_find cX8_find 4 none : Cond) := rfl
theorem wt1144 : wt 1144 = (.fieldLink RX8 29 "SnowMules$Waits" "found" "I" : Cond) := rfl
theorem wt1145 : wt 1145 = (.fieldLink RX8 33 "SnowMules$Waits" "due" "I" : Cond) := rfl
theorem wt1146 : wt 1146 = (.methodLink RX8 36 Lib.Math.max.name : Cond) := rfl
theorem wt1147 : wt 1147 = (.fieldLink RX8 42 "SnowMules$Trip" "needed" "I" : Cond) := rfl
theorem wt1148 : wt 1148 = (.fieldLink RX8 47 "SnowMules$World" "wayStart" "I" : Cond) := rfl
theorem wt1149 : wt 1149 = (.methodLink RX8 52 yX8_spread : Cond) := rfl
theorem wt1150 : wt 1150 = (.instanceMethod yX8_spread : Cond) := rfl
theorem wt1151 : wt 1151 = (.selects RX8 yX8_spread yX8_spread : Cond) := rfl
theorem wt1152 : wt 1152 = (.code yX8_spread cX8_spread 10 none : Cond) := rfl
theorem wt1153 : wt 1153 = (.fieldLink RX8 56 "SnowMules$World" "way" "LSnowMules$Table;" : Cond) := rfl
theorem wt1154 : wt 1154 = (.fieldLink RX8 60 "SnowMules$Table" "size" "I" : Cond) := rfl
theorem wt1155 : wt 1155 = (.fieldLink RX8 65 "SnowMules$Trip" "drops" "I" : Cond) := rfl
theorem wt1156 : wt 1156 = (.fieldLink RX8 75 "SnowMules$Trip" "hour" "I" : Cond) := rfl
theorem wt1157 : wt 1157 = (.methodLink RX8 68 yX8_note : Cond) := rfl
theorem wt1158 : wt 1158 = (.instanceMethod yX8_note : Cond) := rfl
theorem wt1159 : wt 1159 = (.selects RX8 yX8_note yX8_note : Cond) := rfl
theorem wt1160 : wt 1160 = (.code yX8_note cX8_note 3 none : Cond) := rfl
theorem wt1161 : wt 1161 = (.methodLink RX8 84 Lib.Math.min.name : Cond) := rfl
theorem wt1162 : wt 1162 = (.methodLink RX8 72 yX6_get : Cond) := rfl
theorem wt1163 : wt 1163 = (.methodLink RX8 78 yX7_cross : Cond) := rfl
theorem wt1164 : wt 1164 = (.methodLink RX8 81 yX7_waitAt : Cond) := rfl
theorem wt1165 : wt 1165 = (.instanceMethod yX7_waitAt : Cond) := rfl
theorem wt1166 : wt 1166 = (.selects RX7 yX7_waitAt yX7_waitAt : Cond) := rfl
theorem wt1167 : wt 1167 = (.code yX7_waitAt cX7_waitAt 2 none : Cond) := rfl
theorem wt1168 : wt 1168 = (.methodLink RX10 254 yX8_fewestAt : Cond) := rfl
theorem wt1169 : wt 1169 = (.instanceMethod yX8_fewestAt : Cond) := rfl
theorem wt1170 : wt 1170 = (.selects RX8 yX8_fewestAt yX8_fewestAt : Cond) := rfl
theorem wt1171 : wt 1171 = (.code yX8_fewestAt cX8_fewestAt 2 (some .int) : Cond) := rfl
theorem wt1172 : wt 1172 = (.methodLink RX10 257 yX8_mostAt : Cond) := rfl
theorem wt1173 : wt 1173 = (.instanceMethod yX8_mostAt : Cond) := rfl
theorem wt1174 : wt 1174 = (.selects RX8 yX8_mostAt yX8_mostAt : Cond) := rfl
theorem wt1175 : wt 1175 = (.code yX8_mostAt cX8_mostAt 2 (some .int) : Cond) := rfl
theorem wt1176 : wt 1176 = (.methodLink RL 118 yX11_guess : Cond) := rfl
theorem wt1177 : wt 1177 = (.instanceMethod yX11_guess : Cond) := rfl
theorem wt1178 : wt 1178 = (.selects RX11 yX11_guess yX11_guess : Cond) := rfl
theorem wt1179 : wt 1179 = (.code yX11_guess cX11_guess 16 (some .int) : Cond) := rfl
theorem wt1180 : wt 1180 = (.constantLong RX11 437 (2) : Cond) := rfl
theorem wt1181 : wt 1181 = (.methodLink RX11 439 yX11_waits : Cond) := rfl
theorem wt1182 : wt 1182 = (.instanceMethod yX11_waits : Cond) := rfl
theorem wt1183 : wt 1183 = (.selects RX11 yX11_waits yX11_waits : Cond) := rfl
theorem wt1184 : wt 1184 = (.code yX11_waits cX11_waits 2 none : Cond) := rfl
theorem wt1185 : wt 1185 = (.methodLink RX11 442 yX11_waitsOtherwise : Cond) := rfl
theorem wt1186 : wt 1186 = (.instanceMethod yX11_waitsOtherwise : Cond) := rfl
theorem wt1187 : wt 1187 = (.selects RX11 yX11_waitsOtherwise yX11_waitsOtherwise : Cond) := rfl
theorem wt1188 : wt 1188 = (.code yX11_waitsOtherwise cX11_waitsOtherwise 5 (some .boolean) : Cond) := rfl
theorem wt1189 : wt 1189 = (.methodLink RL 119 yX10_order : Cond) := rfl
theorem wt1190 : wt 1190 = (.instanceMethod yX10_order : Cond) := rfl
theorem wt1191 : wt 1191 = (.selects RX10 yX10_order yX10_order : Cond) := rfl
theorem wt1192 : wt 1192 = (.code yX10_order cX10_order 7 (some .int) : Cond) := rfl
theorem wt1193 : wt 1193 = (.fieldLink RX10 263 "SnowMules$World" "orders" "LSnowMules$Table;" : Cond) := rfl
theorem wt1194 : wt 1194 = (.methodLink RX10 260 yX10_isWish : Cond) := rfl
theorem wt1195 : wt 1195 = (.static yX10_isWish : Cond) := rfl
theorem wt1196 : wt 1196 = (.code yX10_isWish cX10_isWish 1 (some .boolean) : Cond) := rfl
theorem wt1197 : wt 1197 = (.methodLink RL 123 yX11_order : Cond) := rfl
theorem wt1198 : wt 1198 = (.instanceMethod yX11_order : Cond) := rfl
theorem wt1199 : wt 1199 = (.selects RX11 yX11_order yX11_order : Cond) := rfl
