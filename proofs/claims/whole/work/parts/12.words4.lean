theorem gw_902 : Cond.code y_R_full c_R_full 2 (some .boolean) ∈ ga_G := List.mem_filter.mpr ⟨gl_902, rfl⟩
theorem gl_903 : Cond.methodLink "LevelStoreModel" 156 (⟨"LevelStoreModel", "onLevel", "(I)I"⟩ : MethodName) ∈ lw_tbl := List.mem_of_getElem? (i := 903) (by decide +kernel)
theorem gw_903 : Cond.methodLink "LevelStoreModel" 156 (⟨"LevelStoreModel", "onLevel", "(I)I"⟩ : MethodName) ∈ ga_G := List.mem_filter.mpr ⟨gl_903, rfl⟩
theorem gl_905 : Cond.instanceMethod (⟨"LevelStoreModel", "onLevel", "(I)I"⟩ : MethodName) ∈ lw_tbl := List.mem_of_getElem? (i := 905) (by decide +kernel)
theorem gw_905 : Cond.instanceMethod (⟨"LevelStoreModel", "onLevel", "(I)I"⟩ : MethodName) ∈ ga_G := List.mem_filter.mpr ⟨gl_905, rfl⟩
theorem gl_906 : Cond.code y_R_onLevel c_R_onLevel 4 (some .int) ∈ lw_tbl := List.mem_of_getElem? (i := 906) (by decide +kernel)
theorem gw_906 : Cond.code y_R_onLevel c_R_onLevel 4 (some .int) ∈ ga_G := List.mem_filter.mpr ⟨gl_906, rfl⟩
theorem gl_907 : Cond.methodLink "LevelStoreModel" 191 (⟨"LevelStoreModel", "remember", "(IIZ)V"⟩ : MethodName) ∈ lw_tbl := List.mem_of_getElem? (i := 907) (by decide +kernel)
theorem gw_907 : Cond.methodLink "LevelStoreModel" 191 (⟨"LevelStoreModel", "remember", "(IIZ)V"⟩ : MethodName) ∈ ga_G := List.mem_filter.mpr ⟨gl_907, rfl⟩
theorem gl_909 : Cond.instanceMethod (⟨"LevelStoreModel", "remember", "(IIZ)V"⟩ : MethodName) ∈ lw_tbl := List.mem_of_getElem? (i := 909) (by decide +kernel)
theorem gw_909 : Cond.instanceMethod (⟨"LevelStoreModel", "remember", "(IIZ)V"⟩ : MethodName) ∈ ga_G := List.mem_filter.mpr ⟨gl_909, rfl⟩
theorem gl_910 : Cond.code y_R_remember c_R_remember 4 none ∈ lw_tbl := List.mem_of_getElem? (i := 910) (by decide +kernel)
theorem gw_910 : Cond.code y_R_remember c_R_remember 4 none ∈ ga_G := List.mem_filter.mpr ⟨gl_910, rfl⟩
theorem gl_911 : Cond.methodLink "LevelStoreModel" 195 (⟨"LevelStoreModel", "logged", "(I)V"⟩ : MethodName) ∈ lw_tbl := List.mem_of_getElem? (i := 911) (by decide +kernel)
theorem gw_911 : Cond.methodLink "LevelStoreModel" 195 (⟨"LevelStoreModel", "logged", "(I)V"⟩ : MethodName) ∈ ga_G := List.mem_filter.mpr ⟨gl_911, rfl⟩
theorem gl_913 : Cond.instanceMethod (⟨"LevelStoreModel", "logged", "(I)V"⟩ : MethodName) ∈ lw_tbl := List.mem_of_getElem? (i := 913) (by decide +kernel)
theorem gw_913 : Cond.instanceMethod (⟨"LevelStoreModel", "logged", "(I)V"⟩ : MethodName) ∈ ga_G := List.mem_filter.mpr ⟨gl_913, rfl⟩
theorem gl_914 : Cond.code y_R_logged c_R_logged 2 none ∈ lw_tbl := List.mem_of_getElem? (i := 914) (by decide +kernel)
theorem gw_914 : Cond.code y_R_logged c_R_logged 2 none ∈ ga_G := List.mem_filter.mpr ⟨gl_914, rfl⟩
theorem gl_915 : Cond.methodLink "LevelStoreModel" 178 (⟨"LevelStoreModel", "flushAll", "()V"⟩ : MethodName) ∈ lw_tbl := List.mem_of_getElem? (i := 915) (by decide +kernel)
theorem gw_915 : Cond.methodLink "LevelStoreModel" 178 (⟨"LevelStoreModel", "flushAll", "()V"⟩ : MethodName) ∈ ga_G := List.mem_filter.mpr ⟨gl_915, rfl⟩
theorem gl_917 : Cond.instanceMethod (⟨"LevelStoreModel", "flushAll", "()V"⟩ : MethodName) ∈ lw_tbl := List.mem_of_getElem? (i := 917) (by decide +kernel)
theorem gw_917 : Cond.instanceMethod (⟨"LevelStoreModel", "flushAll", "()V"⟩ : MethodName) ∈ ga_G := List.mem_filter.mpr ⟨gl_917, rfl⟩
theorem gl_918 : Cond.code y_R_flushAll c_R_flushAll 2 none ∈ lw_tbl := List.mem_of_getElem? (i := 918) (by decide +kernel)
theorem gw_918 : Cond.code y_R_flushAll c_R_flushAll 2 none ∈ ga_G := List.mem_filter.mpr ⟨gl_918, rfl⟩
theorem gl_919 : Cond.methodLink "LevelStoreModel" 138 (⟨"LevelStoreModel", "enter", "(IIIZ)V"⟩ : MethodName) ∈ lw_tbl := List.mem_of_getElem? (i := 919) (by decide +kernel)
theorem gw_919 : Cond.methodLink "LevelStoreModel" 138 (⟨"LevelStoreModel", "enter", "(IIIZ)V"⟩ : MethodName) ∈ ga_G := List.mem_filter.mpr ⟨gl_919, rfl⟩
theorem gl_921 : Cond.instanceMethod (⟨"LevelStoreModel", "enter", "(IIIZ)V"⟩ : MethodName) ∈ lw_tbl := List.mem_of_getElem? (i := 921) (by decide +kernel)
theorem gw_921 : Cond.instanceMethod (⟨"LevelStoreModel", "enter", "(IIIZ)V"⟩ : MethodName) ∈ ga_G := List.mem_filter.mpr ⟨gl_921, rfl⟩
theorem gl_922 : Cond.code y_R_enter c_R_enter 6 none ∈ lw_tbl := List.mem_of_getElem? (i := 922) (by decide +kernel)
theorem gw_922 : Cond.code y_R_enter c_R_enter 6 none ∈ ga_G := List.mem_filter.mpr ⟨gl_922, rfl⟩
theorem gl_923 : Cond.methodLink "LevelStoreModel" 111 (⟨"LevelStoreModel", "copyWork", "(II)V"⟩ : MethodName) ∈ lw_tbl := List.mem_of_getElem? (i := 923) (by decide +kernel)
theorem gw_923 : Cond.methodLink "LevelStoreModel" 111 (⟨"LevelStoreModel", "copyWork", "(II)V"⟩ : MethodName) ∈ ga_G := List.mem_filter.mpr ⟨gl_923, rfl⟩
theorem gl_925 : Cond.instanceMethod (⟨"LevelStoreModel", "copyWork", "(II)V"⟩ : MethodName) ∈ lw_tbl := List.mem_of_getElem? (i := 925) (by decide +kernel)
theorem gw_925 : Cond.instanceMethod (⟨"LevelStoreModel", "copyWork", "(II)V"⟩ : MethodName) ∈ ga_G := List.mem_filter.mpr ⟨gl_925, rfl⟩
theorem gl_926 : Cond.code y_R_copyWork c_R_copyWork 3 none ∈ lw_tbl := List.mem_of_getElem? (i := 926) (by decide +kernel)
theorem gw_926 : Cond.code y_R_copyWork c_R_copyWork 3 none ∈ ga_G := List.mem_filter.mpr ⟨gl_926, rfl⟩
theorem gl_927 : Cond.methodLink "LevelStoreModel" 152 (⟨"LevelStoreModel", "insert", "(IIII)V"⟩ : MethodName) ∈ lw_tbl := List.mem_of_getElem? (i := 927) (by decide +kernel)
theorem gw_927 : Cond.methodLink "LevelStoreModel" 152 (⟨"LevelStoreModel", "insert", "(IIII)V"⟩ : MethodName) ∈ ga_G := List.mem_filter.mpr ⟨gl_927, rfl⟩
theorem gl_929 : Cond.instanceMethod (⟨"LevelStoreModel", "insert", "(IIII)V"⟩ : MethodName) ∈ lw_tbl := List.mem_of_getElem? (i := 929) (by decide +kernel)
theorem gw_929 : Cond.instanceMethod (⟨"LevelStoreModel", "insert", "(IIII)V"⟩ : MethodName) ∈ ga_G := List.mem_filter.mpr ⟨gl_929, rfl⟩
theorem gl_930 : Cond.code y_R_insert c_R_insert 7 none ∈ lw_tbl := List.mem_of_getElem? (i := 930) (by decide +kernel)
theorem gw_930 : Cond.code y_R_insert c_R_insert 7 none ∈ ga_G := List.mem_filter.mpr ⟨gl_930, rfl⟩
theorem gl_931 : Cond.methodLink "LevelStoreModel" 88 (⟨"LevelStoreModel", "start", "(I)I"⟩ : MethodName) ∈ lw_tbl := List.mem_of_getElem? (i := 931) (by decide +kernel)
theorem gw_931 : Cond.methodLink "LevelStoreModel" 88 (⟨"LevelStoreModel", "start", "(I)I"⟩ : MethodName) ∈ ga_G := List.mem_filter.mpr ⟨gl_931, rfl⟩
theorem gl_933 : Cond.instanceMethod (⟨"LevelStoreModel", "start", "(I)I"⟩ : MethodName) ∈ lw_tbl := List.mem_of_getElem? (i := 933) (by decide +kernel)
theorem gw_933 : Cond.instanceMethod (⟨"LevelStoreModel", "start", "(I)I"⟩ : MethodName) ∈ ga_G := List.mem_filter.mpr ⟨gl_933, rfl⟩
theorem gl_934 : Cond.code y_R_start c_R_start 4 (some .int) ∈ lw_tbl := List.mem_of_getElem? (i := 934) (by decide +kernel)
theorem gw_934 : Cond.code y_R_start c_R_start 4 (some .int) ∈ ga_G := List.mem_filter.mpr ⟨gl_934, rfl⟩
theorem gl_935 : Cond.methodLink "LevelStoreModel" 98 (⟨"LevelStoreModel", "moveEntry", "(II)V"⟩ : MethodName) ∈ lw_tbl := List.mem_of_getElem? (i := 935) (by decide +kernel)
theorem gw_935 : Cond.methodLink "LevelStoreModel" 98 (⟨"LevelStoreModel", "moveEntry", "(II)V"⟩ : MethodName) ∈ ga_G := List.mem_filter.mpr ⟨gl_935, rfl⟩
theorem gl_937 : Cond.instanceMethod (⟨"LevelStoreModel", "moveEntry", "(II)V"⟩ : MethodName) ∈ lw_tbl := List.mem_of_getElem? (i := 937) (by decide +kernel)
theorem gw_937 : Cond.instanceMethod (⟨"LevelStoreModel", "moveEntry", "(II)V"⟩ : MethodName) ∈ ga_G := List.mem_filter.mpr ⟨gl_937, rfl⟩
theorem gl_938 : Cond.code y_R_moveEntry c_R_moveEntry 3 none ∈ lw_tbl := List.mem_of_getElem? (i := 938) (by decide +kernel)
theorem gw_938 : Cond.code y_R_moveEntry c_R_moveEntry 3 none ∈ ga_G := List.mem_filter.mpr ⟨gl_938, rfl⟩
theorem gl_939 : Cond.methodLink "LevelStoreModel" 102 (⟨"LevelStoreModel", "moveTable", "(II)V"⟩ : MethodName) ∈ lw_tbl := List.mem_of_getElem? (i := 939) (by decide +kernel)
theorem gw_939 : Cond.methodLink "LevelStoreModel" 102 (⟨"LevelStoreModel", "moveTable", "(II)V"⟩ : MethodName) ∈ ga_G := List.mem_filter.mpr ⟨gl_939, rfl⟩
theorem gl_941 : Cond.instanceMethod (⟨"LevelStoreModel", "moveTable", "(II)V"⟩ : MethodName) ∈ lw_tbl := List.mem_of_getElem? (i := 941) (by decide +kernel)
theorem gw_941 : Cond.instanceMethod (⟨"LevelStoreModel", "moveTable", "(II)V"⟩ : MethodName) ∈ ga_G := List.mem_filter.mpr ⟨gl_941, rfl⟩
theorem gl_942 : Cond.code y_R_moveTable c_R_moveTable 3 none ∈ lw_tbl := List.mem_of_getElem? (i := 942) (by decide +kernel)
theorem gw_942 : Cond.code y_R_moveTable c_R_moveTable 3 none ∈ ga_G := List.mem_filter.mpr ⟨gl_942, rfl⟩
theorem gl_943 : Cond.methodLink "LevelStoreModel" 175 (⟨"LevelStoreModel", "tidy", "()V"⟩ : MethodName) ∈ lw_tbl := List.mem_of_getElem? (i := 943) (by decide +kernel)
theorem gw_943 : Cond.methodLink "LevelStoreModel" 175 (⟨"LevelStoreModel", "tidy", "()V"⟩ : MethodName) ∈ ga_G := List.mem_filter.mpr ⟨gl_943, rfl⟩
theorem gl_945 : Cond.instanceMethod (⟨"LevelStoreModel", "tidy", "()V"⟩ : MethodName) ∈ lw_tbl := List.mem_of_getElem? (i := 945) (by decide +kernel)
theorem gw_945 : Cond.instanceMethod (⟨"LevelStoreModel", "tidy", "()V"⟩ : MethodName) ∈ ga_G := List.mem_filter.mpr ⟨gl_945, rfl⟩
theorem gl_946 : Cond.code y_R_tidy c_R_tidy 4 none ∈ lw_tbl := List.mem_of_getElem? (i := 946) (by decide +kernel)
theorem gw_946 : Cond.code y_R_tidy c_R_tidy 4 none ∈ ga_G := List.mem_filter.mpr ⟨gl_946, rfl⟩
theorem gl_947 : Cond.methodLink "LevelStoreModel" 159 (⟨"LevelStoreModel", "merge", "(I)Z"⟩ : MethodName) ∈ lw_tbl := List.mem_of_getElem? (i := 947) (by decide +kernel)
theorem gw_947 : Cond.methodLink "LevelStoreModel" 159 (⟨"LevelStoreModel", "merge", "(I)Z"⟩ : MethodName) ∈ ga_G := List.mem_filter.mpr ⟨gl_947, rfl⟩
theorem gl_949 : Cond.instanceMethod (⟨"LevelStoreModel", "merge", "(I)Z"⟩ : MethodName) ∈ lw_tbl := List.mem_of_getElem? (i := 949) (by decide +kernel)
theorem gw_949 : Cond.instanceMethod (⟨"LevelStoreModel", "merge", "(I)Z"⟩ : MethodName) ∈ ga_G := List.mem_filter.mpr ⟨gl_949, rfl⟩
theorem gl_950 : Cond.code y_R_merge c_R_merge 7 (some .boolean) ∈ lw_tbl := List.mem_of_getElem? (i := 950) (by decide +kernel)
theorem gw_950 : Cond.code y_R_merge c_R_merge 7 (some .boolean) ∈ ga_G := List.mem_filter.mpr ⟨gl_950, rfl⟩
theorem gl_951 : Cond.methodLink "LevelStoreModel" 117 (⟨"LevelStoreModel", "low", "(I)I"⟩ : MethodName) ∈ lw_tbl := List.mem_of_getElem? (i := 951) (by decide +kernel)
theorem gw_951 : Cond.methodLink "LevelStoreModel" 117 (⟨"LevelStoreModel", "low", "(I)I"⟩ : MethodName) ∈ ga_G := List.mem_filter.mpr ⟨gl_951, rfl⟩
theorem gl_953 : Cond.instanceMethod (⟨"LevelStoreModel", "low", "(I)I"⟩ : MethodName) ∈ lw_tbl := List.mem_of_getElem? (i := 953) (by decide +kernel)
theorem gw_953 : Cond.instanceMethod (⟨"LevelStoreModel", "low", "(I)I"⟩ : MethodName) ∈ ga_G := List.mem_filter.mpr ⟨gl_953, rfl⟩
theorem gl_954 : Cond.code y_R_low c_R_low 2 (some .int) ∈ lw_tbl := List.mem_of_getElem? (i := 954) (by decide +kernel)
theorem gw_954 : Cond.code y_R_low c_R_low 2 (some .int) ∈ ga_G := List.mem_filter.mpr ⟨gl_954, rfl⟩
theorem gl_955 : Cond.methodLink "LevelStoreModel" 120 (⟨"LevelStoreModel", "high", "(I)I"⟩ : MethodName) ∈ lw_tbl := List.mem_of_getElem? (i := 955) (by decide +kernel)
theorem gw_955 : Cond.methodLink "LevelStoreModel" 120 (⟨"LevelStoreModel", "high", "(I)I"⟩ : MethodName) ∈ ga_G := List.mem_filter.mpr ⟨gl_955, rfl⟩
theorem gl_957 : Cond.instanceMethod (⟨"LevelStoreModel", "high", "(I)I"⟩ : MethodName) ∈ lw_tbl := List.mem_of_getElem? (i := 957) (by decide +kernel)
theorem gw_957 : Cond.instanceMethod (⟨"LevelStoreModel", "high", "(I)I"⟩ : MethodName) ∈ ga_G := List.mem_filter.mpr ⟨gl_957, rfl⟩
theorem gl_958 : Cond.code y_R_high c_R_high 2 (some .int) ∈ lw_tbl := List.mem_of_getElem? (i := 958) (by decide +kernel)
theorem gw_958 : Cond.code y_R_high c_R_high 2 (some .int) ∈ ga_G := List.mem_filter.mpr ⟨gl_958, rfl⟩
theorem gl_959 : Cond.methodLink "LevelStoreModel" 142 (⟨"LevelStoreModel", "dropAll", "(I)V"⟩ : MethodName) ∈ lw_tbl := List.mem_of_getElem? (i := 959) (by decide +kernel)
theorem gw_959 : Cond.methodLink "LevelStoreModel" 142 (⟨"LevelStoreModel", "dropAll", "(I)V"⟩ : MethodName) ∈ ga_G := List.mem_filter.mpr ⟨gl_959, rfl⟩
theorem gl_961 : Cond.instanceMethod (⟨"LevelStoreModel", "dropAll", "(I)V"⟩ : MethodName) ∈ lw_tbl := List.mem_of_getElem? (i := 961) (by decide +kernel)
theorem gw_961 : Cond.instanceMethod (⟨"LevelStoreModel", "dropAll", "(I)V"⟩ : MethodName) ∈ ga_G := List.mem_filter.mpr ⟨gl_961, rfl⟩
theorem gl_962 : Cond.code y_R_dropAll c_R_dropAll 8 none ∈ lw_tbl := List.mem_of_getElem? (i := 962) (by decide +kernel)
theorem gw_962 : Cond.code y_R_dropAll c_R_dropAll 8 none ∈ ga_G := List.mem_filter.mpr ⟨gl_962, rfl⟩
theorem gl_963 : Cond.methodLink "LevelStoreModel" 123 (⟨"LevelStoreModel", "oldest", "()I"⟩ : MethodName) ∈ lw_tbl := List.mem_of_getElem? (i := 963) (by decide +kernel)
theorem gw_963 : Cond.methodLink "LevelStoreModel" 123 (⟨"LevelStoreModel", "oldest", "()I"⟩ : MethodName) ∈ ga_G := List.mem_filter.mpr ⟨gl_963, rfl⟩
theorem gl_965 : Cond.instanceMethod (⟨"LevelStoreModel", "oldest", "()I"⟩ : MethodName) ∈ lw_tbl := List.mem_of_getElem? (i := 965) (by decide +kernel)
theorem gw_965 : Cond.instanceMethod (⟨"LevelStoreModel", "oldest", "()I"⟩ : MethodName) ∈ ga_G := List.mem_filter.mpr ⟨gl_965, rfl⟩
theorem gl_966 : Cond.code y_R_oldest c_R_oldest 3 (some .int) ∈ lw_tbl := List.mem_of_getElem? (i := 966) (by decide +kernel)
theorem gw_966 : Cond.code y_R_oldest c_R_oldest 3 (some .int) ∈ ga_G := List.mem_filter.mpr ⟨gl_966, rfl⟩
theorem gl_967 : Cond.methodLink "LevelStoreModel" 127 (⟨"LevelStoreModel", "deeper", "(II)Z"⟩ : MethodName) ∈ lw_tbl := List.mem_of_getElem? (i := 967) (by decide +kernel)
theorem gw_967 : Cond.methodLink "LevelStoreModel" 127 (⟨"LevelStoreModel", "deeper", "(II)Z"⟩ : MethodName) ∈ ga_G := List.mem_filter.mpr ⟨gl_967, rfl⟩
theorem gl_969 : Cond.instanceMethod (⟨"LevelStoreModel", "deeper", "(II)Z"⟩ : MethodName) ∈ lw_tbl := List.mem_of_getElem? (i := 969) (by decide +kernel)
theorem gw_969 : Cond.instanceMethod (⟨"LevelStoreModel", "deeper", "(II)Z"⟩ : MethodName) ∈ ga_G := List.mem_filter.mpr ⟨gl_969, rfl⟩
theorem gl_970 : Cond.code y_R_deeper c_R_deeper 4 (some .boolean) ∈ lw_tbl := List.mem_of_getElem? (i := 970) (by decide +kernel)
theorem gw_970 : Cond.code y_R_deeper c_R_deeper 4 (some .boolean) ∈ ga_G := List.mem_filter.mpr ⟨gl_970, rfl⟩
theorem gl_971 : Cond.methodLink "LevelStoreModel" 146 (⟨"LevelStoreModel", "takeOut", "(I)V"⟩ : MethodName) ∈ lw_tbl := List.mem_of_getElem? (i := 971) (by decide +kernel)
theorem gw_971 : Cond.methodLink "LevelStoreModel" 146 (⟨"LevelStoreModel", "takeOut", "(I)V"⟩ : MethodName) ∈ ga_G := List.mem_filter.mpr ⟨gl_971, rfl⟩
theorem gl_973 : Cond.instanceMethod (⟨"LevelStoreModel", "takeOut", "(I)V"⟩ : MethodName) ∈ lw_tbl := List.mem_of_getElem? (i := 973) (by decide +kernel)
theorem gw_973 : Cond.instanceMethod (⟨"LevelStoreModel", "takeOut", "(I)V"⟩ : MethodName) ∈ ga_G := List.mem_filter.mpr ⟨gl_973, rfl⟩
theorem gl_974 : Cond.code y_R_takeOut c_R_takeOut 5 none ∈ lw_tbl := List.mem_of_getElem? (i := 974) (by decide +kernel)
theorem gw_974 : Cond.code y_R_takeOut c_R_takeOut 5 none ∈ ga_G := List.mem_filter.mpr ⟨gl_974, rfl⟩
theorem gl_975 : Cond.methodLink "LevelStoreModel" 149 (⟨"LevelStoreModel", "place", "(I)V"⟩ : MethodName) ∈ lw_tbl := List.mem_of_getElem? (i := 975) (by decide +kernel)
theorem gw_975 : Cond.methodLink "LevelStoreModel" 149 (⟨"LevelStoreModel", "place", "(I)V"⟩ : MethodName) ∈ ga_G := List.mem_filter.mpr ⟨gl_975, rfl⟩
theorem gl_977 : Cond.instanceMethod (⟨"LevelStoreModel", "place", "(I)V"⟩ : MethodName) ∈ lw_tbl := List.mem_of_getElem? (i := 977) (by decide +kernel)
theorem gw_977 : Cond.instanceMethod (⟨"LevelStoreModel", "place", "(I)V"⟩ : MethodName) ∈ ga_G := List.mem_filter.mpr ⟨gl_977, rfl⟩
theorem gl_978 : Cond.code y_R_place c_R_place 6 none ∈ lw_tbl := List.mem_of_getElem? (i := 978) (by decide +kernel)
theorem gw_978 : Cond.code y_R_place c_R_place 6 none ∈ ga_G := List.mem_filter.mpr ⟨gl_978, rfl⟩
theorem gl_979 : Cond.methodLink "LevelStoreModel" 163 (⟨"LevelStoreModel", "pick", "(I)I"⟩ : MethodName) ∈ lw_tbl := List.mem_of_getElem? (i := 979) (by decide +kernel)
theorem gw_979 : Cond.methodLink "LevelStoreModel" 163 (⟨"LevelStoreModel", "pick", "(I)I"⟩ : MethodName) ∈ ga_G := List.mem_filter.mpr ⟨gl_979, rfl⟩
theorem gl_981 : Cond.instanceMethod (⟨"LevelStoreModel", "pick", "(I)I"⟩ : MethodName) ∈ lw_tbl := List.mem_of_getElem? (i := 981) (by decide +kernel)
theorem gw_981 : Cond.instanceMethod (⟨"LevelStoreModel", "pick", "(I)I"⟩ : MethodName) ∈ ga_G := List.mem_filter.mpr ⟨gl_981, rfl⟩
theorem gl_982 : Cond.code y_R_pick c_R_pick 5 (some .int) ∈ lw_tbl := List.mem_of_getElem? (i := 982) (by decide +kernel)
theorem gw_982 : Cond.code y_R_pick c_R_pick 5 (some .int) ∈ ga_G := List.mem_filter.mpr ⟨gl_982, rfl⟩
theorem gl_1011 : Cond.methodLink "LevelStoreModel" 230 (⟨"LevelStoreModel", "upTo", "(I)I"⟩ : MethodName) ∈ lw_tbl := List.mem_of_getElem? (i := 1011) (by decide +kernel)
theorem gw_1011 : Cond.methodLink "LevelStoreModel" 230 (⟨"LevelStoreModel", "upTo", "(I)I"⟩ : MethodName) ∈ ga_G := List.mem_filter.mpr ⟨gl_1011, rfl⟩
theorem gl_1013 : Cond.instanceMethod (⟨"LevelStoreModel", "upTo", "(I)I"⟩ : MethodName) ∈ lw_tbl := List.mem_of_getElem? (i := 1013) (by decide +kernel)
theorem gw_1013 : Cond.instanceMethod (⟨"LevelStoreModel", "upTo", "(I)I"⟩ : MethodName) ∈ ga_G := List.mem_filter.mpr ⟨gl_1013, rfl⟩
theorem gl_1014 : Cond.code y_R_upTo c_R_upTo 2 (some .int) ∈ lw_tbl := List.mem_of_getElem? (i := 1014) (by decide +kernel)
theorem gw_1014 : Cond.code y_R_upTo c_R_upTo 2 (some .int) ∈ ga_G := List.mem_filter.mpr ⟨gl_1014, rfl⟩
theorem gl_1015 : Cond.methodLink "LevelStoreModel" 233 (⟨"LevelStoreModel", "look", "(II)V"⟩ : MethodName) ∈ lw_tbl := List.mem_of_getElem? (i := 1015) (by decide +kernel)
theorem gw_1015 : Cond.methodLink "LevelStoreModel" 233 (⟨"LevelStoreModel", "look", "(II)V"⟩ : MethodName) ∈ ga_G := List.mem_filter.mpr ⟨gl_1015, rfl⟩
theorem gl_1017 : Cond.instanceMethod (⟨"LevelStoreModel", "look", "(II)V"⟩ : MethodName) ∈ lw_tbl := List.mem_of_getElem? (i := 1017) (by decide +kernel)
theorem gw_1017 : Cond.instanceMethod (⟨"LevelStoreModel", "look", "(II)V"⟩ : MethodName) ∈ ga_G := List.mem_filter.mpr ⟨gl_1017, rfl⟩
theorem gl_1018 : Cond.code y_R_look c_R_look 4 none ∈ lw_tbl := List.mem_of_getElem? (i := 1018) (by decide +kernel)
theorem gw_1018 : Cond.code y_R_look c_R_look 4 none ∈ ga_G := List.mem_filter.mpr ⟨gl_1018, rfl⟩
theorem gl_1019 : Cond.methodLink "LevelStoreModel" 214 (⟨"LevelStoreModel", "lookInMemory", "(II)V"⟩ : MethodName) ∈ lw_tbl := List.mem_of_getElem? (i := 1019) (by decide +kernel)
theorem gw_1019 : Cond.methodLink "LevelStoreModel" 214 (⟨"LevelStoreModel", "lookInMemory", "(II)V"⟩ : MethodName) ∈ ga_G := List.mem_filter.mpr ⟨gl_1019, rfl⟩
theorem gl_1021 : Cond.instanceMethod (⟨"LevelStoreModel", "lookInMemory", "(II)V"⟩ : MethodName) ∈ lw_tbl := List.mem_of_getElem? (i := 1021) (by decide +kernel)
theorem gw_1021 : Cond.instanceMethod (⟨"LevelStoreModel", "lookInMemory", "(II)V"⟩ : MethodName) ∈ ga_G := List.mem_filter.mpr ⟨gl_1021, rfl⟩
theorem gl_1022 : Cond.code y_R_lookInMemory c_R_lookInMemory 4 none ∈ lw_tbl := List.mem_of_getElem? (i := 1022) (by decide +kernel)
theorem gw_1022 : Cond.code y_R_lookInMemory c_R_lookInMemory 4 none ∈ ga_G := List.mem_filter.mpr ⟨gl_1022, rfl⟩
theorem gl_1023 : Cond.methodLink "LevelStoreModel" 217 (⟨"LevelStoreModel", "passes", "(II)Z"⟩ : MethodName) ∈ lw_tbl := List.mem_of_getElem? (i := 1023) (by decide +kernel)
theorem gw_1023 : Cond.methodLink "LevelStoreModel" 217 (⟨"LevelStoreModel", "passes", "(II)Z"⟩ : MethodName) ∈ ga_G := List.mem_filter.mpr ⟨gl_1023, rfl⟩
theorem gl_1025 : Cond.instanceMethod (⟨"LevelStoreModel", "passes", "(II)Z"⟩ : MethodName) ∈ lw_tbl := List.mem_of_getElem? (i := 1025) (by decide +kernel)
theorem gw_1025 : Cond.instanceMethod (⟨"LevelStoreModel", "passes", "(II)Z"⟩ : MethodName) ∈ ga_G := List.mem_filter.mpr ⟨gl_1025, rfl⟩
theorem gl_1026 : Cond.code y_R_passes c_R_passes 9 (some .boolean) ∈ lw_tbl := List.mem_of_getElem? (i := 1026) (by decide +kernel)
theorem gw_1026 : Cond.code y_R_passes c_R_passes 9 (some .boolean) ∈ ga_G := List.mem_filter.mpr ⟨gl_1026, rfl⟩
theorem gl_1027 : Cond.methodLink "LevelStoreModel" 202 (⟨"LevelStoreModel", "first", "(I)I"⟩ : MethodName) ∈ lw_tbl := List.mem_of_getElem? (i := 1027) (by decide +kernel)
theorem gw_1027 : Cond.methodLink "LevelStoreModel" 202 (⟨"LevelStoreModel", "first", "(I)I"⟩ : MethodName) ∈ ga_G := List.mem_filter.mpr ⟨gl_1027, rfl⟩
theorem gl_1028 : Cond.static (⟨"LevelStoreModel", "first", "(I)I"⟩ : MethodName) ∈ lw_tbl := List.mem_of_getElem? (i := 1028) (by decide +kernel)
theorem gw_1028 : Cond.static (⟨"LevelStoreModel", "first", "(I)I"⟩ : MethodName) ∈ ga_G := List.mem_filter.mpr ⟨gl_1028, rfl⟩
theorem gl_1029 : Cond.code y_R_first c_R_first 1 (some .int) ∈ lw_tbl := List.mem_of_getElem? (i := 1029) (by decide +kernel)
theorem gw_1029 : Cond.code y_R_first c_R_first 1 (some .int) ∈ ga_G := List.mem_filter.mpr ⟨gl_1029, rfl⟩
theorem gl_1030 : Cond.methodLink "LevelStoreModel" 205 (⟨"LevelStoreModel", "second", "(I)I"⟩ : MethodName) ∈ lw_tbl := List.mem_of_getElem? (i := 1030) (by decide +kernel)
theorem gw_1030 : Cond.methodLink "LevelStoreModel" 205 (⟨"LevelStoreModel", "second", "(I)I"⟩ : MethodName) ∈ ga_G := List.mem_filter.mpr ⟨gl_1030, rfl⟩
theorem gl_1031 : Cond.static (⟨"LevelStoreModel", "second", "(I)I"⟩ : MethodName) ∈ lw_tbl := List.mem_of_getElem? (i := 1031) (by decide +kernel)
theorem gw_1031 : Cond.static (⟨"LevelStoreModel", "second", "(I)I"⟩ : MethodName) ∈ ga_G := List.mem_filter.mpr ⟨gl_1031, rfl⟩
theorem gl_1032 : Cond.code y_R_second c_R_second 1 (some .int) ∈ lw_tbl := List.mem_of_getElem? (i := 1032) (by decide +kernel)
theorem gw_1032 : Cond.code y_R_second c_R_second 1 (some .int) ∈ ga_G := List.mem_filter.mpr ⟨gl_1032, rfl⟩
theorem gl_1033 : Cond.methodLink "LevelStoreModel" 220 (⟨"LevelStoreModel", "readBlocks", "(III)I"⟩ : MethodName) ∈ lw_tbl := List.mem_of_getElem? (i := 1033) (by decide +kernel)
theorem gw_1033 : Cond.methodLink "LevelStoreModel" 220 (⟨"LevelStoreModel", "readBlocks", "(III)I"⟩ : MethodName) ∈ ga_G := List.mem_filter.mpr ⟨gl_1033, rfl⟩
theorem gl_1035 : Cond.instanceMethod (⟨"LevelStoreModel", "readBlocks", "(III)I"⟩ : MethodName) ∈ lw_tbl := List.mem_of_getElem? (i := 1035) (by decide +kernel)
theorem gw_1035 : Cond.instanceMethod (⟨"LevelStoreModel", "readBlocks", "(III)I"⟩ : MethodName) ∈ ga_G := List.mem_filter.mpr ⟨gl_1035, rfl⟩
theorem gl_1036 : Cond.code y_R_readBlocks c_R_readBlocks 9 (some .int) ∈ lw_tbl := List.mem_of_getElem? (i := 1036) (by decide +kernel)
theorem gw_1036 : Cond.code y_R_readBlocks c_R_readBlocks 9 (some .int) ∈ ga_G := List.mem_filter.mpr ⟨gl_1036, rfl⟩
theorem gl_1037 : Cond.methodLink "LevelStoreModel" 236 (⟨"LevelStoreModel", "foundGone", "()Z"⟩ : MethodName) ∈ lw_tbl := List.mem_of_getElem? (i := 1037) (by decide +kernel)
theorem gw_1037 : Cond.methodLink "LevelStoreModel" 236 (⟨"LevelStoreModel", "foundGone", "()Z"⟩ : MethodName) ∈ ga_G := List.mem_filter.mpr ⟨gl_1037, rfl⟩
theorem gl_1039 : Cond.instanceMethod (⟨"LevelStoreModel", "foundGone", "()Z"⟩ : MethodName) ∈ lw_tbl := List.mem_of_getElem? (i := 1039) (by decide +kernel)
theorem gw_1039 : Cond.instanceMethod (⟨"LevelStoreModel", "foundGone", "()Z"⟩ : MethodName) ∈ ga_G := List.mem_filter.mpr ⟨gl_1039, rfl⟩
theorem gl_1040 : Cond.code y_R_foundGone c_R_foundGone 1 (some .boolean) ∈ lw_tbl := List.mem_of_getElem? (i := 1040) (by decide +kernel)
theorem gw_1040 : Cond.code y_R_foundGone c_R_foundGone 1 (some .boolean) ∈ ga_G := List.mem_filter.mpr ⟨gl_1040, rfl⟩
theorem gl_1045 : Cond.methodLink "LevelStoreModel" 240 (⟨"LevelStoreModel", "lookThrough", "(II)V"⟩ : MethodName) ∈ lw_tbl := List.mem_of_getElem? (i := 1045) (by decide +kernel)
theorem gw_1045 : Cond.methodLink "LevelStoreModel" 240 (⟨"LevelStoreModel", "lookThrough", "(II)V"⟩ : MethodName) ∈ ga_G := List.mem_filter.mpr ⟨gl_1045, rfl⟩
theorem gl_1047 : Cond.instanceMethod (⟨"LevelStoreModel", "lookThrough", "(II)V"⟩ : MethodName) ∈ lw_tbl := List.mem_of_getElem? (i := 1047) (by decide +kernel)
theorem gw_1047 : Cond.instanceMethod (⟨"LevelStoreModel", "lookThrough", "(II)V"⟩ : MethodName) ∈ ga_G := List.mem_filter.mpr ⟨gl_1047, rfl⟩
theorem gl_1048 : Cond.code y_R_lookThrough c_R_lookThrough 4 none ∈ lw_tbl := List.mem_of_getElem? (i := 1048) (by decide +kernel)
theorem gw_1048 : Cond.code y_R_lookThrough c_R_lookThrough 4 none ∈ ga_G := List.mem_filter.mpr ⟨gl_1048, rfl⟩
theorem gl_1061 : Cond.methodLink "LevelStoreModel" 243 (⟨"LevelStoreModel", "blockSize", "(II)I"⟩ : MethodName) ∈ lw_tbl := List.mem_of_getElem? (i := 1061) (by decide +kernel)
theorem gw_1061 : Cond.methodLink "LevelStoreModel" 243 (⟨"LevelStoreModel", "blockSize", "(II)I"⟩ : MethodName) ∈ ga_G := List.mem_filter.mpr ⟨gl_1061, rfl⟩
theorem gl_1063 : Cond.instanceMethod (⟨"LevelStoreModel", "blockSize", "(II)I"⟩ : MethodName) ∈ lw_tbl := List.mem_of_getElem? (i := 1063) (by decide +kernel)
theorem gw_1063 : Cond.instanceMethod (⟨"LevelStoreModel", "blockSize", "(II)I"⟩ : MethodName) ∈ ga_G := List.mem_filter.mpr ⟨gl_1063, rfl⟩
theorem gl_1064 : Cond.code y_R_blockSize c_R_blockSize 3 (some .int) ∈ lw_tbl := List.mem_of_getElem? (i := 1064) (by decide +kernel)
theorem gw_1064 : Cond.code y_R_blockSize c_R_blockSize 3 (some .int) ∈ ga_G := List.mem_filter.mpr ⟨gl_1064, rfl⟩
theorem gl_1069 : Cond.methodLink "LevelStoreModel" 247 (⟨"LevelStoreModel", "lose", "(I)I"⟩ : MethodName) ∈ lw_tbl := List.mem_of_getElem? (i := 1069) (by decide +kernel)
theorem gw_1069 : Cond.methodLink "LevelStoreModel" 247 (⟨"LevelStoreModel", "lose", "(I)I"⟩ : MethodName) ∈ ga_G := List.mem_filter.mpr ⟨gl_1069, rfl⟩
theorem gl_1071 : Cond.instanceMethod (⟨"LevelStoreModel", "lose", "(I)I"⟩ : MethodName) ∈ lw_tbl := List.mem_of_getElem? (i := 1071) (by decide +kernel)
theorem gw_1071 : Cond.instanceMethod (⟨"LevelStoreModel", "lose", "(I)I"⟩ : MethodName) ∈ ga_G := List.mem_filter.mpr ⟨gl_1071, rfl⟩
theorem gl_1072 : Cond.code y_R_lose c_R_lose 6 (some .int) ∈ lw_tbl := List.mem_of_getElem? (i := 1072) (by decide +kernel)
theorem gw_1072 : Cond.code y_R_lose c_R_lose 6 (some .int) ∈ ga_G := List.mem_filter.mpr ⟨gl_1072, rfl⟩
theorem gl_1081 : Cond.methodLink "LevelStoreModel" 250 (⟨"LevelStoreModel", "ones", "(J)I"⟩ : MethodName) ∈ lw_tbl := List.mem_of_getElem? (i := 1081) (by decide +kernel)
theorem gw_1081 : Cond.methodLink "LevelStoreModel" 250 (⟨"LevelStoreModel", "ones", "(J)I"⟩ : MethodName) ∈ ga_G := List.mem_filter.mpr ⟨gl_1081, rfl⟩
theorem gl_1082 : Cond.static (⟨"LevelStoreModel", "ones", "(J)I"⟩ : MethodName) ∈ lw_tbl := List.mem_of_getElem? (i := 1082) (by decide +kernel)
theorem gw_1082 : Cond.static (⟨"LevelStoreModel", "ones", "(J)I"⟩ : MethodName) ∈ ga_G := List.mem_filter.mpr ⟨gl_1082, rfl⟩
theorem gl_1083 : Cond.code y_R_ones c_R_ones 4 (some .int) ∈ lw_tbl := List.mem_of_getElem? (i := 1083) (by decide +kernel)
theorem gw_1083 : Cond.code y_R_ones c_R_ones 4 (some .int) ∈ ga_G := List.mem_filter.mpr ⟨gl_1083, rfl⟩
