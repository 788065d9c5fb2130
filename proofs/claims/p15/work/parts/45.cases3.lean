theorem gm_708 : (Jvm.Cond.methodLink "WellCourtLaw" (104 : Nat) ({ cls := "WellCourt", name := "way", desc := "(III)Z" } : Jvm.MethodName)) ∈ gz_T := gz_at 708 (by decide +kernel) rfl
theorem gm_709 : (Jvm.Cond.instanceMethod ({ cls := "WellCourt", name := "way", desc := "(III)Z" } : Jvm.MethodName)) ∈ gz_T := gz_at 709 (by decide +kernel) rfl
theorem gm_710 : (Jvm.Cond.selects "WellCourt" ({ cls := "WellCourt", name := "way", desc := "(III)Z" } : Jvm.MethodName) ({ cls := "WellCourt", name := "way", desc := "(III)Z" } : Jvm.MethodName)) ∈ gz_T := gz_at 710 (by decide +kernel) rfl
theorem gm_711 : (Jvm.Cond.code ({ cls := "WellCourt", name := "way", desc := "(III)Z" } : Jvm.MethodName) prog_1_method_19_code (4 : Nat) (Option.some Jvm.ClassFile.FieldType.boolean)) ∈ gz_T := gz_at 711 (by decide +kernel) rfl
theorem gm_712 : (Jvm.Cond.methodLink "WellCourtLaw" (112 : Nat) ({ cls := "WellCourt", name := "step", desc := "(II)I" } : Jvm.MethodName)) ∈ gz_T := gz_at 712 (by decide +kernel) rfl
theorem gm_713 : (Jvm.Cond.instanceMethod ({ cls := "WellCourt", name := "step", desc := "(II)I" } : Jvm.MethodName)) ∈ gz_T := gz_at 713 (by decide +kernel) rfl
theorem gm_714 : (Jvm.Cond.selects "WellCourt" ({ cls := "WellCourt", name := "step", desc := "(II)I" } : Jvm.MethodName) ({ cls := "WellCourt", name := "step", desc := "(II)I" } : Jvm.MethodName)) ∈ gz_T := gz_at 714 (by decide +kernel) rfl
theorem gm_715 : (Jvm.Cond.code ({ cls := "WellCourt", name := "step", desc := "(II)I" } : Jvm.MethodName) prog_1_method_21_code (3 : Nat) (Option.some Jvm.ClassFile.FieldType.int)) ∈ gz_T := gz_at 715 (by decide +kernel) rfl
theorem gm_721 : (Jvm.Cond.methodLink "WellCourtLaw" (116 : Nat) ({ cls := "WellCourt", name := "far", desc := "()I" } : Jvm.MethodName)) ∈ gz_T := gz_at 721 (by decide +kernel) rfl
theorem gm_722 : (Jvm.Cond.instanceMethod ({ cls := "WellCourt", name := "far", desc := "()I" } : Jvm.MethodName)) ∈ gz_T := gz_at 722 (by decide +kernel) rfl
theorem gm_723 : (Jvm.Cond.selects "WellCourt" ({ cls := "WellCourt", name := "far", desc := "()I" } : Jvm.MethodName) ({ cls := "WellCourt", name := "far", desc := "()I" } : Jvm.MethodName)) ∈ gz_T := gz_at 723 (by decide +kernel) rfl
theorem gm_724 : (Jvm.Cond.code ({ cls := "WellCourt", name := "far", desc := "()I" } : Jvm.MethodName) prog_1_method_22_code (1 : Nat) (Option.some Jvm.ClassFile.FieldType.int)) ∈ gz_T := gz_at 724 (by decide +kernel) rfl
theorem gm_725 : (Jvm.Cond.methodLink "WellCourtLaw" (120 : Nat) ({ cls := "WellCourt", name := "count", desc := "(I)I" } : Jvm.MethodName)) ∈ gz_T := gz_at 725 (by decide +kernel) rfl
theorem gm_726 : (Jvm.Cond.instanceMethod ({ cls := "WellCourt", name := "count", desc := "(I)I" } : Jvm.MethodName)) ∈ gz_T := gz_at 726 (by decide +kernel) rfl
theorem gm_727 : (Jvm.Cond.selects "WellCourt" ({ cls := "WellCourt", name := "count", desc := "(I)I" } : Jvm.MethodName) ({ cls := "WellCourt", name := "count", desc := "(I)I" } : Jvm.MethodName)) ∈ gz_T := gz_at 727 (by decide +kernel) rfl
theorem gm_728 : (Jvm.Cond.code ({ cls := "WellCourt", name := "count", desc := "(I)I" } : Jvm.MethodName) prog_1_method_23_code (2 : Nat) (Option.some Jvm.ClassFile.FieldType.int)) ∈ gz_T := gz_at 728 (by decide +kernel) rfl
theorem gm_814 : (Jvm.Cond.methodLink "WellCourtLaw" (109 : Nat) ({ cls := "WellCourtLaw", name := "plan", desc := "(LWellCourt;II[J)I" } : Jvm.MethodName)) ∈ gz_T := gz_at 814 (by decide +kernel) rfl
theorem gm_815 : (Jvm.Cond.static ({ cls := "WellCourtLaw", name := "plan", desc := "(LWellCourt;II[J)I" } : Jvm.MethodName)) ∈ gz_T := gz_at 815 (by decide +kernel) rfl
theorem gm_816 : (Jvm.Cond.codeWith ({ cls := "WellCourtLaw", name := "plan", desc := "(LWellCourt;II[J)I" } : Jvm.MethodName) method_4_code (5 : Nat) (Option.some Jvm.ClassFile.FieldType.int) [((0 : Nat), (10 : Nat), (13 : Nat), (18 : Nat))]) ∈ gz_T := gz_at 816 (by decide +kernel) rfl
theorem gm_1268 : (Jvm.Cond.methodLink "WellCourtLaw" (108 : Nat) ({ cls := "WellCourtModel", name := "way", desc := "(III)Z" } : Jvm.MethodName)) ∈ gz_T := gz_at 1268 (by decide +kernel) rfl
theorem gm_1269 : (Jvm.Cond.instanceMethod ({ cls := "WellCourtModel", name := "way", desc := "(III)Z" } : Jvm.MethodName)) ∈ gz_T := gz_at 1269 (by decide +kernel) rfl
theorem gm_1270 : (Jvm.Cond.selects "WellCourtModel" ({ cls := "WellCourtModel", name := "way", desc := "(III)Z" } : Jvm.MethodName) ({ cls := "WellCourtModel", name := "way", desc := "(III)Z" } : Jvm.MethodName)) ∈ gz_T := gz_at 1270 (by decide +kernel) rfl
theorem gm_1271 : (Jvm.Cond.code ({ cls := "WellCourtModel", name := "way", desc := "(III)Z" } : Jvm.MethodName) prog_12_method_48_code (4 : Nat) (Option.some Jvm.ClassFile.FieldType.boolean)) ∈ gz_T := gz_at 1271 (by decide +kernel) rfl
theorem gm_1272 : (Jvm.Cond.methodLink "WellCourtLaw" (111 : Nat) ({ cls := "WellCourtModel", name := "plan", desc := "(II)I" } : Jvm.MethodName)) ∈ gz_T := gz_at 1272 (by decide +kernel) rfl
theorem gm_1273 : (Jvm.Cond.instanceMethod ({ cls := "WellCourtModel", name := "plan", desc := "(II)I" } : Jvm.MethodName)) ∈ gz_T := gz_at 1273 (by decide +kernel) rfl
theorem gm_1274 : (Jvm.Cond.selects "WellCourtModel" ({ cls := "WellCourtModel", name := "plan", desc := "(II)I" } : Jvm.MethodName) ({ cls := "WellCourtModel", name := "plan", desc := "(II)I" } : Jvm.MethodName)) ∈ gz_T := gz_at 1274 (by decide +kernel) rfl
theorem gm_1275 : (Jvm.Cond.code ({ cls := "WellCourtModel", name := "plan", desc := "(II)I" } : Jvm.MethodName) prog_12_method_53_code (8 : Nat) (Option.some Jvm.ClassFile.FieldType.int)) ∈ gz_T := gz_at 1275 (by decide +kernel) rfl
theorem gm_1293 : (Jvm.Cond.methodLink "WellCourtLaw" (115 : Nat) ({ cls := "WellCourtModel", name := "step", desc := "(II)I" } : Jvm.MethodName)) ∈ gz_T := gz_at 1293 (by decide +kernel) rfl
theorem gm_1294 : (Jvm.Cond.instanceMethod ({ cls := "WellCourtModel", name := "step", desc := "(II)I" } : Jvm.MethodName)) ∈ gz_T := gz_at 1294 (by decide +kernel) rfl
theorem gm_1295 : (Jvm.Cond.selects "WellCourtModel" ({ cls := "WellCourtModel", name := "step", desc := "(II)I" } : Jvm.MethodName) ({ cls := "WellCourtModel", name := "step", desc := "(II)I" } : Jvm.MethodName)) ∈ gz_T := gz_at 1295 (by decide +kernel) rfl
theorem gm_1296 : (Jvm.Cond.code ({ cls := "WellCourtModel", name := "step", desc := "(II)I" } : Jvm.MethodName) prog_12_method_54_code (3 : Nat) (Option.some Jvm.ClassFile.FieldType.int)) ∈ gz_T := gz_at 1296 (by decide +kernel) rfl
theorem gm_1297 : (Jvm.Cond.methodLink "WellCourtLaw" (119 : Nat) ({ cls := "WellCourtModel", name := "far", desc := "()I" } : Jvm.MethodName)) ∈ gz_T := gz_at 1297 (by decide +kernel) rfl
theorem gm_1298 : (Jvm.Cond.instanceMethod ({ cls := "WellCourtModel", name := "far", desc := "()I" } : Jvm.MethodName)) ∈ gz_T := gz_at 1298 (by decide +kernel) rfl
theorem gm_1299 : (Jvm.Cond.selects "WellCourtModel" ({ cls := "WellCourtModel", name := "far", desc := "()I" } : Jvm.MethodName) ({ cls := "WellCourtModel", name := "far", desc := "()I" } : Jvm.MethodName)) ∈ gz_T := gz_at 1299 (by decide +kernel) rfl
theorem gm_1300 : (Jvm.Cond.code ({ cls := "WellCourtModel", name := "far", desc := "()I" } : Jvm.MethodName) prog_12_method_55_code (1 : Nat) (Option.some Jvm.ClassFile.FieldType.int)) ∈ gz_T := gz_at 1300 (by decide +kernel) rfl
theorem gm_1301 : (Jvm.Cond.methodLink "WellCourtLaw" (124 : Nat) ({ cls := "WellCourtModel", name := "count", desc := "(I)I" } : Jvm.MethodName)) ∈ gz_T := gz_at 1301 (by decide +kernel) rfl
theorem gm_1302 : (Jvm.Cond.instanceMethod ({ cls := "WellCourtModel", name := "count", desc := "(I)I" } : Jvm.MethodName)) ∈ gz_T := gz_at 1302 (by decide +kernel) rfl
theorem gm_1303 : (Jvm.Cond.selects "WellCourtModel" ({ cls := "WellCourtModel", name := "count", desc := "(I)I" } : Jvm.MethodName) ({ cls := "WellCourtModel", name := "count", desc := "(I)I" } : Jvm.MethodName)) ∈ gz_T := gz_at 1303 (by decide +kernel) rfl
theorem gm_1304 : (Jvm.Cond.code ({ cls := "WellCourtModel", name := "count", desc := "(I)I" } : Jvm.MethodName) prog_12_method_56_code (4 : Nat) (Option.some Jvm.ClassFile.FieldType.int)) ∈ gz_T := gz_at 1304 (by decide +kernel) rfl
theorem dL_law_864 : decode cL_law 864 = .ok (.aload_n 1, 1) := by decide +kernel
theorem dL_law_865 : decode cL_law 865 = .ok (.aload_n 0, 1) := by decide +kernel
theorem dL_law_866 : decode cL_law 866 = .ok (.iload 4, 2) := by decide +kernel
theorem dL_law_868 : decode cL_law 868 = .ok (.iconst 1, 1) := by decide +kernel
theorem dL_law_869 : decode cL_law 869 = .ok (.iadd, 1) := by decide +kernel
theorem dL_law_870 : decode cL_law 870 = .ok (.iaload, 1) := by decide +kernel
theorem dL_law_871 : decode cL_law 871 = .ok (.aload_n 0, 1) := by decide +kernel
theorem dL_law_872 : decode cL_law 872 = .ok (.iload 4, 2) := by decide +kernel
theorem dL_law_874 : decode cL_law 874 = .ok (.iconst 2, 1) := by decide +kernel
theorem dL_law_875 : decode cL_law 875 = .ok (.iadd, 1) := by decide +kernel
theorem dL_law_876 : decode cL_law 876 = .ok (.iaload, 1) := by decide +kernel
theorem dL_law_877 : decode cL_law 877 = .ok (.aload_n 0, 1) := by decide +kernel
theorem dL_law_878 : decode cL_law 878 = .ok (.iload 4, 2) := by decide +kernel
theorem dL_law_880 : decode cL_law 880 = .ok (.iconst 3, 1) := by decide +kernel
theorem dL_law_881 : decode cL_law 881 = .ok (.iadd, 1) := by decide +kernel
theorem dL_law_882 : decode cL_law 882 = .ok (.iaload, 1) := by decide +kernel
theorem dL_law_883 : decode cL_law 883 = .ok (.invokevirtual 104, 3) := by decide +kernel
theorem dL_law_886 : decode cL_law 886 = .ok (.pop, 1) := by decide +kernel
theorem dL_law_887 : decode cL_law 887 = .ok (.aload_n 2, 1) := by decide +kernel
theorem dL_law_888 : decode cL_law 888 = .ok (.aload_n 0, 1) := by decide +kernel
theorem dL_law_889 : decode cL_law 889 = .ok (.iload 4, 2) := by decide +kernel
theorem dL_law_891 : decode cL_law 891 = .ok (.iconst 1, 1) := by decide +kernel
theorem dL_law_892 : decode cL_law 892 = .ok (.iadd, 1) := by decide +kernel
theorem dL_law_893 : decode cL_law 893 = .ok (.iaload, 1) := by decide +kernel
theorem dL_law_894 : decode cL_law 894 = .ok (.aload_n 0, 1) := by decide +kernel
theorem dL_law_895 : decode cL_law 895 = .ok (.iload 4, 2) := by decide +kernel
theorem dL_law_897 : decode cL_law 897 = .ok (.iconst 2, 1) := by decide +kernel
theorem dL_law_898 : decode cL_law 898 = .ok (.iadd, 1) := by decide +kernel
theorem dL_law_899 : decode cL_law 899 = .ok (.iaload, 1) := by decide +kernel
theorem dL_law_900 : decode cL_law 900 = .ok (.aload_n 0, 1) := by decide +kernel
theorem dL_law_901 : decode cL_law 901 = .ok (.iload 4, 2) := by decide +kernel
theorem dL_law_903 : decode cL_law 903 = .ok (.iconst 3, 1) := by decide +kernel
theorem dL_law_904 : decode cL_law 904 = .ok (.iadd, 1) := by decide +kernel
theorem dL_law_905 : decode cL_law 905 = .ok (.iaload, 1) := by decide +kernel
theorem dL_law_906 : decode cL_law 906 = .ok (.invokevirtual 108, 3) := by decide +kernel
theorem dL_law_909 : decode cL_law 909 = .ok (.pop, 1) := by decide +kernel
theorem dL_law_910 : decode cL_law 910 = .ok (.goto 118, 3) := by decide +kernel
theorem dL_law_913 : decode cL_law 913 = .ok (.aload_n 1, 1) := by decide +kernel
theorem dL_law_914 : decode cL_law 914 = .ok (.aload_n 0, 1) := by decide +kernel
theorem dL_law_915 : decode cL_law 915 = .ok (.iload 4, 2) := by decide +kernel
theorem dL_law_917 : decode cL_law 917 = .ok (.iconst 1, 1) := by decide +kernel
theorem dL_law_918 : decode cL_law 918 = .ok (.iadd, 1) := by decide +kernel
theorem dL_law_919 : decode cL_law 919 = .ok (.iaload, 1) := by decide +kernel
theorem dL_law_920 : decode cL_law 920 = .ok (.aload_n 0, 1) := by decide +kernel
theorem dL_law_921 : decode cL_law 921 = .ok (.iload 4, 2) := by decide +kernel
theorem dL_law_923 : decode cL_law 923 = .ok (.iconst 2, 1) := by decide +kernel
theorem dL_law_924 : decode cL_law 924 = .ok (.iadd, 1) := by decide +kernel
theorem dL_law_925 : decode cL_law 925 = .ok (.iaload, 1) := by decide +kernel
theorem dL_law_926 : decode cL_law 926 = .ok (.aload_n 3, 1) := by decide +kernel
theorem dL_law_927 : decode cL_law 927 = .ok (.invokestatic 109, 3) := by decide +kernel
theorem dL_law_930 : decode cL_law 930 = .ok (.istore 5, 2) := by decide +kernel
theorem dL_law_932 : decode cL_law 932 = .ok (.aload_n 2, 1) := by decide +kernel
theorem dL_law_933 : decode cL_law 933 = .ok (.aload_n 0, 1) := by decide +kernel
theorem dL_law_934 : decode cL_law 934 = .ok (.iload 4, 2) := by decide +kernel
theorem dL_law_936 : decode cL_law 936 = .ok (.iconst 1, 1) := by decide +kernel
theorem dL_law_937 : decode cL_law 937 = .ok (.iadd, 1) := by decide +kernel
theorem dL_law_938 : decode cL_law 938 = .ok (.iaload, 1) := by decide +kernel
theorem dL_law_939 : decode cL_law 939 = .ok (.aload_n 0, 1) := by decide +kernel
theorem dL_law_940 : decode cL_law 940 = .ok (.iload 4, 2) := by decide +kernel
theorem dL_law_942 : decode cL_law 942 = .ok (.iconst 2, 1) := by decide +kernel
theorem dL_law_943 : decode cL_law 943 = .ok (.iadd, 1) := by decide +kernel
theorem dL_law_944 : decode cL_law 944 = .ok (.iaload, 1) := by decide +kernel
theorem dL_law_945 : decode cL_law 945 = .ok (.invokevirtual 111, 3) := by decide +kernel
theorem dL_law_948 : decode cL_law 948 = .ok (.istore 6, 2) := by decide +kernel
theorem dL_law_950 : decode cL_law 950 = .ok (.goto 78, 3) := by decide +kernel
theorem dL_law_953 : decode cL_law 953 = .ok (.aload_n 1, 1) := by decide +kernel
theorem dL_law_954 : decode cL_law 954 = .ok (.aload_n 0, 1) := by decide +kernel
theorem dL_law_955 : decode cL_law 955 = .ok (.iload 4, 2) := by decide +kernel
theorem dL_law_957 : decode cL_law 957 = .ok (.iconst 1, 1) := by decide +kernel
theorem dL_law_958 : decode cL_law 958 = .ok (.iadd, 1) := by decide +kernel
theorem dL_law_959 : decode cL_law 959 = .ok (.iaload, 1) := by decide +kernel
theorem dL_law_960 : decode cL_law 960 = .ok (.aload_n 0, 1) := by decide +kernel
theorem dL_law_961 : decode cL_law 961 = .ok (.iload 4, 2) := by decide +kernel
theorem dL_law_963 : decode cL_law 963 = .ok (.iconst 2, 1) := by decide +kernel
theorem dL_law_964 : decode cL_law 964 = .ok (.iadd, 1) := by decide +kernel
theorem dL_law_965 : decode cL_law 965 = .ok (.iaload, 1) := by decide +kernel
theorem dL_law_966 : decode cL_law 966 = .ok (.invokevirtual 112, 3) := by decide +kernel
theorem dL_law_969 : decode cL_law 969 = .ok (.pop, 1) := by decide +kernel
theorem dL_law_970 : decode cL_law 970 = .ok (.aload_n 2, 1) := by decide +kernel
theorem dL_law_971 : decode cL_law 971 = .ok (.aload_n 0, 1) := by decide +kernel
theorem dL_law_972 : decode cL_law 972 = .ok (.iload 4, 2) := by decide +kernel
theorem dL_law_974 : decode cL_law 974 = .ok (.iconst 1, 1) := by decide +kernel
theorem dL_law_975 : decode cL_law 975 = .ok (.iadd, 1) := by decide +kernel
theorem dL_law_976 : decode cL_law 976 = .ok (.iaload, 1) := by decide +kernel
theorem dL_law_977 : decode cL_law 977 = .ok (.aload_n 0, 1) := by decide +kernel
theorem dL_law_978 : decode cL_law 978 = .ok (.iload 4, 2) := by decide +kernel
theorem dL_law_980 : decode cL_law 980 = .ok (.iconst 2, 1) := by decide +kernel
theorem dL_law_981 : decode cL_law 981 = .ok (.iadd, 1) := by decide +kernel
theorem dL_law_982 : decode cL_law 982 = .ok (.iaload, 1) := by decide +kernel
theorem dL_law_983 : decode cL_law 983 = .ok (.invokevirtual 115, 3) := by decide +kernel
theorem dL_law_986 : decode cL_law 986 = .ok (.pop, 1) := by decide +kernel
theorem dL_law_987 : decode cL_law 987 = .ok (.goto 41, 3) := by decide +kernel
theorem dL_law_990 : decode cL_law 990 = .ok (.aload_n 1, 1) := by decide +kernel
theorem dL_law_991 : decode cL_law 991 = .ok (.invokevirtual 116, 3) := by decide +kernel
theorem dL_law_994 : decode cL_law 994 = .ok (.pop, 1) := by decide +kernel
theorem dL_law_995 : decode cL_law 995 = .ok (.aload_n 2, 1) := by decide +kernel
theorem dL_law_996 : decode cL_law 996 = .ok (.invokevirtual 119, 3) := by decide +kernel
theorem dL_law_999 : decode cL_law 999 = .ok (.pop, 1) := by decide +kernel
theorem dL_law_1000 : decode cL_law 1000 = .ok (.goto 28, 3) := by decide +kernel
theorem dL_law_1003 : decode cL_law 1003 = .ok (.aload_n 1, 1) := by decide +kernel
theorem dL_law_1004 : decode cL_law 1004 = .ok (.aload_n 0, 1) := by decide +kernel
theorem dL_law_1005 : decode cL_law 1005 = .ok (.iload 4, 2) := by decide +kernel
theorem dL_law_1007 : decode cL_law 1007 = .ok (.iconst 1, 1) := by decide +kernel
theorem dL_law_1008 : decode cL_law 1008 = .ok (.iadd, 1) := by decide +kernel
theorem dL_law_1009 : decode cL_law 1009 = .ok (.iaload, 1) := by decide +kernel
theorem dL_law_1010 : decode cL_law 1010 = .ok (.invokevirtual 120, 3) := by decide +kernel
theorem dL_law_1013 : decode cL_law 1013 = .ok (.pop, 1) := by decide +kernel
theorem dL_law_1014 : decode cL_law 1014 = .ok (.aload_n 2, 1) := by decide +kernel
theorem dL_law_1015 : decode cL_law 1015 = .ok (.aload_n 0, 1) := by decide +kernel
theorem dL_law_1016 : decode cL_law 1016 = .ok (.iload 4, 2) := by decide +kernel
theorem dL_law_1018 : decode cL_law 1018 = .ok (.iconst 1, 1) := by decide +kernel
theorem dL_law_1019 : decode cL_law 1019 = .ok (.iadd, 1) := by decide +kernel
theorem dL_law_1020 : decode cL_law 1020 = .ok (.iaload, 1) := by decide +kernel
theorem dL_law_1021 : decode cL_law 1021 = .ok (.invokevirtual 124, 3) := by decide +kernel
theorem dL_law_1024 : decode cL_law 1024 = .ok (.pop, 1) := by decide +kernel
theorem dL_law_1025 : decode cL_law 1025 = .ok (.goto 3, 3) := by decide +kernel
set_option maxHeartbeats 4000000 in
set_option maxRecDepth 100000 in
theorem law_c17 {p : Program} {e : Env} {s : State} {m : MethodId} {below : List Frame} {meth : Method} {c : Code} (l : Launch) (hlt : l.stackTraces = false) {b L : Nat} {xs : Nat → Int32} (C0 : lw_At p s m meth c b L xs) (G : va_G) (cy : Nat → ClassId) (sK sV : Nat → Nat) (hK : va_K G vwCl (gzK cy) s) (hov : gOv s) (A : Nat → Prop) (hA : ∀ q, s.heap.size ≤ q → A q) (hAn : ∀ q, A q → s.heap.size ≤ q) (hE : gE sK sV A s s.heap) (aX aM : Nat → Nat → Nat) (o : Nat) (hAp : gAp aX aM o) (hmX : ∀ k i, i < cnX k → A (aX k i)) (hmM : ∀ k i, i < cnM k → A (aM k i)) (hAo : A o) (sx sm : gS) (f : Nat → Int64) (hBX : gBd bX sx) (hIM : mInv sm) (hRel : lRel sx sm) (iv : Int32) (hi0 : 0 ≤ iv.toInt) (hi1 : iv.toInt + 6 ≤ (L : Int)) (hLb : L ≤ 3072) (cells slots : Nat) (hcl : cells + 1 ≤ 601024) (hsl : slots + 6 ≤ 7293034) (H : Heap) (locs : List Loc) (ls : Array Slot) (hW : gWd G cy aX aM o sx sm f H) (hS : va_S A s.heap H locs) (hl : lv_has ls 7 [(4, .int iv), (3, .ref o), (2, .ref (aM 0 0)), (1, .ref (aX 0 0)), (0, .ref b)]) (hnext : (∀ (sx sm : gS) (f : Nat → Int64) (H : Heap) (locs : List Loc) (ls : Array Slot) (cells1 slots1 : Nat), gBd bX sx → mInv sm → lRel sx sm → cells1 ≤ cells + 1 → slots1 ≤ slots + 6 → gWd G cy aX aM o sx sm f H → va_S A s.heap H locs → lv_has ls 7 [(4, .int iv), (3, .ref o), (2, .ref (aM 0 0)), (1, .ref (aX 0 0)), (0, .ref b)] → W p l e room_1 s m #[Value.ref b] below meth c H locs cells1 slots1 (lw_Z below #[Value.ref b] s) (F0 m 1028 ls []))) : W p l e room_1 s m #[Value.ref b] below meth c H locs cells slots (lw_Z below #[Value.ref b] s) (F0 m 864 ls []) := by
  obtain ⟨hx, hb, hr, hml, hown, hts0, hX, hbl, hlocks, hgv⟩ := id C0
  have hts : ∀ w ∈ gz_T, w.before #[Value.ref b] s = true := fun w h => hts0 w (List.mem_filter.mp h).1
  have hown : s.vm.findClass RL = some m.cls := hown
  have hbA : ¬ A b := fun q => Nat.not_le.mpr hbl (hAn b q)
  have t1 : (iv + 1).toInt = iv.toInt + 1 := gz_addP rfl (by decide) (by omega) (by omega)
  have t2 : (iv + 2).toInt = iv.toInt + 2 := gz_addP rfl (by decide) (by omega) (by omega)
  have t3 : (iv + 3).toInt = iv.toInt + 3 := gz_addP rfl (by decide) (by omega) (by omega)
  have t4 : (iv + 4).toInt = iv.toInt + 4 := gz_addP rfl (by decide) (by omega) (by omega)
  have t5 : (iv + 5).toInt = iv.toInt + 5 := gz_addP rfl (by decide) (by omega) (by omega)
  obtain ⟨rs, hLa, hLM, hru, hwf, hun⟩ := hRel.law
  have bk28 : (0 : Int) ≤ (sm 0 0 28).toInt ∧ (sm 0 0 28).toInt ≤ (1 : Int) := hIM 0 0 28
  have hbk : (sm 0 0 28).toInt = (((sm 0 0 28).toNatClampNeg : Nat) : Int) := (gs_cl bk28.1).symm
  refine lv_aload_n hx hb dL_law_864 rfl (lv_at hl 3 rfl) ?_
  refine lv_aload_n hx hb dL_law_865 rfl (lv_at hl 4 rfl) ?_
  refine lv_iload hx hb dL_law_866 (lv_at hl 0 rfl) ?_
  refine lv_iconst (v := 1) hx hb dL_law_868 (by decide) ?_
  refine lv_iadd hx hb dL_law_869 ?_
  refine va_sld hx hb hX hbl hbA hS (vp_in_iff.mpr ⟨by omega, by omega⟩) dL_law_870 ?_
  refine lv_topi (fun x_1 ex_1 => ?_)
  refine lv_aload_n hx hb dL_law_871 rfl (lv_at hl 4 rfl) ?_
  refine lv_iload hx hb dL_law_872 (lv_at hl 0 rfl) ?_
  refine lv_iconst (v := 2) hx hb dL_law_874 (by decide) ?_
  refine lv_iadd hx hb dL_law_875 ?_
  refine va_sld hx hb hX hbl hbA hS (vp_in_iff.mpr ⟨by omega, by omega⟩) dL_law_876 ?_
  refine lv_topi (fun x_2 ex_2 => ?_)
  refine lv_aload_n hx hb dL_law_877 rfl (lv_at hl 4 rfl) ?_
  refine lv_iload hx hb dL_law_878 (lv_at hl 0 rfl) ?_
  refine lv_iconst (v := 3) hx hb dL_law_880 (by decide) ?_
  refine lv_iadd hx hb dL_law_881 ?_
  refine va_sld hx hb hX hbl hbA hS (vp_in_iff.mpr ⟨by omega, by omega⟩) dL_law_882 ?_
  refine lv_topi (fun x_3 ex_3 => ?_)
  refine gw_callX (va_runV (As := [.int x_1, .int x_2, .int x_3]) (rest := []) ⟨hx, hb, hml, hown, hts⟩ (s_way l G cy sK sV aX H.size sx hBX x_1 x_2 x_3 x_1.toInt x_2.toInt x_3.toInt rfl rfl rfl ) ⟨(gz_cb (n := 3) hts gm_708 gm_1 gm_711 ⟨by decide +kernel, by decide +kernel, by decide +kernel⟩ ⟨Nat.le_of_ble_eq_true rfl, Nat.le_of_ble_eq_true rfl⟩), hts _ gm_709, hts _ gm_710⟩ (gs_preV hK hov hE hAp.1 hW.1 hmX hS hA 0 0 (by decide) rfl rfl) rfl rfl hl.1 rfl (lv_room (Nat.le_of_ble_eq_true rfl)) dL_law_883 ⟨(by show cells ≤ 601024; omega), (by show slots ≤ 7293034; omega)⟩) hAp hmX hW hS hA (fun r_4 st_4 H locs hw_4 hW hS => ?_)
  obtain ⟨n_4, hw_4⟩ := hw_4
  refine lv_pop hx hb dL_law_886 rfl ?_
  refine lv_aload_n hx hb dL_law_887 rfl (lv_at hl 2 rfl) ?_
  refine lv_aload_n hx hb dL_law_888 rfl (lv_at hl 4 rfl) ?_
  refine lv_iload hx hb dL_law_889 (lv_at hl 0 rfl) ?_
  refine lv_iconst (v := 1) hx hb dL_law_891 (by decide) ?_
  refine lv_iadd hx hb dL_law_892 ?_
  refine va_sld hx hb hX hbl hbA hS (vp_in_iff.mpr ⟨by omega, by omega⟩) dL_law_893 ?_
  refine lv_topi (fun x_5 ex_5 => ?_)
  have ex_5 : x_1 = x_5 := ex_1.trans ex_5.symm
  subst ex_5
  refine lv_aload_n hx hb dL_law_894 rfl (lv_at hl 4 rfl) ?_
  refine lv_iload hx hb dL_law_895 (lv_at hl 0 rfl) ?_
  refine lv_iconst (v := 2) hx hb dL_law_897 (by decide) ?_
  refine lv_iadd hx hb dL_law_898 ?_
  refine va_sld hx hb hX hbl hbA hS (vp_in_iff.mpr ⟨by omega, by omega⟩) dL_law_899 ?_
  refine lv_topi (fun x_6 ex_6 => ?_)
  have ex_6 : x_2 = x_6 := ex_2.trans ex_6.symm
  subst ex_6
  refine lv_aload_n hx hb dL_law_900 rfl (lv_at hl 4 rfl) ?_
  refine lv_iload hx hb dL_law_901 (lv_at hl 0 rfl) ?_
  refine lv_iconst (v := 3) hx hb dL_law_903 (by decide) ?_
  refine lv_iadd hx hb dL_law_904 ?_
  refine va_sld hx hb hX hbl hbA hS (vp_in_iff.mpr ⟨by omega, by omega⟩) dL_law_905 ?_
  refine lv_topi (fun x_7 ex_7 => ?_)
  have ex_7 : x_3 = x_7 := ex_3.trans ex_7.symm
  subst ex_7
  refine gw_callM (va_runV (As := [.int x_1, .int x_2, .int x_3]) (rest := []) ⟨hx, hb, hml, hown, hts⟩ (m_way l G cy sK sV aM H.size sm hIM x_1 x_2 x_3 x_1.toInt x_2.toInt x_3.toInt rfl rfl rfl ) ⟨(gz_cb (n := 3) hts gm_1268 gm_12 gm_1271 ⟨by decide +kernel, by decide +kernel, by decide +kernel⟩ ⟨Nat.le_of_ble_eq_true rfl, Nat.le_of_ble_eq_true rfl⟩), hts _ gm_1269, hts _ gm_1270⟩ (gs_preV hK hov hE hAp.2.1 hW.2.1 hmM hS hA 0 0 (by decide) rfl rfl) rfl rfl hl.1 rfl (lv_room (Nat.le_of_ble_eq_true rfl)) dL_law_906 ⟨(by show cells ≤ 601024; omega), (by show slots ≤ 7293034; omega)⟩) hAp hmM hW hS hA (fun r_8 st_8 H locs hw_8 hW hS => ?_)
  obtain ⟨n_8, hw_8⟩ := hw_8
  have hRel := rel_way (rX := r_4) (rM := r_8) (x := x_1) (y := x_2) (w := x_3) hRel hBX hIM n_4 n_8  hw_4 hw_8
  have hBX := n_4.1
  have hIM := mInv.keep n_8 hIM
  refine lv_pop hx hb dL_law_909 rfl ?_
  refine lv_goto (tgt := 1028) hx hb dL_law_910 (by decide) ?_
  exact hnext st_4 st_8 f H _ ls (cells) (slots) hBX hIM hRel (by omega) (by omega) hW hS (lv_sub hl [0, 1, 2, 3, 4] rfl)

set_option maxHeartbeats 4000000 in
set_option maxRecDepth 100000 in
theorem law_c18 {p : Program} {e : Env} {s : State} {m : MethodId} {below : List Frame} {meth : Method} {c : Code} (l : Launch) (hlt : l.stackTraces = false) {b L : Nat} {xs : Nat → Int32} (C0 : lw_At p s m meth c b L xs) (G : va_G) (cy : Nat → ClassId) (sK sV : Nat → Nat) (hK : va_K G vwCl (gzK cy) s) (hov : gOv s) (A : Nat → Prop) (hA : ∀ q, s.heap.size ≤ q → A q) (hAn : ∀ q, A q → s.heap.size ≤ q) (hE : gE sK sV A s s.heap) (aX aM : Nat → Nat → Nat) (o : Nat) (hAp : gAp aX aM o) (hmX : ∀ k i, i < cnX k → A (aX k i)) (hmM : ∀ k i, i < cnM k → A (aM k i)) (hAo : A o) (sx sm : gS) (f : Nat → Int64) (hBX : gBd bX sx) (hIM : mInv sm) (hRel : lRel sx sm) (iv : Int32) (hi0 : 0 ≤ iv.toInt) (hi1 : iv.toInt + 6 ≤ (L : Int)) (hLb : L ≤ 3072) (cells slots : Nat) (hcl : cells + 1 ≤ 601024) (hsl : slots + 6 ≤ 7293034) (H : Heap) (locs : List Loc) (ls : Array Slot) (hW : gWd G cy aX aM o sx sm f H) (hS : va_S A s.heap H locs) (hl : lv_has ls 7 [(4, .int iv), (3, .ref o), (2, .ref (aM 0 0)), (1, .ref (aX 0 0)), (0, .ref b)]) (hnext : (∀ (sx sm : gS) (f : Nat → Int64) (H : Heap) (locs : List Loc) (ls : Array Slot) (cells1 slots1 : Nat), gBd bX sx → mInv sm → lRel sx sm → cells1 ≤ cells + 1 → slots1 ≤ slots + 6 → gWd G cy aX aM o sx sm f H → va_S A s.heap H locs → lv_has ls 7 [(4, .int iv), (3, .ref o), (2, .ref (aM 0 0)), (1, .ref (aX 0 0)), (0, .ref b)] → W p l e room_1 s m #[Value.ref b] below meth c H locs cells1 slots1 (lw_Z below #[Value.ref b] s) (F0 m 1028 ls []))) : W p l e room_1 s m #[Value.ref b] below meth c H locs cells slots (lw_Z below #[Value.ref b] s) (F0 m 913 ls []) := by
  obtain ⟨hx, hb, hr, hml, hown, hts0, hX, hbl, hlocks, hgv⟩ := id C0
  have hts : ∀ w ∈ gz_T, w.before #[Value.ref b] s = true := fun w h => hts0 w (List.mem_filter.mp h).1
  have hown : s.vm.findClass RL = some m.cls := hown
  have hbA : ¬ A b := fun q => Nat.not_le.mpr hbl (hAn b q)
  have t1 : (iv + 1).toInt = iv.toInt + 1 := gz_addP rfl (by decide) (by omega) (by omega)
  have t2 : (iv + 2).toInt = iv.toInt + 2 := gz_addP rfl (by decide) (by omega) (by omega)
  have t3 : (iv + 3).toInt = iv.toInt + 3 := gz_addP rfl (by decide) (by omega) (by omega)
  have t4 : (iv + 4).toInt = iv.toInt + 4 := gz_addP rfl (by decide) (by omega) (by omega)
  have t5 : (iv + 5).toInt = iv.toInt + 5 := gz_addP rfl (by decide) (by omega) (by omega)
  obtain ⟨rs, hLa, hLM, hru, hwf, hun⟩ := hRel.law
  have bk28 : (0 : Int) ≤ (sm 0 0 28).toInt ∧ (sm 0 0 28).toInt ≤ (1 : Int) := hIM 0 0 28
  have hbk : (sm 0 0 28).toInt = (((sm 0 0 28).toNatClampNeg : Nat) : Int) := (gs_cl bk28.1).symm
  refine lv_aload_n hx hb dL_law_913 rfl (lv_at hl 3 rfl) ?_
  refine lv_aload_n hx hb dL_law_914 rfl (lv_at hl 4 rfl) ?_
  refine lv_iload hx hb dL_law_915 (lv_at hl 0 rfl) ?_
  refine lv_iconst (v := 1) hx hb dL_law_917 (by decide) ?_
  refine lv_iadd hx hb dL_law_918 ?_
  refine va_sld hx hb hX hbl hbA hS (vp_in_iff.mpr ⟨by omega, by omega⟩) dL_law_919 ?_
  refine lv_topi (fun x_1 ex_1 => ?_)
  refine lv_aload_n hx hb dL_law_920 rfl (lv_at hl 4 rfl) ?_
  refine lv_iload hx hb dL_law_921 (lv_at hl 0 rfl) ?_
  refine lv_iconst (v := 2) hx hb dL_law_923 (by decide) ?_
  refine lv_iadd hx hb dL_law_924 ?_
  refine va_sld hx hb hX hbl hbA hS (vp_in_iff.mpr ⟨by omega, by omega⟩) dL_law_925 ?_
  refine lv_topi (fun x_2 ex_2 => ?_)
  refine lv_aload_n hx hb dL_law_926 rfl (lv_at hl 1 rfl) ?_
  refine gw_callO (vx_runSW (As := [.ref (aX 0 0), .int x_1, .int x_2, .ref o]) (rest := []) ⟨hx, hb, hml, hown, hts⟩ (h_plan l hlt G cy sK sV aX o H.size sx f hBX x_1 x_2 x_1.toInt x_2.toInt rfl rfl rs hLa hwf) (gz_cwSW (n := 4) (rm := ({ frames := 7, cells := 1, slots := 6, locals := 163 } : Room)) (hh := [(0, 10, 13, 18)]) hts gm_814 gm_815 gm_0 gm_816 ⟨by decide +kernel, by decide +kernel, by decide +kernel⟩ ⟨Nat.le_of_ble_eq_true rfl, Nat.le_of_ble_eq_true rfl⟩) (gw_preO hK hov hE hAp hmX hAo hW hS hA) rfl rfl hl.1 rfl (lv_room (Nat.le_of_ble_eq_true rfl)) dL_law_927 ⟨(by show cells + 1 ≤ 601024; omega), (by show slots + 6 ≤ 7293034; omega)⟩) hAp hmX hAo hW hS hA (fun r_3 st_3 f_3 H locs hw_3 hW hS => ?_)
  obtain ⟨n_3, hw_3⟩ := hw_3
  refine lv_istore (lv' := [(5, .int r_3), (4, .int iv), (3, .ref o), (2, .ref (aM 0 0)), (1, .ref (aX 0 0)), (0, .ref b)]) hx hb dL_law_930 hl (by decide) rfl (fun ls hl => ?_)
  refine lv_aload_n hx hb dL_law_932 rfl (lv_at hl 3 rfl) ?_
  refine lv_aload_n hx hb dL_law_933 rfl (lv_at hl 5 rfl) ?_
  refine lv_iload hx hb dL_law_934 (lv_at hl 1 rfl) ?_
  refine lv_iconst (v := 1) hx hb dL_law_936 (by decide) ?_
  refine lv_iadd hx hb dL_law_937 ?_
  refine va_sld hx hb hX hbl hbA hS (vp_in_iff.mpr ⟨by omega, by omega⟩) dL_law_938 ?_
  refine lv_topi (fun x_4 ex_4 => ?_)
  have ex_4 : x_1 = x_4 := ex_1.trans ex_4.symm
  subst ex_4
  refine lv_aload_n hx hb dL_law_939 rfl (lv_at hl 5 rfl) ?_
  refine lv_iload hx hb dL_law_940 (lv_at hl 1 rfl) ?_
  refine lv_iconst (v := 2) hx hb dL_law_942 (by decide) ?_
  refine lv_iadd hx hb dL_law_943 ?_
  refine va_sld hx hb hX hbl hbA hS (vp_in_iff.mpr ⟨by omega, by omega⟩) dL_law_944 ?_
  refine lv_topi (fun x_5 ex_5 => ?_)
  have ex_5 : x_2 = x_5 := ex_2.trans ex_5.symm
  subst ex_5
  refine gw_callM (va_runV (As := [.int x_1, .int x_2]) (rest := []) ⟨hx, hb, hml, hown, hts⟩ (m_plan l G cy sK sV aM H.size sm hIM x_1 x_2 x_1.toInt x_2.toInt rfl rfl rs _ hbk hru hLM hwf) ⟨(gz_cb (n := 2) hts gm_1272 gm_12 gm_1275 ⟨by decide +kernel, by decide +kernel, by decide +kernel⟩ ⟨Nat.le_of_ble_eq_true rfl, Nat.le_of_ble_eq_true rfl⟩), hts _ gm_1273, hts _ gm_1274⟩ (gs_preV hK hov hE hAp.2.1 hW.2.1 hmM hS hA 0 0 (by decide) rfl rfl) rfl rfl hl.1 rfl (lv_room (Nat.le_of_ble_eq_true rfl)) dL_law_945 ⟨(by show cells + 1 ≤ 601024; omega), (by show slots + 6 ≤ 7293034; omega)⟩) hAp hmM hW hS hA (fun r_6 st_6 H locs hw_6 hW hS => ?_)
  obtain ⟨n_6, hw_6⟩ := hw_6
  have hRel := rel_plan (rX := r_3) (rM := r_6) (x := x_1) (y := x_2) hRel hBX hIM n_3 n_6  hw_3 hw_6
  have hBX := n_3.1
  have hIM := mInv.keep n_6 hIM
  refine lv_istore (lv' := [(6, .int r_6), (5, .int r_3), (4, .int iv), (3, .ref o), (2, .ref (aM 0 0)), (1, .ref (aX 0 0)), (0, .ref b)]) hx hb dL_law_948 hl (by decide) rfl (fun ls hl => ?_)
  refine lv_goto (tgt := 1028) hx hb dL_law_950 (by decide) ?_
  exact hnext st_3 st_6 f_3 H _ ls (cells + 1) (slots + 6) hBX hIM hRel (by omega) (by omega) hW hS (lv_sub hl [2, 3, 4, 5, 6] rfl)

set_option maxHeartbeats 4000000 in
set_option maxRecDepth 100000 in
theorem law_c19 {p : Program} {e : Env} {s : State} {m : MethodId} {below : List Frame} {meth : Method} {c : Code} (l : Launch) (hlt : l.stackTraces = false) {b L : Nat} {xs : Nat → Int32} (C0 : lw_At p s m meth c b L xs) (G : va_G) (cy : Nat → ClassId) (sK sV : Nat → Nat) (hK : va_K G vwCl (gzK cy) s) (hov : gOv s) (A : Nat → Prop) (hA : ∀ q, s.heap.size ≤ q → A q) (hAn : ∀ q, A q → s.heap.size ≤ q) (hE : gE sK sV A s s.heap) (aX aM : Nat → Nat → Nat) (o : Nat) (hAp : gAp aX aM o) (hmX : ∀ k i, i < cnX k → A (aX k i)) (hmM : ∀ k i, i < cnM k → A (aM k i)) (hAo : A o) (sx sm : gS) (f : Nat → Int64) (hBX : gBd bX sx) (hIM : mInv sm) (hRel : lRel sx sm) (iv : Int32) (hi0 : 0 ≤ iv.toInt) (hi1 : iv.toInt + 6 ≤ (L : Int)) (hLb : L ≤ 3072) (cells slots : Nat) (hcl : cells + 1 ≤ 601024) (hsl : slots + 6 ≤ 7293034) (H : Heap) (locs : List Loc) (ls : Array Slot) (hW : gWd G cy aX aM o sx sm f H) (hS : va_S A s.heap H locs) (hl : lv_has ls 7 [(4, .int iv), (3, .ref o), (2, .ref (aM 0 0)), (1, .ref (aX 0 0)), (0, .ref b)]) (hnext : (∀ (sx sm : gS) (f : Nat → Int64) (H : Heap) (locs : List Loc) (ls : Array Slot) (cells1 slots1 : Nat), gBd bX sx → mInv sm → lRel sx sm → cells1 ≤ cells + 1 → slots1 ≤ slots + 6 → gWd G cy aX aM o sx sm f H → va_S A s.heap H locs → lv_has ls 7 [(4, .int iv), (3, .ref o), (2, .ref (aM 0 0)), (1, .ref (aX 0 0)), (0, .ref b)] → W p l e room_1 s m #[Value.ref b] below meth c H locs cells1 slots1 (lw_Z below #[Value.ref b] s) (F0 m 1028 ls []))) : W p l e room_1 s m #[Value.ref b] below meth c H locs cells slots (lw_Z below #[Value.ref b] s) (F0 m 953 ls []) := by
  obtain ⟨hx, hb, hr, hml, hown, hts0, hX, hbl, hlocks, hgv⟩ := id C0
  have hts : ∀ w ∈ gz_T, w.before #[Value.ref b] s = true := fun w h => hts0 w (List.mem_filter.mp h).1
  have hown : s.vm.findClass RL = some m.cls := hown
  have hbA : ¬ A b := fun q => Nat.not_le.mpr hbl (hAn b q)
  have t1 : (iv + 1).toInt = iv.toInt + 1 := gz_addP rfl (by decide) (by omega) (by omega)
  have t2 : (iv + 2).toInt = iv.toInt + 2 := gz_addP rfl (by decide) (by omega) (by omega)
  have t3 : (iv + 3).toInt = iv.toInt + 3 := gz_addP rfl (by decide) (by omega) (by omega)
  have t4 : (iv + 4).toInt = iv.toInt + 4 := gz_addP rfl (by decide) (by omega) (by omega)
  have t5 : (iv + 5).toInt = iv.toInt + 5 := gz_addP rfl (by decide) (by omega) (by omega)
  obtain ⟨rs, hLa, hLM, hru, hwf, hun⟩ := hRel.law
  have bk28 : (0 : Int) ≤ (sm 0 0 28).toInt ∧ (sm 0 0 28).toInt ≤ (1 : Int) := hIM 0 0 28
  have hbk : (sm 0 0 28).toInt = (((sm 0 0 28).toNatClampNeg : Nat) : Int) := (gs_cl bk28.1).symm
  refine lv_aload_n hx hb dL_law_953 rfl (lv_at hl 3 rfl) ?_
  refine lv_aload_n hx hb dL_law_954 rfl (lv_at hl 4 rfl) ?_
  refine lv_iload hx hb dL_law_955 (lv_at hl 0 rfl) ?_
  refine lv_iconst (v := 1) hx hb dL_law_957 (by decide) ?_
  refine lv_iadd hx hb dL_law_958 ?_
  refine va_sld hx hb hX hbl hbA hS (vp_in_iff.mpr ⟨by omega, by omega⟩) dL_law_959 ?_
  refine lv_topi (fun x_1 ex_1 => ?_)
  refine lv_aload_n hx hb dL_law_960 rfl (lv_at hl 4 rfl) ?_
  refine lv_iload hx hb dL_law_961 (lv_at hl 0 rfl) ?_
  refine lv_iconst (v := 2) hx hb dL_law_963 (by decide) ?_
  refine lv_iadd hx hb dL_law_964 ?_
  refine va_sld hx hb hX hbl hbA hS (vp_in_iff.mpr ⟨by omega, by omega⟩) dL_law_965 ?_
  refine lv_topi (fun x_2 ex_2 => ?_)
  refine gw_callX (va_runV (As := [.int x_1, .int x_2]) (rest := []) ⟨hx, hb, hml, hown, hts⟩ (s_step l G cy sK sV aX H.size sx hBX x_1 x_2 x_1.toInt x_2.toInt rfl rfl ) ⟨(gz_cb (n := 2) hts gm_712 gm_1 gm_715 ⟨by decide +kernel, by decide +kernel, by decide +kernel⟩ ⟨Nat.le_of_ble_eq_true rfl, Nat.le_of_ble_eq_true rfl⟩), hts _ gm_713, hts _ gm_714⟩ (gs_preV hK hov hE hAp.1 hW.1 hmX hS hA 0 0 (by decide) rfl rfl) rfl rfl hl.1 rfl (lv_room (Nat.le_of_ble_eq_true rfl)) dL_law_966 ⟨(by show cells ≤ 601024; omega), (by show slots ≤ 7293034; omega)⟩) hAp hmX hW hS hA (fun r_3 st_3 H locs hw_3 hW hS => ?_)
  obtain ⟨n_3, hw_3⟩ := hw_3
  refine lv_pop hx hb dL_law_969 rfl ?_
  refine lv_aload_n hx hb dL_law_970 rfl (lv_at hl 2 rfl) ?_
  refine lv_aload_n hx hb dL_law_971 rfl (lv_at hl 4 rfl) ?_
  refine lv_iload hx hb dL_law_972 (lv_at hl 0 rfl) ?_
  refine lv_iconst (v := 1) hx hb dL_law_974 (by decide) ?_
  refine lv_iadd hx hb dL_law_975 ?_
  refine va_sld hx hb hX hbl hbA hS (vp_in_iff.mpr ⟨by omega, by omega⟩) dL_law_976 ?_
  refine lv_topi (fun x_4 ex_4 => ?_)
  have ex_4 : x_1 = x_4 := ex_1.trans ex_4.symm
  subst ex_4
  refine lv_aload_n hx hb dL_law_977 rfl (lv_at hl 4 rfl) ?_
  refine lv_iload hx hb dL_law_978 (lv_at hl 0 rfl) ?_
  refine lv_iconst (v := 2) hx hb dL_law_980 (by decide) ?_
  refine lv_iadd hx hb dL_law_981 ?_
  refine va_sld hx hb hX hbl hbA hS (vp_in_iff.mpr ⟨by omega, by omega⟩) dL_law_982 ?_
  refine lv_topi (fun x_5 ex_5 => ?_)
  have ex_5 : x_2 = x_5 := ex_2.trans ex_5.symm
  subst ex_5
  refine gw_callM (va_runV (As := [.int x_1, .int x_2]) (rest := []) ⟨hx, hb, hml, hown, hts⟩ (m_step l G cy sK sV aM H.size sm hIM x_1 x_2 x_1.toInt x_2.toInt rfl rfl ) ⟨(gz_cb (n := 2) hts gm_1293 gm_12 gm_1296 ⟨by decide +kernel, by decide +kernel, by decide +kernel⟩ ⟨Nat.le_of_ble_eq_true rfl, Nat.le_of_ble_eq_true rfl⟩), hts _ gm_1294, hts _ gm_1295⟩ (gs_preV hK hov hE hAp.2.1 hW.2.1 hmM hS hA 0 0 (by decide) rfl rfl) rfl rfl hl.1 rfl (lv_room (Nat.le_of_ble_eq_true rfl)) dL_law_983 ⟨(by show cells ≤ 601024; omega), (by show slots ≤ 7293034; omega)⟩) hAp hmM hW hS hA (fun r_6 st_6 H locs hw_6 hW hS => ?_)
  obtain ⟨n_6, hw_6⟩ := hw_6
  have hRel := rel_step (rX := r_3) (rM := r_6) (x := x_1) (y := x_2) hRel hBX hIM n_3 n_6  hw_3 hw_6
  have hBX := n_3.1
  have hIM := mInv.keep n_6 hIM
  refine lv_pop hx hb dL_law_986 rfl ?_
  refine lv_goto (tgt := 1028) hx hb dL_law_987 (by decide) ?_
  exact hnext st_3 st_6 f H _ ls (cells) (slots) hBX hIM hRel (by omega) (by omega) hW hS (lv_sub hl [0, 1, 2, 3, 4] rfl)

set_option maxHeartbeats 4000000 in
set_option maxRecDepth 100000 in
theorem law_c20 {p : Program} {e : Env} {s : State} {m : MethodId} {below : List Frame} {meth : Method} {c : Code} (l : Launch) (hlt : l.stackTraces = false) {b L : Nat} {xs : Nat → Int32} (C0 : lw_At p s m meth c b L xs) (G : va_G) (cy : Nat → ClassId) (sK sV : Nat → Nat) (hK : va_K G vwCl (gzK cy) s) (hov : gOv s) (A : Nat → Prop) (hA : ∀ q, s.heap.size ≤ q → A q) (hAn : ∀ q, A q → s.heap.size ≤ q) (hE : gE sK sV A s s.heap) (aX aM : Nat → Nat → Nat) (o : Nat) (hAp : gAp aX aM o) (hmX : ∀ k i, i < cnX k → A (aX k i)) (hmM : ∀ k i, i < cnM k → A (aM k i)) (hAo : A o) (sx sm : gS) (f : Nat → Int64) (hBX : gBd bX sx) (hIM : mInv sm) (hRel : lRel sx sm) (iv : Int32) (hi0 : 0 ≤ iv.toInt) (hi1 : iv.toInt + 6 ≤ (L : Int)) (hLb : L ≤ 3072) (cells slots : Nat) (hcl : cells + 1 ≤ 601024) (hsl : slots + 6 ≤ 7293034) (H : Heap) (locs : List Loc) (ls : Array Slot) (hW : gWd G cy aX aM o sx sm f H) (hS : va_S A s.heap H locs) (hl : lv_has ls 7 [(4, .int iv), (3, .ref o), (2, .ref (aM 0 0)), (1, .ref (aX 0 0)), (0, .ref b)]) (hnext : (∀ (sx sm : gS) (f : Nat → Int64) (H : Heap) (locs : List Loc) (ls : Array Slot) (cells1 slots1 : Nat), gBd bX sx → mInv sm → lRel sx sm → cells1 ≤ cells + 1 → slots1 ≤ slots + 6 → gWd G cy aX aM o sx sm f H → va_S A s.heap H locs → lv_has ls 7 [(4, .int iv), (3, .ref o), (2, .ref (aM 0 0)), (1, .ref (aX 0 0)), (0, .ref b)] → W p l e room_1 s m #[Value.ref b] below meth c H locs cells1 slots1 (lw_Z below #[Value.ref b] s) (F0 m 1028 ls []))) : W p l e room_1 s m #[Value.ref b] below meth c H locs cells slots (lw_Z below #[Value.ref b] s) (F0 m 990 ls []) := by
  obtain ⟨hx, hb, hr, hml, hown, hts0, hX, hbl, hlocks, hgv⟩ := id C0
  have hts : ∀ w ∈ gz_T, w.before #[Value.ref b] s = true := fun w h => hts0 w (List.mem_filter.mp h).1
  have hown : s.vm.findClass RL = some m.cls := hown
  have hbA : ¬ A b := fun q => Nat.not_le.mpr hbl (hAn b q)
  have t1 : (iv + 1).toInt = iv.toInt + 1 := gz_addP rfl (by decide) (by omega) (by omega)
  have t2 : (iv + 2).toInt = iv.toInt + 2 := gz_addP rfl (by decide) (by omega) (by omega)
  have t3 : (iv + 3).toInt = iv.toInt + 3 := gz_addP rfl (by decide) (by omega) (by omega)
  have t4 : (iv + 4).toInt = iv.toInt + 4 := gz_addP rfl (by decide) (by omega) (by omega)
  have t5 : (iv + 5).toInt = iv.toInt + 5 := gz_addP rfl (by decide) (by omega) (by omega)
  obtain ⟨rs, hLa, hLM, hru, hwf, hun⟩ := hRel.law
  have bk28 : (0 : Int) ≤ (sm 0 0 28).toInt ∧ (sm 0 0 28).toInt ≤ (1 : Int) := hIM 0 0 28
  have hbk : (sm 0 0 28).toInt = (((sm 0 0 28).toNatClampNeg : Nat) : Int) := (gs_cl bk28.1).symm
  refine lv_aload_n hx hb dL_law_990 rfl (lv_at hl 3 rfl) ?_
  refine gw_callX (va_runV (As := []) (rest := []) ⟨hx, hb, hml, hown, hts⟩ (s_far l G cy sK sV aX H.size sx hBX  ) ⟨(gz_cb (n := 0) hts gm_721 gm_1 gm_724 ⟨by decide +kernel, by decide +kernel, by decide +kernel⟩ ⟨Nat.le_of_ble_eq_true rfl, Nat.le_of_ble_eq_true rfl⟩), hts _ gm_722, hts _ gm_723⟩ (gs_preV hK hov hE hAp.1 hW.1 hmX hS hA 0 0 (by decide) rfl rfl) rfl rfl hl.1 rfl (lv_room (Nat.le_of_ble_eq_true rfl)) dL_law_991 ⟨(by show cells ≤ 601024; omega), (by show slots ≤ 7293034; omega)⟩) hAp hmX hW hS hA (fun r_1 st_1 H locs hw_1 hW hS => ?_)
  obtain ⟨n_1, hw_1⟩ := hw_1
  refine lv_pop hx hb dL_law_994 rfl ?_
  refine lv_aload_n hx hb dL_law_995 rfl (lv_at hl 2 rfl) ?_
  refine gw_callM (va_runV (As := []) (rest := []) ⟨hx, hb, hml, hown, hts⟩ (m_far l G cy sK sV aM H.size sm hIM  ) ⟨(gz_cb (n := 0) hts gm_1297 gm_12 gm_1300 ⟨by decide +kernel, by decide +kernel, by decide +kernel⟩ ⟨Nat.le_of_ble_eq_true rfl, Nat.le_of_ble_eq_true rfl⟩), hts _ gm_1298, hts _ gm_1299⟩ (gs_preV hK hov hE hAp.2.1 hW.2.1 hmM hS hA 0 0 (by decide) rfl rfl) rfl rfl hl.1 rfl (lv_room (Nat.le_of_ble_eq_true rfl)) dL_law_996 ⟨(by show cells ≤ 601024; omega), (by show slots ≤ 7293034; omega)⟩) hAp hmM hW hS hA (fun r_2 st_2 H locs hw_2 hW hS => ?_)
  obtain ⟨n_2, hw_2⟩ := hw_2
  have hRel := rel_far (rX := r_1) (rM := r_2)  hRel hBX hIM n_1 n_2  hw_1 hw_2
  have hBX := n_1.1
  have hIM := mInv.keep n_2 hIM
  refine lv_pop hx hb dL_law_999 rfl ?_
  refine lv_goto (tgt := 1028) hx hb dL_law_1000 (by decide) ?_
  exact hnext st_1 st_2 f H _ ls (cells) (slots) hBX hIM hRel (by omega) (by omega) hW hS (lv_sub hl [0, 1, 2, 3, 4] rfl)

set_option maxHeartbeats 4000000 in
set_option maxRecDepth 100000 in
theorem law_c21 {p : Program} {e : Env} {s : State} {m : MethodId} {below : List Frame} {meth : Method} {c : Code} (l : Launch) (hlt : l.stackTraces = false) {b L : Nat} {xs : Nat → Int32} (C0 : lw_At p s m meth c b L xs) (G : va_G) (cy : Nat → ClassId) (sK sV : Nat → Nat) (hK : va_K G vwCl (gzK cy) s) (hov : gOv s) (A : Nat → Prop) (hA : ∀ q, s.heap.size ≤ q → A q) (hAn : ∀ q, A q → s.heap.size ≤ q) (hE : gE sK sV A s s.heap) (aX aM : Nat → Nat → Nat) (o : Nat) (hAp : gAp aX aM o) (hmX : ∀ k i, i < cnX k → A (aX k i)) (hmM : ∀ k i, i < cnM k → A (aM k i)) (hAo : A o) (sx sm : gS) (f : Nat → Int64) (hBX : gBd bX sx) (hIM : mInv sm) (hRel : lRel sx sm) (iv : Int32) (hi0 : 0 ≤ iv.toInt) (hi1 : iv.toInt + 6 ≤ (L : Int)) (hLb : L ≤ 3072) (cells slots : Nat) (hcl : cells + 1 ≤ 601024) (hsl : slots + 6 ≤ 7293034) (H : Heap) (locs : List Loc) (ls : Array Slot) (hW : gWd G cy aX aM o sx sm f H) (hS : va_S A s.heap H locs) (hl : lv_has ls 7 [(4, .int iv), (3, .ref o), (2, .ref (aM 0 0)), (1, .ref (aX 0 0)), (0, .ref b)]) (hnext : (∀ (sx sm : gS) (f : Nat → Int64) (H : Heap) (locs : List Loc) (ls : Array Slot) (cells1 slots1 : Nat), gBd bX sx → mInv sm → lRel sx sm → cells1 ≤ cells + 1 → slots1 ≤ slots + 6 → gWd G cy aX aM o sx sm f H → va_S A s.heap H locs → lv_has ls 7 [(4, .int iv), (3, .ref o), (2, .ref (aM 0 0)), (1, .ref (aX 0 0)), (0, .ref b)] → W p l e room_1 s m #[Value.ref b] below meth c H locs cells1 slots1 (lw_Z below #[Value.ref b] s) (F0 m 1028 ls []))) : W p l e room_1 s m #[Value.ref b] below meth c H locs cells slots (lw_Z below #[Value.ref b] s) (F0 m 1003 ls []) := by
  obtain ⟨hx, hb, hr, hml, hown, hts0, hX, hbl, hlocks, hgv⟩ := id C0
  have hts : ∀ w ∈ gz_T, w.before #[Value.ref b] s = true := fun w h => hts0 w (List.mem_filter.mp h).1
  have hown : s.vm.findClass RL = some m.cls := hown
  have hbA : ¬ A b := fun q => Nat.not_le.mpr hbl (hAn b q)
  have t1 : (iv + 1).toInt = iv.toInt + 1 := gz_addP rfl (by decide) (by omega) (by omega)
  have t2 : (iv + 2).toInt = iv.toInt + 2 := gz_addP rfl (by decide) (by omega) (by omega)
  have t3 : (iv + 3).toInt = iv.toInt + 3 := gz_addP rfl (by decide) (by omega) (by omega)
  have t4 : (iv + 4).toInt = iv.toInt + 4 := gz_addP rfl (by decide) (by omega) (by omega)
  have t5 : (iv + 5).toInt = iv.toInt + 5 := gz_addP rfl (by decide) (by omega) (by omega)
  obtain ⟨rs, hLa, hLM, hru, hwf, hun⟩ := hRel.law
  have bk28 : (0 : Int) ≤ (sm 0 0 28).toInt ∧ (sm 0 0 28).toInt ≤ (1 : Int) := hIM 0 0 28
  have hbk : (sm 0 0 28).toInt = (((sm 0 0 28).toNatClampNeg : Nat) : Int) := (gs_cl bk28.1).symm
  refine lv_aload_n hx hb dL_law_1003 rfl (lv_at hl 3 rfl) ?_
  refine lv_aload_n hx hb dL_law_1004 rfl (lv_at hl 4 rfl) ?_
  refine lv_iload hx hb dL_law_1005 (lv_at hl 0 rfl) ?_
  refine lv_iconst (v := 1) hx hb dL_law_1007 (by decide) ?_
  refine lv_iadd hx hb dL_law_1008 ?_
  refine va_sld hx hb hX hbl hbA hS (vp_in_iff.mpr ⟨by omega, by omega⟩) dL_law_1009 ?_
  refine lv_topi (fun x_1 ex_1 => ?_)
  refine gw_callX (va_runV (As := [.int x_1]) (rest := []) ⟨hx, hb, hml, hown, hts⟩ (s_count l G cy sK sV aX H.size sx hBX x_1 x_1.toInt rfl ) ⟨(gz_cb (n := 1) hts gm_725 gm_1 gm_728 ⟨by decide +kernel, by decide +kernel, by decide +kernel⟩ ⟨Nat.le_of_ble_eq_true rfl, Nat.le_of_ble_eq_true rfl⟩), hts _ gm_726, hts _ gm_727⟩ (gs_preV hK hov hE hAp.1 hW.1 hmX hS hA 0 0 (by decide) rfl rfl) rfl rfl hl.1 rfl (lv_room (Nat.le_of_ble_eq_true rfl)) dL_law_1010 ⟨(by show cells ≤ 601024; omega), (by show slots ≤ 7293034; omega)⟩) hAp hmX hW hS hA (fun r_2 st_2 H locs hw_2 hW hS => ?_)
  obtain ⟨n_2, hw_2⟩ := hw_2
  refine lv_pop hx hb dL_law_1013 rfl ?_
  refine lv_aload_n hx hb dL_law_1014 rfl (lv_at hl 2 rfl) ?_
  refine lv_aload_n hx hb dL_law_1015 rfl (lv_at hl 4 rfl) ?_
  refine lv_iload hx hb dL_law_1016 (lv_at hl 0 rfl) ?_
  refine lv_iconst (v := 1) hx hb dL_law_1018 (by decide) ?_
  refine lv_iadd hx hb dL_law_1019 ?_
  refine va_sld hx hb hX hbl hbA hS (vp_in_iff.mpr ⟨by omega, by omega⟩) dL_law_1020 ?_
  refine lv_topi (fun x_3 ex_3 => ?_)
  have ex_3 : x_1 = x_3 := ex_1.trans ex_3.symm
  subst ex_3
  refine gw_callM (va_runV (As := [.int x_1]) (rest := []) ⟨hx, hb, hml, hown, hts⟩ (m_count l G cy sK sV aM H.size sm hIM x_1 x_1.toInt rfl ) ⟨(gz_cb (n := 1) hts gm_1301 gm_12 gm_1304 ⟨by decide +kernel, by decide +kernel, by decide +kernel⟩ ⟨Nat.le_of_ble_eq_true rfl, Nat.le_of_ble_eq_true rfl⟩), hts _ gm_1302, hts _ gm_1303⟩ (gs_preV hK hov hE hAp.2.1 hW.2.1 hmM hS hA 0 0 (by decide) rfl rfl) rfl rfl hl.1 rfl (lv_room (Nat.le_of_ble_eq_true rfl)) dL_law_1021 ⟨(by show cells ≤ 601024; omega), (by show slots ≤ 7293034; omega)⟩) hAp hmM hW hS hA (fun r_4 st_4 H locs hw_4 hW hS => ?_)
  obtain ⟨n_4, hw_4⟩ := hw_4
  have hRel := rel_count (rX := r_2) (rM := r_4) (x := x_1) hRel hBX hIM n_2 n_4  hw_2 hw_4
  have hBX := n_2.1
  have hIM := mInv.keep n_4 hIM
  refine lv_pop hx hb dL_law_1024 rfl ?_
  refine lv_goto (tgt := 1028) hx hb dL_law_1025 (by decide) ?_
  exact hnext st_2 st_4 f H _ ls (cells) (slots) hBX hIM hRel (by omega) (by omega) hW hS (lv_sub hl [0, 1, 2, 3, 4] rfl)
