theorem gm_708 : (Jvm.Cond.methodLink "WellCourtLaw" (101 : Nat) ({ cls := "WellCourt", name := "way", desc := "(III)Z" } : Jvm.MethodName)) ∈ gz_T := gz_at 708 (by decide +kernel) rfl
theorem gm_709 : (Jvm.Cond.instanceMethod ({ cls := "WellCourt", name := "way", desc := "(III)Z" } : Jvm.MethodName)) ∈ gz_T := gz_at 709 (by decide +kernel) rfl
theorem gm_710 : (Jvm.Cond.selects "WellCourt" ({ cls := "WellCourt", name := "way", desc := "(III)Z" } : Jvm.MethodName) ({ cls := "WellCourt", name := "way", desc := "(III)Z" } : Jvm.MethodName)) ∈ gz_T := gz_at 710 (by decide +kernel) rfl
theorem gm_711 : (Jvm.Cond.code ({ cls := "WellCourt", name := "way", desc := "(III)Z" } : Jvm.MethodName) prog_1_method_19_code (4 : Nat) (Option.some Jvm.ClassFile.FieldType.boolean)) ∈ gz_T := gz_at 711 (by decide +kernel) rfl
theorem gm_712 : (Jvm.Cond.methodLink "WellCourtLaw" (109 : Nat) ({ cls := "WellCourt", name := "step", desc := "(II)I" } : Jvm.MethodName)) ∈ gz_T := gz_at 712 (by decide +kernel) rfl
theorem gm_713 : (Jvm.Cond.instanceMethod ({ cls := "WellCourt", name := "step", desc := "(II)I" } : Jvm.MethodName)) ∈ gz_T := gz_at 713 (by decide +kernel) rfl
theorem gm_714 : (Jvm.Cond.selects "WellCourt" ({ cls := "WellCourt", name := "step", desc := "(II)I" } : Jvm.MethodName) ({ cls := "WellCourt", name := "step", desc := "(II)I" } : Jvm.MethodName)) ∈ gz_T := gz_at 714 (by decide +kernel) rfl
theorem gm_715 : (Jvm.Cond.code ({ cls := "WellCourt", name := "step", desc := "(II)I" } : Jvm.MethodName) prog_1_method_21_code (3 : Nat) (Option.some Jvm.ClassFile.FieldType.int)) ∈ gz_T := gz_at 715 (by decide +kernel) rfl
theorem gm_721 : (Jvm.Cond.methodLink "WellCourtLaw" (113 : Nat) ({ cls := "WellCourt", name := "far", desc := "()I" } : Jvm.MethodName)) ∈ gz_T := gz_at 721 (by decide +kernel) rfl
theorem gm_722 : (Jvm.Cond.instanceMethod ({ cls := "WellCourt", name := "far", desc := "()I" } : Jvm.MethodName)) ∈ gz_T := gz_at 722 (by decide +kernel) rfl
theorem gm_723 : (Jvm.Cond.selects "WellCourt" ({ cls := "WellCourt", name := "far", desc := "()I" } : Jvm.MethodName) ({ cls := "WellCourt", name := "far", desc := "()I" } : Jvm.MethodName)) ∈ gz_T := gz_at 723 (by decide +kernel) rfl
theorem gm_724 : (Jvm.Cond.code ({ cls := "WellCourt", name := "far", desc := "()I" } : Jvm.MethodName) prog_1_method_22_code (1 : Nat) (Option.some Jvm.ClassFile.FieldType.int)) ∈ gz_T := gz_at 724 (by decide +kernel) rfl
theorem gm_725 : (Jvm.Cond.methodLink "WellCourtLaw" (117 : Nat) ({ cls := "WellCourt", name := "count", desc := "(I)I" } : Jvm.MethodName)) ∈ gz_T := gz_at 725 (by decide +kernel) rfl
theorem gm_726 : (Jvm.Cond.instanceMethod ({ cls := "WellCourt", name := "count", desc := "(I)I" } : Jvm.MethodName)) ∈ gz_T := gz_at 726 (by decide +kernel) rfl
theorem gm_727 : (Jvm.Cond.selects "WellCourt" ({ cls := "WellCourt", name := "count", desc := "(I)I" } : Jvm.MethodName) ({ cls := "WellCourt", name := "count", desc := "(I)I" } : Jvm.MethodName)) ∈ gz_T := gz_at 727 (by decide +kernel) rfl
theorem gm_728 : (Jvm.Cond.code ({ cls := "WellCourt", name := "count", desc := "(I)I" } : Jvm.MethodName) prog_1_method_23_code (2 : Nat) (Option.some Jvm.ClassFile.FieldType.int)) ∈ gz_T := gz_at 728 (by decide +kernel) rfl
theorem gm_814 : (Jvm.Cond.methodLink "WellCourtLaw" (106 : Nat) ({ cls := "WellCourtLaw", name := "plan", desc := "(LWellCourt;II[J)I" } : Jvm.MethodName)) ∈ gz_T := gz_at 814 (by decide +kernel) rfl
theorem gm_815 : (Jvm.Cond.static ({ cls := "WellCourtLaw", name := "plan", desc := "(LWellCourt;II[J)I" } : Jvm.MethodName)) ∈ gz_T := gz_at 815 (by decide +kernel) rfl
theorem gm_816 : (Jvm.Cond.codeWith ({ cls := "WellCourtLaw", name := "plan", desc := "(LWellCourt;II[J)I" } : Jvm.MethodName) method_4_code (5 : Nat) (Option.some Jvm.ClassFile.FieldType.int) [((0 : Nat), (10 : Nat), (13 : Nat), (18 : Nat))]) ∈ gz_T := gz_at 816 (by decide +kernel) rfl
theorem gm_1264 : (Jvm.Cond.methodLink "WellCourtLaw" (105 : Nat) ({ cls := "WellCourtModel", name := "way", desc := "(III)Z" } : Jvm.MethodName)) ∈ gz_T := gz_at 1264 (by decide +kernel) rfl
theorem gm_1265 : (Jvm.Cond.instanceMethod ({ cls := "WellCourtModel", name := "way", desc := "(III)Z" } : Jvm.MethodName)) ∈ gz_T := gz_at 1265 (by decide +kernel) rfl
theorem gm_1266 : (Jvm.Cond.selects "WellCourtModel" ({ cls := "WellCourtModel", name := "way", desc := "(III)Z" } : Jvm.MethodName) ({ cls := "WellCourtModel", name := "way", desc := "(III)Z" } : Jvm.MethodName)) ∈ gz_T := gz_at 1266 (by decide +kernel) rfl
theorem gm_1267 : (Jvm.Cond.code ({ cls := "WellCourtModel", name := "way", desc := "(III)Z" } : Jvm.MethodName) prog_12_method_48_code (4 : Nat) (Option.some Jvm.ClassFile.FieldType.boolean)) ∈ gz_T := gz_at 1267 (by decide +kernel) rfl
theorem gm_1268 : (Jvm.Cond.methodLink "WellCourtLaw" (108 : Nat) ({ cls := "WellCourtModel", name := "plan", desc := "(II)I" } : Jvm.MethodName)) ∈ gz_T := gz_at 1268 (by decide +kernel) rfl
theorem gm_1269 : (Jvm.Cond.instanceMethod ({ cls := "WellCourtModel", name := "plan", desc := "(II)I" } : Jvm.MethodName)) ∈ gz_T := gz_at 1269 (by decide +kernel) rfl
theorem gm_1270 : (Jvm.Cond.selects "WellCourtModel" ({ cls := "WellCourtModel", name := "plan", desc := "(II)I" } : Jvm.MethodName) ({ cls := "WellCourtModel", name := "plan", desc := "(II)I" } : Jvm.MethodName)) ∈ gz_T := gz_at 1270 (by decide +kernel) rfl
theorem gm_1271 : (Jvm.Cond.code ({ cls := "WellCourtModel", name := "plan", desc := "(II)I" } : Jvm.MethodName) prog_12_method_53_code (8 : Nat) (Option.some Jvm.ClassFile.FieldType.int)) ∈ gz_T := gz_at 1271 (by decide +kernel) rfl
theorem gm_1289 : (Jvm.Cond.methodLink "WellCourtLaw" (112 : Nat) ({ cls := "WellCourtModel", name := "step", desc := "(II)I" } : Jvm.MethodName)) ∈ gz_T := gz_at 1289 (by decide +kernel) rfl
theorem gm_1290 : (Jvm.Cond.instanceMethod ({ cls := "WellCourtModel", name := "step", desc := "(II)I" } : Jvm.MethodName)) ∈ gz_T := gz_at 1290 (by decide +kernel) rfl
theorem gm_1291 : (Jvm.Cond.selects "WellCourtModel" ({ cls := "WellCourtModel", name := "step", desc := "(II)I" } : Jvm.MethodName) ({ cls := "WellCourtModel", name := "step", desc := "(II)I" } : Jvm.MethodName)) ∈ gz_T := gz_at 1291 (by decide +kernel) rfl
theorem gm_1292 : (Jvm.Cond.code ({ cls := "WellCourtModel", name := "step", desc := "(II)I" } : Jvm.MethodName) prog_12_method_54_code (3 : Nat) (Option.some Jvm.ClassFile.FieldType.int)) ∈ gz_T := gz_at 1292 (by decide +kernel) rfl
theorem gm_1293 : (Jvm.Cond.methodLink "WellCourtLaw" (116 : Nat) ({ cls := "WellCourtModel", name := "far", desc := "()I" } : Jvm.MethodName)) ∈ gz_T := gz_at 1293 (by decide +kernel) rfl
theorem gm_1294 : (Jvm.Cond.instanceMethod ({ cls := "WellCourtModel", name := "far", desc := "()I" } : Jvm.MethodName)) ∈ gz_T := gz_at 1294 (by decide +kernel) rfl
theorem gm_1295 : (Jvm.Cond.selects "WellCourtModel" ({ cls := "WellCourtModel", name := "far", desc := "()I" } : Jvm.MethodName) ({ cls := "WellCourtModel", name := "far", desc := "()I" } : Jvm.MethodName)) ∈ gz_T := gz_at 1295 (by decide +kernel) rfl
theorem gm_1296 : (Jvm.Cond.code ({ cls := "WellCourtModel", name := "far", desc := "()I" } : Jvm.MethodName) prog_12_method_55_code (1 : Nat) (Option.some Jvm.ClassFile.FieldType.int)) ∈ gz_T := gz_at 1296 (by decide +kernel) rfl
theorem gm_1297 : (Jvm.Cond.methodLink "WellCourtLaw" (121 : Nat) ({ cls := "WellCourtModel", name := "count", desc := "(I)I" } : Jvm.MethodName)) ∈ gz_T := gz_at 1297 (by decide +kernel) rfl
theorem gm_1298 : (Jvm.Cond.instanceMethod ({ cls := "WellCourtModel", name := "count", desc := "(I)I" } : Jvm.MethodName)) ∈ gz_T := gz_at 1298 (by decide +kernel) rfl
theorem gm_1299 : (Jvm.Cond.selects "WellCourtModel" ({ cls := "WellCourtModel", name := "count", desc := "(I)I" } : Jvm.MethodName) ({ cls := "WellCourtModel", name := "count", desc := "(I)I" } : Jvm.MethodName)) ∈ gz_T := gz_at 1299 (by decide +kernel) rfl
theorem gm_1300 : (Jvm.Cond.code ({ cls := "WellCourtModel", name := "count", desc := "(I)I" } : Jvm.MethodName) prog_12_method_56_code (4 : Nat) (Option.some Jvm.ClassFile.FieldType.int)) ∈ gz_T := gz_at 1300 (by decide +kernel) rfl
theorem dL_law_836 : decode cL_law 836 = .ok (.aload_n 1, 1) := by decide +kernel
theorem dL_law_837 : decode cL_law 837 = .ok (.aload_n 0, 1) := by decide +kernel
theorem dL_law_838 : decode cL_law 838 = .ok (.iload 4, 2) := by decide +kernel
theorem dL_law_840 : decode cL_law 840 = .ok (.iconst 1, 1) := by decide +kernel
theorem dL_law_841 : decode cL_law 841 = .ok (.iadd, 1) := by decide +kernel
theorem dL_law_842 : decode cL_law 842 = .ok (.iaload, 1) := by decide +kernel
theorem dL_law_843 : decode cL_law 843 = .ok (.aload_n 0, 1) := by decide +kernel
theorem dL_law_844 : decode cL_law 844 = .ok (.iload 4, 2) := by decide +kernel
theorem dL_law_846 : decode cL_law 846 = .ok (.iconst 2, 1) := by decide +kernel
theorem dL_law_847 : decode cL_law 847 = .ok (.iadd, 1) := by decide +kernel
theorem dL_law_848 : decode cL_law 848 = .ok (.iaload, 1) := by decide +kernel
theorem dL_law_849 : decode cL_law 849 = .ok (.aload_n 0, 1) := by decide +kernel
theorem dL_law_850 : decode cL_law 850 = .ok (.iload 4, 2) := by decide +kernel
theorem dL_law_852 : decode cL_law 852 = .ok (.iconst 3, 1) := by decide +kernel
theorem dL_law_853 : decode cL_law 853 = .ok (.iadd, 1) := by decide +kernel
theorem dL_law_854 : decode cL_law 854 = .ok (.iaload, 1) := by decide +kernel
theorem dL_law_855 : decode cL_law 855 = .ok (.invokevirtual 101, 3) := by decide +kernel
theorem dL_law_858 : decode cL_law 858 = .ok (.pop, 1) := by decide +kernel
theorem dL_law_859 : decode cL_law 859 = .ok (.aload_n 2, 1) := by decide +kernel
theorem dL_law_860 : decode cL_law 860 = .ok (.aload_n 0, 1) := by decide +kernel
theorem dL_law_861 : decode cL_law 861 = .ok (.iload 4, 2) := by decide +kernel
theorem dL_law_863 : decode cL_law 863 = .ok (.iconst 1, 1) := by decide +kernel
theorem dL_law_864 : decode cL_law 864 = .ok (.iadd, 1) := by decide +kernel
theorem dL_law_865 : decode cL_law 865 = .ok (.iaload, 1) := by decide +kernel
theorem dL_law_866 : decode cL_law 866 = .ok (.aload_n 0, 1) := by decide +kernel
theorem dL_law_867 : decode cL_law 867 = .ok (.iload 4, 2) := by decide +kernel
theorem dL_law_869 : decode cL_law 869 = .ok (.iconst 2, 1) := by decide +kernel
theorem dL_law_870 : decode cL_law 870 = .ok (.iadd, 1) := by decide +kernel
theorem dL_law_871 : decode cL_law 871 = .ok (.iaload, 1) := by decide +kernel
theorem dL_law_872 : decode cL_law 872 = .ok (.aload_n 0, 1) := by decide +kernel
theorem dL_law_873 : decode cL_law 873 = .ok (.iload 4, 2) := by decide +kernel
theorem dL_law_875 : decode cL_law 875 = .ok (.iconst 3, 1) := by decide +kernel
theorem dL_law_876 : decode cL_law 876 = .ok (.iadd, 1) := by decide +kernel
theorem dL_law_877 : decode cL_law 877 = .ok (.iaload, 1) := by decide +kernel
theorem dL_law_878 : decode cL_law 878 = .ok (.invokevirtual 105, 3) := by decide +kernel
theorem dL_law_881 : decode cL_law 881 = .ok (.pop, 1) := by decide +kernel
theorem dL_law_882 : decode cL_law 882 = .ok (.goto 118, 3) := by decide +kernel
theorem dL_law_885 : decode cL_law 885 = .ok (.aload_n 1, 1) := by decide +kernel
theorem dL_law_886 : decode cL_law 886 = .ok (.aload_n 0, 1) := by decide +kernel
theorem dL_law_887 : decode cL_law 887 = .ok (.iload 4, 2) := by decide +kernel
theorem dL_law_889 : decode cL_law 889 = .ok (.iconst 1, 1) := by decide +kernel
theorem dL_law_890 : decode cL_law 890 = .ok (.iadd, 1) := by decide +kernel
theorem dL_law_891 : decode cL_law 891 = .ok (.iaload, 1) := by decide +kernel
theorem dL_law_892 : decode cL_law 892 = .ok (.aload_n 0, 1) := by decide +kernel
theorem dL_law_893 : decode cL_law 893 = .ok (.iload 4, 2) := by decide +kernel
theorem dL_law_895 : decode cL_law 895 = .ok (.iconst 2, 1) := by decide +kernel
theorem dL_law_896 : decode cL_law 896 = .ok (.iadd, 1) := by decide +kernel
theorem dL_law_897 : decode cL_law 897 = .ok (.iaload, 1) := by decide +kernel
theorem dL_law_898 : decode cL_law 898 = .ok (.aload_n 3, 1) := by decide +kernel
theorem dL_law_899 : decode cL_law 899 = .ok (.invokestatic 106, 3) := by decide +kernel
theorem dL_law_902 : decode cL_law 902 = .ok (.istore 5, 2) := by decide +kernel
theorem dL_law_904 : decode cL_law 904 = .ok (.aload_n 2, 1) := by decide +kernel
theorem dL_law_905 : decode cL_law 905 = .ok (.aload_n 0, 1) := by decide +kernel
theorem dL_law_906 : decode cL_law 906 = .ok (.iload 4, 2) := by decide +kernel
theorem dL_law_908 : decode cL_law 908 = .ok (.iconst 1, 1) := by decide +kernel
theorem dL_law_909 : decode cL_law 909 = .ok (.iadd, 1) := by decide +kernel
theorem dL_law_910 : decode cL_law 910 = .ok (.iaload, 1) := by decide +kernel
theorem dL_law_911 : decode cL_law 911 = .ok (.aload_n 0, 1) := by decide +kernel
theorem dL_law_912 : decode cL_law 912 = .ok (.iload 4, 2) := by decide +kernel
theorem dL_law_914 : decode cL_law 914 = .ok (.iconst 2, 1) := by decide +kernel
theorem dL_law_915 : decode cL_law 915 = .ok (.iadd, 1) := by decide +kernel
theorem dL_law_916 : decode cL_law 916 = .ok (.iaload, 1) := by decide +kernel
theorem dL_law_917 : decode cL_law 917 = .ok (.invokevirtual 108, 3) := by decide +kernel
theorem dL_law_920 : decode cL_law 920 = .ok (.istore 6, 2) := by decide +kernel
theorem dL_law_922 : decode cL_law 922 = .ok (.goto 78, 3) := by decide +kernel
theorem dL_law_925 : decode cL_law 925 = .ok (.aload_n 1, 1) := by decide +kernel
theorem dL_law_926 : decode cL_law 926 = .ok (.aload_n 0, 1) := by decide +kernel
theorem dL_law_927 : decode cL_law 927 = .ok (.iload 4, 2) := by decide +kernel
theorem dL_law_929 : decode cL_law 929 = .ok (.iconst 1, 1) := by decide +kernel
theorem dL_law_930 : decode cL_law 930 = .ok (.iadd, 1) := by decide +kernel
theorem dL_law_931 : decode cL_law 931 = .ok (.iaload, 1) := by decide +kernel
theorem dL_law_932 : decode cL_law 932 = .ok (.aload_n 0, 1) := by decide +kernel
theorem dL_law_933 : decode cL_law 933 = .ok (.iload 4, 2) := by decide +kernel
theorem dL_law_935 : decode cL_law 935 = .ok (.iconst 2, 1) := by decide +kernel
theorem dL_law_936 : decode cL_law 936 = .ok (.iadd, 1) := by decide +kernel
theorem dL_law_937 : decode cL_law 937 = .ok (.iaload, 1) := by decide +kernel
theorem dL_law_938 : decode cL_law 938 = .ok (.invokevirtual 109, 3) := by decide +kernel
theorem dL_law_941 : decode cL_law 941 = .ok (.pop, 1) := by decide +kernel
theorem dL_law_942 : decode cL_law 942 = .ok (.aload_n 2, 1) := by decide +kernel
theorem dL_law_943 : decode cL_law 943 = .ok (.aload_n 0, 1) := by decide +kernel
theorem dL_law_944 : decode cL_law 944 = .ok (.iload 4, 2) := by decide +kernel
theorem dL_law_946 : decode cL_law 946 = .ok (.iconst 1, 1) := by decide +kernel
theorem dL_law_947 : decode cL_law 947 = .ok (.iadd, 1) := by decide +kernel
theorem dL_law_948 : decode cL_law 948 = .ok (.iaload, 1) := by decide +kernel
theorem dL_law_949 : decode cL_law 949 = .ok (.aload_n 0, 1) := by decide +kernel
theorem dL_law_950 : decode cL_law 950 = .ok (.iload 4, 2) := by decide +kernel
theorem dL_law_952 : decode cL_law 952 = .ok (.iconst 2, 1) := by decide +kernel
theorem dL_law_953 : decode cL_law 953 = .ok (.iadd, 1) := by decide +kernel
theorem dL_law_954 : decode cL_law 954 = .ok (.iaload, 1) := by decide +kernel
theorem dL_law_955 : decode cL_law 955 = .ok (.invokevirtual 112, 3) := by decide +kernel
theorem dL_law_958 : decode cL_law 958 = .ok (.pop, 1) := by decide +kernel
theorem dL_law_959 : decode cL_law 959 = .ok (.goto 41, 3) := by decide +kernel
theorem dL_law_962 : decode cL_law 962 = .ok (.aload_n 1, 1) := by decide +kernel
theorem dL_law_963 : decode cL_law 963 = .ok (.invokevirtual 113, 3) := by decide +kernel
theorem dL_law_966 : decode cL_law 966 = .ok (.pop, 1) := by decide +kernel
theorem dL_law_967 : decode cL_law 967 = .ok (.aload_n 2, 1) := by decide +kernel
theorem dL_law_968 : decode cL_law 968 = .ok (.invokevirtual 116, 3) := by decide +kernel
theorem dL_law_971 : decode cL_law 971 = .ok (.pop, 1) := by decide +kernel
theorem dL_law_972 : decode cL_law 972 = .ok (.goto 28, 3) := by decide +kernel
theorem dL_law_975 : decode cL_law 975 = .ok (.aload_n 1, 1) := by decide +kernel
theorem dL_law_976 : decode cL_law 976 = .ok (.aload_n 0, 1) := by decide +kernel
theorem dL_law_977 : decode cL_law 977 = .ok (.iload 4, 2) := by decide +kernel
theorem dL_law_979 : decode cL_law 979 = .ok (.iconst 1, 1) := by decide +kernel
theorem dL_law_980 : decode cL_law 980 = .ok (.iadd, 1) := by decide +kernel
theorem dL_law_981 : decode cL_law 981 = .ok (.iaload, 1) := by decide +kernel
theorem dL_law_982 : decode cL_law 982 = .ok (.invokevirtual 117, 3) := by decide +kernel
theorem dL_law_985 : decode cL_law 985 = .ok (.pop, 1) := by decide +kernel
theorem dL_law_986 : decode cL_law 986 = .ok (.aload_n 2, 1) := by decide +kernel
theorem dL_law_987 : decode cL_law 987 = .ok (.aload_n 0, 1) := by decide +kernel
theorem dL_law_988 : decode cL_law 988 = .ok (.iload 4, 2) := by decide +kernel
theorem dL_law_990 : decode cL_law 990 = .ok (.iconst 1, 1) := by decide +kernel
theorem dL_law_991 : decode cL_law 991 = .ok (.iadd, 1) := by decide +kernel
theorem dL_law_992 : decode cL_law 992 = .ok (.iaload, 1) := by decide +kernel
theorem dL_law_993 : decode cL_law 993 = .ok (.invokevirtual 121, 3) := by decide +kernel
theorem dL_law_996 : decode cL_law 996 = .ok (.pop, 1) := by decide +kernel
theorem dL_law_997 : decode cL_law 997 = .ok (.goto 3, 3) := by decide +kernel
set_option maxHeartbeats 4000000 in
set_option maxRecDepth 100000 in
theorem law_c17 {p : Program} {e : Env} {s : State} {m : MethodId} {below : List Frame} {meth : Method} {c : Code} (l : Launch) (hlt : l.stackTraces = false) {b L : Nat} {xs : Nat → Int32} (C0 : lw_At p s m meth c b L xs) (G : va_G) (cy : Nat → ClassId) (sK sV : Nat → Nat) (hK : va_K G vwCl (gzK cy) s) (hov : gOv s) (A : Nat → Prop) (hA : ∀ q, s.heap.size ≤ q → A q) (hAn : ∀ q, A q → s.heap.size ≤ q) (hE : gE sK sV A s s.heap) (aX aM : Nat → Nat → Nat) (o : Nat) (hAp : gAp aX aM o) (hmX : ∀ k i, i < cnX k → A (aX k i)) (hmM : ∀ k i, i < cnM k → A (aM k i)) (hAo : A o) (sx sm : gS) (f : Nat → Int64) (hBX : gBd bX sx) (hIM : mInv sm) (hRel : lRel sx sm) (iv : Int32) (hi0 : 0 ≤ iv.toInt) (hi1 : iv.toInt + 6 ≤ (L : Int)) (hLb : L ≤ 3072) (cells slots : Nat) (hcl : cells + 1 ≤ 601024) (hsl : slots + 6 ≤ 7293034) (H : Heap) (locs : List Loc) (ls : Array Slot) (hW : gWd G cy aX aM o sx sm f H) (hS : va_S A s.heap H locs) (hl : lv_has ls 7 [(4, .int iv), (3, .ref o), (2, .ref (aM 0 0)), (1, .ref (aX 0 0)), (0, .ref b)]) (hnext : (∀ (sx sm : gS) (f : Nat → Int64) (H : Heap) (locs : List Loc) (ls : Array Slot) (cells1 slots1 : Nat), gBd bX sx → mInv sm → lRel sx sm → cells1 ≤ cells + 1 → slots1 ≤ slots + 6 → gWd G cy aX aM o sx sm f H → va_S A s.heap H locs → lv_has ls 7 [(4, .int iv), (3, .ref o), (2, .ref (aM 0 0)), (1, .ref (aX 0 0)), (0, .ref b)] → W p l e room_1 s m #[Value.ref b] below meth c H locs cells1 slots1 (lw_Z below #[Value.ref b] s) (F0 m 1000 ls []))) : W p l e room_1 s m #[Value.ref b] below meth c H locs cells slots (lw_Z below #[Value.ref b] s) (F0 m 836 ls []) := by
  obtain ⟨hx, hb, hr, hml, hown, hts0, hX, hbl, hlocks, hgv⟩ := id C0
  have hts : ∀ w ∈ gz_T, w.before #[Value.ref b] s = true := fun w h => hts0 w (List.mem_filter.mp h).1
  have hown : s.vm.findClass RL = some m.cls := hown
  have hbA : ¬ A b := fun q => Nat.not_le.mpr hbl (hAn b q)
  have t1 : (iv + 1).toInt = iv.toInt + 1 := gz_addP rfl (by decide) (by omega) (by omega)
  have t2 : (iv + 2).toInt = iv.toInt + 2 := gz_addP rfl (by decide) (by omega) (by omega)
  have t3 : (iv + 3).toInt = iv.toInt + 3 := gz_addP rfl (by decide) (by omega) (by omega)
  have t4 : (iv + 4).toInt = iv.toInt + 4 := gz_addP rfl (by decide) (by omega) (by omega)
  have t5 : (iv + 5).toInt = iv.toInt + 5 := gz_addP rfl (by decide) (by omega) (by omega)
  obtain ⟨rs, hLa, hLM, hru, hwf, hun⟩ := hRel.law
  have bk28 : (0 : Int) ≤ (sm 0 0 28).toInt ∧ (sm 0 0 28).toInt ≤ (1 : Int) := hIM 0 0 28
  have hbk : (sm 0 0 28).toInt = (((sm 0 0 28).toNatClampNeg : Nat) : Int) := (gs_cl bk28.1).symm
  refine lv_aload_n hx hb dL_law_836 rfl (lv_at hl 3 rfl) ?_
  refine lv_aload_n hx hb dL_law_837 rfl (lv_at hl 4 rfl) ?_
  refine lv_iload hx hb dL_law_838 (lv_at hl 0 rfl) ?_
  refine lv_iconst (v := 1) hx hb dL_law_840 (by decide) ?_
  refine lv_iadd hx hb dL_law_841 ?_
  refine va_sld hx hb hX hbl hbA hS (vp_in_iff.mpr ⟨by omega, by omega⟩) dL_law_842 ?_
  refine lv_topi (fun x_1 ex_1 => ?_)
  refine lv_aload_n hx hb dL_law_843 rfl (lv_at hl 4 rfl) ?_
  refine lv_iload hx hb dL_law_844 (lv_at hl 0 rfl) ?_
  refine lv_iconst (v := 2) hx hb dL_law_846 (by decide) ?_
  refine lv_iadd hx hb dL_law_847 ?_
  refine va_sld hx hb hX hbl hbA hS (vp_in_iff.mpr ⟨by omega, by omega⟩) dL_law_848 ?_
  refine lv_topi (fun x_2 ex_2 => ?_)
  refine lv_aload_n hx hb dL_law_849 rfl (lv_at hl 4 rfl) ?_
  refine lv_iload hx hb dL_law_850 (lv_at hl 0 rfl) ?_
  refine lv_iconst (v := 3) hx hb dL_law_852 (by decide) ?_
  refine lv_iadd hx hb dL_law_853 ?_
  refine va_sld hx hb hX hbl hbA hS (vp_in_iff.mpr ⟨by omega, by omega⟩) dL_law_854 ?_
  refine lv_topi (fun x_3 ex_3 => ?_)
  refine gw_callX (va_runV (As := [.int x_1, .int x_2, .int x_3]) (rest := []) ⟨hx, hb, hml, hown, hts⟩ (s_way l G cy sK sV aX H.size sx hBX x_1 x_2 x_3 x_1.toInt x_2.toInt x_3.toInt rfl rfl rfl ) ⟨(gz_cb (n := 3) hts gm_708 gm_1 gm_711 ⟨by decide +kernel, by decide +kernel, by decide +kernel⟩ ⟨Nat.le_of_ble_eq_true rfl, Nat.le_of_ble_eq_true rfl⟩), hts _ gm_709, hts _ gm_710⟩ (gs_preV hK hov hE hAp.1 hW.1 hmX hS hA 0 0 (by decide) rfl rfl) rfl rfl hl.1 rfl (lv_room (Nat.le_of_ble_eq_true rfl)) dL_law_855 ⟨(by show cells ≤ 601024; omega), (by show slots ≤ 7293034; omega)⟩) hAp hmX hW hS hA (fun r_4 st_4 H locs hw_4 hW hS => ?_)
  obtain ⟨n_4, hw_4⟩ := hw_4
  refine lv_pop hx hb dL_law_858 rfl ?_
  refine lv_aload_n hx hb dL_law_859 rfl (lv_at hl 2 rfl) ?_
  refine lv_aload_n hx hb dL_law_860 rfl (lv_at hl 4 rfl) ?_
  refine lv_iload hx hb dL_law_861 (lv_at hl 0 rfl) ?_
  refine lv_iconst (v := 1) hx hb dL_law_863 (by decide) ?_
  refine lv_iadd hx hb dL_law_864 ?_
  refine va_sld hx hb hX hbl hbA hS (vp_in_iff.mpr ⟨by omega, by omega⟩) dL_law_865 ?_
  refine lv_topi (fun x_5 ex_5 => ?_)
  have ex_5 : x_1 = x_5 := ex_1.trans ex_5.symm
  subst ex_5
  refine lv_aload_n hx hb dL_law_866 rfl (lv_at hl 4 rfl) ?_
  refine lv_iload hx hb dL_law_867 (lv_at hl 0 rfl) ?_
  refine lv_iconst (v := 2) hx hb dL_law_869 (by decide) ?_
  refine lv_iadd hx hb dL_law_870 ?_
  refine va_sld hx hb hX hbl hbA hS (vp_in_iff.mpr ⟨by omega, by omega⟩) dL_law_871 ?_
  refine lv_topi (fun x_6 ex_6 => ?_)
  have ex_6 : x_2 = x_6 := ex_2.trans ex_6.symm
  subst ex_6
  refine lv_aload_n hx hb dL_law_872 rfl (lv_at hl 4 rfl) ?_
  refine lv_iload hx hb dL_law_873 (lv_at hl 0 rfl) ?_
  refine lv_iconst (v := 3) hx hb dL_law_875 (by decide) ?_
  refine lv_iadd hx hb dL_law_876 ?_
  refine va_sld hx hb hX hbl hbA hS (vp_in_iff.mpr ⟨by omega, by omega⟩) dL_law_877 ?_
  refine lv_topi (fun x_7 ex_7 => ?_)
  have ex_7 : x_3 = x_7 := ex_3.trans ex_7.symm
  subst ex_7
  refine gw_callM (va_runV (As := [.int x_1, .int x_2, .int x_3]) (rest := []) ⟨hx, hb, hml, hown, hts⟩ (m_way l G cy sK sV aM H.size sm hIM x_1 x_2 x_3 x_1.toInt x_2.toInt x_3.toInt rfl rfl rfl ) ⟨(gz_cb (n := 3) hts gm_1264 gm_12 gm_1267 ⟨by decide +kernel, by decide +kernel, by decide +kernel⟩ ⟨Nat.le_of_ble_eq_true rfl, Nat.le_of_ble_eq_true rfl⟩), hts _ gm_1265, hts _ gm_1266⟩ (gs_preV hK hov hE hAp.2.1 hW.2.1 hmM hS hA 0 0 (by decide) rfl rfl) rfl rfl hl.1 rfl (lv_room (Nat.le_of_ble_eq_true rfl)) dL_law_878 ⟨(by show cells ≤ 601024; omega), (by show slots ≤ 7293034; omega)⟩) hAp hmM hW hS hA (fun r_8 st_8 H locs hw_8 hW hS => ?_)
  obtain ⟨n_8, hw_8⟩ := hw_8
  have hRel := rel_way (rX := r_4) (rM := r_8) (x := x_1) (y := x_2) (w := x_3) hRel hBX hIM n_4 n_8  hw_4 hw_8
  have hBX := n_4.1
  have hIM := mInv.keep n_8 hIM
  refine lv_pop hx hb dL_law_881 rfl ?_
  refine lv_goto (tgt := 1000) hx hb dL_law_882 (by decide) ?_
  exact hnext st_4 st_8 f H _ ls (cells) (slots) hBX hIM hRel (by omega) (by omega) hW hS (lv_sub hl [0, 1, 2, 3, 4] rfl)

set_option maxHeartbeats 4000000 in
set_option maxRecDepth 100000 in
theorem law_c18 {p : Program} {e : Env} {s : State} {m : MethodId} {below : List Frame} {meth : Method} {c : Code} (l : Launch) (hlt : l.stackTraces = false) {b L : Nat} {xs : Nat → Int32} (C0 : lw_At p s m meth c b L xs) (G : va_G) (cy : Nat → ClassId) (sK sV : Nat → Nat) (hK : va_K G vwCl (gzK cy) s) (hov : gOv s) (A : Nat → Prop) (hA : ∀ q, s.heap.size ≤ q → A q) (hAn : ∀ q, A q → s.heap.size ≤ q) (hE : gE sK sV A s s.heap) (aX aM : Nat → Nat → Nat) (o : Nat) (hAp : gAp aX aM o) (hmX : ∀ k i, i < cnX k → A (aX k i)) (hmM : ∀ k i, i < cnM k → A (aM k i)) (hAo : A o) (sx sm : gS) (f : Nat → Int64) (hBX : gBd bX sx) (hIM : mInv sm) (hRel : lRel sx sm) (iv : Int32) (hi0 : 0 ≤ iv.toInt) (hi1 : iv.toInt + 6 ≤ (L : Int)) (hLb : L ≤ 3072) (cells slots : Nat) (hcl : cells + 1 ≤ 601024) (hsl : slots + 6 ≤ 7293034) (H : Heap) (locs : List Loc) (ls : Array Slot) (hW : gWd G cy aX aM o sx sm f H) (hS : va_S A s.heap H locs) (hl : lv_has ls 7 [(4, .int iv), (3, .ref o), (2, .ref (aM 0 0)), (1, .ref (aX 0 0)), (0, .ref b)]) (hnext : (∀ (sx sm : gS) (f : Nat → Int64) (H : Heap) (locs : List Loc) (ls : Array Slot) (cells1 slots1 : Nat), gBd bX sx → mInv sm → lRel sx sm → cells1 ≤ cells + 1 → slots1 ≤ slots + 6 → gWd G cy aX aM o sx sm f H → va_S A s.heap H locs → lv_has ls 7 [(4, .int iv), (3, .ref o), (2, .ref (aM 0 0)), (1, .ref (aX 0 0)), (0, .ref b)] → W p l e room_1 s m #[Value.ref b] below meth c H locs cells1 slots1 (lw_Z below #[Value.ref b] s) (F0 m 1000 ls []))) : W p l e room_1 s m #[Value.ref b] below meth c H locs cells slots (lw_Z below #[Value.ref b] s) (F0 m 885 ls []) := by
  obtain ⟨hx, hb, hr, hml, hown, hts0, hX, hbl, hlocks, hgv⟩ := id C0
  have hts : ∀ w ∈ gz_T, w.before #[Value.ref b] s = true := fun w h => hts0 w (List.mem_filter.mp h).1
  have hown : s.vm.findClass RL = some m.cls := hown
  have hbA : ¬ A b := fun q => Nat.not_le.mpr hbl (hAn b q)
  have t1 : (iv + 1).toInt = iv.toInt + 1 := gz_addP rfl (by decide) (by omega) (by omega)
  have t2 : (iv + 2).toInt = iv.toInt + 2 := gz_addP rfl (by decide) (by omega) (by omega)
  have t3 : (iv + 3).toInt = iv.toInt + 3 := gz_addP rfl (by decide) (by omega) (by omega)
  have t4 : (iv + 4).toInt = iv.toInt + 4 := gz_addP rfl (by decide) (by omega) (by omega)
  have t5 : (iv + 5).toInt = iv.toInt + 5 := gz_addP rfl (by decide) (by omega) (by omega)
  obtain ⟨rs, hLa, hLM, hru, hwf, hun⟩ := hRel.law
  have bk28 : (0 : Int) ≤ (sm 0 0 28).toInt ∧ (sm 0 0 28).toInt ≤ (1 : Int) := hIM 0 0 28
  have hbk : (sm 0 0 28).toInt = (((sm 0 0 28).toNatClampNeg : Nat) : Int) := (gs_cl bk28.1).symm
  refine lv_aload_n hx hb dL_law_885 rfl (lv_at hl 3 rfl) ?_
  refine lv_aload_n hx hb dL_law_886 rfl (lv_at hl 4 rfl) ?_
  refine lv_iload hx hb dL_law_887 (lv_at hl 0 rfl) ?_
  refine lv_iconst (v := 1) hx hb dL_law_889 (by decide) ?_
  refine lv_iadd hx hb dL_law_890 ?_
  refine va_sld hx hb hX hbl hbA hS (vp_in_iff.mpr ⟨by omega, by omega⟩) dL_law_891 ?_
  refine lv_topi (fun x_1 ex_1 => ?_)
  refine lv_aload_n hx hb dL_law_892 rfl (lv_at hl 4 rfl) ?_
  refine lv_iload hx hb dL_law_893 (lv_at hl 0 rfl) ?_
  refine lv_iconst (v := 2) hx hb dL_law_895 (by decide) ?_
  refine lv_iadd hx hb dL_law_896 ?_
  refine va_sld hx hb hX hbl hbA hS (vp_in_iff.mpr ⟨by omega, by omega⟩) dL_law_897 ?_
  refine lv_topi (fun x_2 ex_2 => ?_)
  refine lv_aload_n hx hb dL_law_898 rfl (lv_at hl 1 rfl) ?_
  refine gw_callO (vx_runSW (As := [.ref (aX 0 0), .int x_1, .int x_2, .ref o]) (rest := []) ⟨hx, hb, hml, hown, hts⟩ (h_plan l hlt G cy sK sV aX o H.size sx f hBX x_1 x_2 x_1.toInt x_2.toInt rfl rfl rs hLa hwf) (gz_cwSW (n := 4) (rm := ({ frames := 7, cells := 1, slots := 6, locals := 163 } : Room)) (hh := [(0, 10, 13, 18)]) hts gm_814 gm_815 gm_0 gm_816 ⟨by decide +kernel, by decide +kernel, by decide +kernel⟩ ⟨Nat.le_of_ble_eq_true rfl, Nat.le_of_ble_eq_true rfl⟩) (gw_preO hK hov hE hAp hmX hAo hW hS hA) rfl rfl hl.1 rfl (lv_room (Nat.le_of_ble_eq_true rfl)) dL_law_899 ⟨(by show cells + 1 ≤ 601024; omega), (by show slots + 6 ≤ 7293034; omega)⟩) hAp hmX hAo hW hS hA (fun r_3 st_3 f_3 H locs hw_3 hW hS => ?_)
  obtain ⟨n_3, hw_3⟩ := hw_3
  refine lv_istore (lv' := [(5, .int r_3), (4, .int iv), (3, .ref o), (2, .ref (aM 0 0)), (1, .ref (aX 0 0)), (0, .ref b)]) hx hb dL_law_902 hl (by decide) rfl (fun ls hl => ?_)
  refine lv_aload_n hx hb dL_law_904 rfl (lv_at hl 3 rfl) ?_
  refine lv_aload_n hx hb dL_law_905 rfl (lv_at hl 5 rfl) ?_
  refine lv_iload hx hb dL_law_906 (lv_at hl 1 rfl) ?_
  refine lv_iconst (v := 1) hx hb dL_law_908 (by decide) ?_
  refine lv_iadd hx hb dL_law_909 ?_
  refine va_sld hx hb hX hbl hbA hS (vp_in_iff.mpr ⟨by omega, by omega⟩) dL_law_910 ?_
  refine lv_topi (fun x_4 ex_4 => ?_)
  have ex_4 : x_1 = x_4 := ex_1.trans ex_4.symm
  subst ex_4
  refine lv_aload_n hx hb dL_law_911 rfl (lv_at hl 5 rfl) ?_
  refine lv_iload hx hb dL_law_912 (lv_at hl 1 rfl) ?_
  refine lv_iconst (v := 2) hx hb dL_law_914 (by decide) ?_
  refine lv_iadd hx hb dL_law_915 ?_
  refine va_sld hx hb hX hbl hbA hS (vp_in_iff.mpr ⟨by omega, by omega⟩) dL_law_916 ?_
  refine lv_topi (fun x_5 ex_5 => ?_)
  have ex_5 : x_2 = x_5 := ex_2.trans ex_5.symm
  subst ex_5
  refine gw_callM (va_runV (As := [.int x_1, .int x_2]) (rest := []) ⟨hx, hb, hml, hown, hts⟩ (m_plan l G cy sK sV aM H.size sm hIM x_1 x_2 x_1.toInt x_2.toInt rfl rfl rs _ hbk hru hLM hwf) ⟨(gz_cb (n := 2) hts gm_1268 gm_12 gm_1271 ⟨by decide +kernel, by decide +kernel, by decide +kernel⟩ ⟨Nat.le_of_ble_eq_true rfl, Nat.le_of_ble_eq_true rfl⟩), hts _ gm_1269, hts _ gm_1270⟩ (gs_preV hK hov hE hAp.2.1 hW.2.1 hmM hS hA 0 0 (by decide) rfl rfl) rfl rfl hl.1 rfl (lv_room (Nat.le_of_ble_eq_true rfl)) dL_law_917 ⟨(by show cells + 1 ≤ 601024; omega), (by show slots + 6 ≤ 7293034; omega)⟩) hAp hmM hW hS hA (fun r_6 st_6 H locs hw_6 hW hS => ?_)
  obtain ⟨n_6, hw_6⟩ := hw_6
  have hRel := rel_plan (rX := r_3) (rM := r_6) (x := x_1) (y := x_2) hRel hBX hIM n_3 n_6  hw_3 hw_6
  have hBX := n_3.1
  have hIM := mInv.keep n_6 hIM
  refine lv_istore (lv' := [(6, .int r_6), (5, .int r_3), (4, .int iv), (3, .ref o), (2, .ref (aM 0 0)), (1, .ref (aX 0 0)), (0, .ref b)]) hx hb dL_law_920 hl (by decide) rfl (fun ls hl => ?_)
  refine lv_goto (tgt := 1000) hx hb dL_law_922 (by decide) ?_
  exact hnext st_3 st_6 f_3 H _ ls (cells + 1) (slots + 6) hBX hIM hRel (by omega) (by omega) hW hS (lv_sub hl [2, 3, 4, 5, 6] rfl)

set_option maxHeartbeats 4000000 in
set_option maxRecDepth 100000 in
theorem law_c19 {p : Program} {e : Env} {s : State} {m : MethodId} {below : List Frame} {meth : Method} {c : Code} (l : Launch) (hlt : l.stackTraces = false) {b L : Nat} {xs : Nat → Int32} (C0 : lw_At p s m meth c b L xs) (G : va_G) (cy : Nat → ClassId) (sK sV : Nat → Nat) (hK : va_K G vwCl (gzK cy) s) (hov : gOv s) (A : Nat → Prop) (hA : ∀ q, s.heap.size ≤ q → A q) (hAn : ∀ q, A q → s.heap.size ≤ q) (hE : gE sK sV A s s.heap) (aX aM : Nat → Nat → Nat) (o : Nat) (hAp : gAp aX aM o) (hmX : ∀ k i, i < cnX k → A (aX k i)) (hmM : ∀ k i, i < cnM k → A (aM k i)) (hAo : A o) (sx sm : gS) (f : Nat → Int64) (hBX : gBd bX sx) (hIM : mInv sm) (hRel : lRel sx sm) (iv : Int32) (hi0 : 0 ≤ iv.toInt) (hi1 : iv.toInt + 6 ≤ (L : Int)) (hLb : L ≤ 3072) (cells slots : Nat) (hcl : cells + 1 ≤ 601024) (hsl : slots + 6 ≤ 7293034) (H : Heap) (locs : List Loc) (ls : Array Slot) (hW : gWd G cy aX aM o sx sm f H) (hS : va_S A s.heap H locs) (hl : lv_has ls 7 [(4, .int iv), (3, .ref o), (2, .ref (aM 0 0)), (1, .ref (aX 0 0)), (0, .ref b)]) (hnext : (∀ (sx sm : gS) (f : Nat → Int64) (H : Heap) (locs : List Loc) (ls : Array Slot) (cells1 slots1 : Nat), gBd bX sx → mInv sm → lRel sx sm → cells1 ≤ cells + 1 → slots1 ≤ slots + 6 → gWd G cy aX aM o sx sm f H → va_S A s.heap H locs → lv_has ls 7 [(4, .int iv), (3, .ref o), (2, .ref (aM 0 0)), (1, .ref (aX 0 0)), (0, .ref b)] → W p l e room_1 s m #[Value.ref b] below meth c H locs cells1 slots1 (lw_Z below #[Value.ref b] s) (F0 m 1000 ls []))) : W p l e room_1 s m #[Value.ref b] below meth c H locs cells slots (lw_Z below #[Value.ref b] s) (F0 m 925 ls []) := by
  obtain ⟨hx, hb, hr, hml, hown, hts0, hX, hbl, hlocks, hgv⟩ := id C0
  have hts : ∀ w ∈ gz_T, w.before #[Value.ref b] s = true := fun w h => hts0 w (List.mem_filter.mp h).1
  have hown : s.vm.findClass RL = some m.cls := hown
  have hbA : ¬ A b := fun q => Nat.not_le.mpr hbl (hAn b q)
  have t1 : (iv + 1).toInt = iv.toInt + 1 := gz_addP rfl (by decide) (by omega) (by omega)
  have t2 : (iv + 2).toInt = iv.toInt + 2 := gz_addP rfl (by decide) (by omega) (by omega)
  have t3 : (iv + 3).toInt = iv.toInt + 3 := gz_addP rfl (by decide) (by omega) (by omega)
  have t4 : (iv + 4).toInt = iv.toInt + 4 := gz_addP rfl (by decide) (by omega) (by omega)
  have t5 : (iv + 5).toInt = iv.toInt + 5 := gz_addP rfl (by decide) (by omega) (by omega)
  obtain ⟨rs, hLa, hLM, hru, hwf, hun⟩ := hRel.law
  have bk28 : (0 : Int) ≤ (sm 0 0 28).toInt ∧ (sm 0 0 28).toInt ≤ (1 : Int) := hIM 0 0 28
  have hbk : (sm 0 0 28).toInt = (((sm 0 0 28).toNatClampNeg : Nat) : Int) := (gs_cl bk28.1).symm
  refine lv_aload_n hx hb dL_law_925 rfl (lv_at hl 3 rfl) ?_
  refine lv_aload_n hx hb dL_law_926 rfl (lv_at hl 4 rfl) ?_
  refine lv_iload hx hb dL_law_927 (lv_at hl 0 rfl) ?_
  refine lv_iconst (v := 1) hx hb dL_law_929 (by decide) ?_
  refine lv_iadd hx hb dL_law_930 ?_
  refine va_sld hx hb hX hbl hbA hS (vp_in_iff.mpr ⟨by omega, by omega⟩) dL_law_931 ?_
  refine lv_topi (fun x_1 ex_1 => ?_)
  refine lv_aload_n hx hb dL_law_932 rfl (lv_at hl 4 rfl) ?_
  refine lv_iload hx hb dL_law_933 (lv_at hl 0 rfl) ?_
  refine lv_iconst (v := 2) hx hb dL_law_935 (by decide) ?_
  refine lv_iadd hx hb dL_law_936 ?_
  refine va_sld hx hb hX hbl hbA hS (vp_in_iff.mpr ⟨by omega, by omega⟩) dL_law_937 ?_
  refine lv_topi (fun x_2 ex_2 => ?_)
  refine gw_callX (va_runV (As := [.int x_1, .int x_2]) (rest := []) ⟨hx, hb, hml, hown, hts⟩ (s_step l G cy sK sV aX H.size sx hBX x_1 x_2 x_1.toInt x_2.toInt rfl rfl ) ⟨(gz_cb (n := 2) hts gm_712 gm_1 gm_715 ⟨by decide +kernel, by decide +kernel, by decide +kernel⟩ ⟨Nat.le_of_ble_eq_true rfl, Nat.le_of_ble_eq_true rfl⟩), hts _ gm_713, hts _ gm_714⟩ (gs_preV hK hov hE hAp.1 hW.1 hmX hS hA 0 0 (by decide) rfl rfl) rfl rfl hl.1 rfl (lv_room (Nat.le_of_ble_eq_true rfl)) dL_law_938 ⟨(by show cells ≤ 601024; omega), (by show slots ≤ 7293034; omega)⟩) hAp hmX hW hS hA (fun r_3 st_3 H locs hw_3 hW hS => ?_)
  obtain ⟨n_3, hw_3⟩ := hw_3
  refine lv_pop hx hb dL_law_941 rfl ?_
  refine lv_aload_n hx hb dL_law_942 rfl (lv_at hl 2 rfl) ?_
  refine lv_aload_n hx hb dL_law_943 rfl (lv_at hl 4 rfl) ?_
  refine lv_iload hx hb dL_law_944 (lv_at hl 0 rfl) ?_
  refine lv_iconst (v := 1) hx hb dL_law_946 (by decide) ?_
  refine lv_iadd hx hb dL_law_947 ?_
  refine va_sld hx hb hX hbl hbA hS (vp_in_iff.mpr ⟨by omega, by omega⟩) dL_law_948 ?_
  refine lv_topi (fun x_4 ex_4 => ?_)
  have ex_4 : x_1 = x_4 := ex_1.trans ex_4.symm
  subst ex_4
  refine lv_aload_n hx hb dL_law_949 rfl (lv_at hl 4 rfl) ?_
  refine lv_iload hx hb dL_law_950 (lv_at hl 0 rfl) ?_
  refine lv_iconst (v := 2) hx hb dL_law_952 (by decide) ?_
  refine lv_iadd hx hb dL_law_953 ?_
  refine va_sld hx hb hX hbl hbA hS (vp_in_iff.mpr ⟨by omega, by omega⟩) dL_law_954 ?_
  refine lv_topi (fun x_5 ex_5 => ?_)
  have ex_5 : x_2 = x_5 := ex_2.trans ex_5.symm
  subst ex_5
  refine gw_callM (va_runV (As := [.int x_1, .int x_2]) (rest := []) ⟨hx, hb, hml, hown, hts⟩ (m_step l G cy sK sV aM H.size sm hIM x_1 x_2 x_1.toInt x_2.toInt rfl rfl ) ⟨(gz_cb (n := 2) hts gm_1289 gm_12 gm_1292 ⟨by decide +kernel, by decide +kernel, by decide +kernel⟩ ⟨Nat.le_of_ble_eq_true rfl, Nat.le_of_ble_eq_true rfl⟩), hts _ gm_1290, hts _ gm_1291⟩ (gs_preV hK hov hE hAp.2.1 hW.2.1 hmM hS hA 0 0 (by decide) rfl rfl) rfl rfl hl.1 rfl (lv_room (Nat.le_of_ble_eq_true rfl)) dL_law_955 ⟨(by show cells ≤ 601024; omega), (by show slots ≤ 7293034; omega)⟩) hAp hmM hW hS hA (fun r_6 st_6 H locs hw_6 hW hS => ?_)
  obtain ⟨n_6, hw_6⟩ := hw_6
  have hRel := rel_step (rX := r_3) (rM := r_6) (x := x_1) (y := x_2) hRel hBX hIM n_3 n_6  hw_3 hw_6
  have hBX := n_3.1
  have hIM := mInv.keep n_6 hIM
  refine lv_pop hx hb dL_law_958 rfl ?_
  refine lv_goto (tgt := 1000) hx hb dL_law_959 (by decide) ?_
  exact hnext st_3 st_6 f H _ ls (cells) (slots) hBX hIM hRel (by omega) (by omega) hW hS (lv_sub hl [0, 1, 2, 3, 4] rfl)

set_option maxHeartbeats 4000000 in
set_option maxRecDepth 100000 in
theorem law_c20 {p : Program} {e : Env} {s : State} {m : MethodId} {below : List Frame} {meth : Method} {c : Code} (l : Launch) (hlt : l.stackTraces = false) {b L : Nat} {xs : Nat → Int32} (C0 : lw_At p s m meth c b L xs) (G : va_G) (cy : Nat → ClassId) (sK sV : Nat → Nat) (hK : va_K G vwCl (gzK cy) s) (hov : gOv s) (A : Nat → Prop) (hA : ∀ q, s.heap.size ≤ q → A q) (hAn : ∀ q, A q → s.heap.size ≤ q) (hE : gE sK sV A s s.heap) (aX aM : Nat → Nat → Nat) (o : Nat) (hAp : gAp aX aM o) (hmX : ∀ k i, i < cnX k → A (aX k i)) (hmM : ∀ k i, i < cnM k → A (aM k i)) (hAo : A o) (sx sm : gS) (f : Nat → Int64) (hBX : gBd bX sx) (hIM : mInv sm) (hRel : lRel sx sm) (iv : Int32) (hi0 : 0 ≤ iv.toInt) (hi1 : iv.toInt + 6 ≤ (L : Int)) (hLb : L ≤ 3072) (cells slots : Nat) (hcl : cells + 1 ≤ 601024) (hsl : slots + 6 ≤ 7293034) (H : Heap) (locs : List Loc) (ls : Array Slot) (hW : gWd G cy aX aM o sx sm f H) (hS : va_S A s.heap H locs) (hl : lv_has ls 7 [(4, .int iv), (3, .ref o), (2, .ref (aM 0 0)), (1, .ref (aX 0 0)), (0, .ref b)]) (hnext : (∀ (sx sm : gS) (f : Nat → Int64) (H : Heap) (locs : List Loc) (ls : Array Slot) (cells1 slots1 : Nat), gBd bX sx → mInv sm → lRel sx sm → cells1 ≤ cells + 1 → slots1 ≤ slots + 6 → gWd G cy aX aM o sx sm f H → va_S A s.heap H locs → lv_has ls 7 [(4, .int iv), (3, .ref o), (2, .ref (aM 0 0)), (1, .ref (aX 0 0)), (0, .ref b)] → W p l e room_1 s m #[Value.ref b] below meth c H locs cells1 slots1 (lw_Z below #[Value.ref b] s) (F0 m 1000 ls []))) : W p l e room_1 s m #[Value.ref b] below meth c H locs cells slots (lw_Z below #[Value.ref b] s) (F0 m 962 ls []) := by
  obtain ⟨hx, hb, hr, hml, hown, hts0, hX, hbl, hlocks, hgv⟩ := id C0
  have hts : ∀ w ∈ gz_T, w.before #[Value.ref b] s = true := fun w h => hts0 w (List.mem_filter.mp h).1
  have hown : s.vm.findClass RL = some m.cls := hown
  have hbA : ¬ A b := fun q => Nat.not_le.mpr hbl (hAn b q)
  have t1 : (iv + 1).toInt = iv.toInt + 1 := gz_addP rfl (by decide) (by omega) (by omega)
  have t2 : (iv + 2).toInt = iv.toInt + 2 := gz_addP rfl (by decide) (by omega) (by omega)
  have t3 : (iv + 3).toInt = iv.toInt + 3 := gz_addP rfl (by decide) (by omega) (by omega)
  have t4 : (iv + 4).toInt = iv.toInt + 4 := gz_addP rfl (by decide) (by omega) (by omega)
  have t5 : (iv + 5).toInt = iv.toInt + 5 := gz_addP rfl (by decide) (by omega) (by omega)
  obtain ⟨rs, hLa, hLM, hru, hwf, hun⟩ := hRel.law
  have bk28 : (0 : Int) ≤ (sm 0 0 28).toInt ∧ (sm 0 0 28).toInt ≤ (1 : Int) := hIM 0 0 28
  have hbk : (sm 0 0 28).toInt = (((sm 0 0 28).toNatClampNeg : Nat) : Int) := (gs_cl bk28.1).symm
  refine lv_aload_n hx hb dL_law_962 rfl (lv_at hl 3 rfl) ?_
  refine gw_callX (va_runV (As := []) (rest := []) ⟨hx, hb, hml, hown, hts⟩ (s_far l G cy sK sV aX H.size sx hBX  ) ⟨(gz_cb (n := 0) hts gm_721 gm_1 gm_724 ⟨by decide +kernel, by decide +kernel, by decide +kernel⟩ ⟨Nat.le_of_ble_eq_true rfl, Nat.le_of_ble_eq_true rfl⟩), hts _ gm_722, hts _ gm_723⟩ (gs_preV hK hov hE hAp.1 hW.1 hmX hS hA 0 0 (by decide) rfl rfl) rfl rfl hl.1 rfl (lv_room (Nat.le_of_ble_eq_true rfl)) dL_law_963 ⟨(by show cells ≤ 601024; omega), (by show slots ≤ 7293034; omega)⟩) hAp hmX hW hS hA (fun r_1 st_1 H locs hw_1 hW hS => ?_)
  obtain ⟨n_1, hw_1⟩ := hw_1
  refine lv_pop hx hb dL_law_966 rfl ?_
  refine lv_aload_n hx hb dL_law_967 rfl (lv_at hl 2 rfl) ?_
  refine gw_callM (va_runV (As := []) (rest := []) ⟨hx, hb, hml, hown, hts⟩ (m_far l G cy sK sV aM H.size sm hIM  ) ⟨(gz_cb (n := 0) hts gm_1293 gm_12 gm_1296 ⟨by decide +kernel, by decide +kernel, by decide +kernel⟩ ⟨Nat.le_of_ble_eq_true rfl, Nat.le_of_ble_eq_true rfl⟩), hts _ gm_1294, hts _ gm_1295⟩ (gs_preV hK hov hE hAp.2.1 hW.2.1 hmM hS hA 0 0 (by decide) rfl rfl) rfl rfl hl.1 rfl (lv_room (Nat.le_of_ble_eq_true rfl)) dL_law_968 ⟨(by show cells ≤ 601024; omega), (by show slots ≤ 7293034; omega)⟩) hAp hmM hW hS hA (fun r_2 st_2 H locs hw_2 hW hS => ?_)
  obtain ⟨n_2, hw_2⟩ := hw_2
  have hRel := rel_far (rX := r_1) (rM := r_2)  hRel hBX hIM n_1 n_2  hw_1 hw_2
  have hBX := n_1.1
  have hIM := mInv.keep n_2 hIM
  refine lv_pop hx hb dL_law_971 rfl ?_
  refine lv_goto (tgt := 1000) hx hb dL_law_972 (by decide) ?_
  exact hnext st_1 st_2 f H _ ls (cells) (slots) hBX hIM hRel (by omega) (by omega) hW hS (lv_sub hl [0, 1, 2, 3, 4] rfl)

set_option maxHeartbeats 4000000 in
set_option maxRecDepth 100000 in
theorem law_c21 {p : Program} {e : Env} {s : State} {m : MethodId} {below : List Frame} {meth : Method} {c : Code} (l : Launch) (hlt : l.stackTraces = false) {b L : Nat} {xs : Nat → Int32} (C0 : lw_At p s m meth c b L xs) (G : va_G) (cy : Nat → ClassId) (sK sV : Nat → Nat) (hK : va_K G vwCl (gzK cy) s) (hov : gOv s) (A : Nat → Prop) (hA : ∀ q, s.heap.size ≤ q → A q) (hAn : ∀ q, A q → s.heap.size ≤ q) (hE : gE sK sV A s s.heap) (aX aM : Nat → Nat → Nat) (o : Nat) (hAp : gAp aX aM o) (hmX : ∀ k i, i < cnX k → A (aX k i)) (hmM : ∀ k i, i < cnM k → A (aM k i)) (hAo : A o) (sx sm : gS) (f : Nat → Int64) (hBX : gBd bX sx) (hIM : mInv sm) (hRel : lRel sx sm) (iv : Int32) (hi0 : 0 ≤ iv.toInt) (hi1 : iv.toInt + 6 ≤ (L : Int)) (hLb : L ≤ 3072) (cells slots : Nat) (hcl : cells + 1 ≤ 601024) (hsl : slots + 6 ≤ 7293034) (H : Heap) (locs : List Loc) (ls : Array Slot) (hW : gWd G cy aX aM o sx sm f H) (hS : va_S A s.heap H locs) (hl : lv_has ls 7 [(4, .int iv), (3, .ref o), (2, .ref (aM 0 0)), (1, .ref (aX 0 0)), (0, .ref b)]) (hnext : (∀ (sx sm : gS) (f : Nat → Int64) (H : Heap) (locs : List Loc) (ls : Array Slot) (cells1 slots1 : Nat), gBd bX sx → mInv sm → lRel sx sm → cells1 ≤ cells + 1 → slots1 ≤ slots + 6 → gWd G cy aX aM o sx sm f H → va_S A s.heap H locs → lv_has ls 7 [(4, .int iv), (3, .ref o), (2, .ref (aM 0 0)), (1, .ref (aX 0 0)), (0, .ref b)] → W p l e room_1 s m #[Value.ref b] below meth c H locs cells1 slots1 (lw_Z below #[Value.ref b] s) (F0 m 1000 ls []))) : W p l e room_1 s m #[Value.ref b] below meth c H locs cells slots (lw_Z below #[Value.ref b] s) (F0 m 975 ls []) := by
  obtain ⟨hx, hb, hr, hml, hown, hts0, hX, hbl, hlocks, hgv⟩ := id C0
  have hts : ∀ w ∈ gz_T, w.before #[Value.ref b] s = true := fun w h => hts0 w (List.mem_filter.mp h).1
  have hown : s.vm.findClass RL = some m.cls := hown
  have hbA : ¬ A b := fun q => Nat.not_le.mpr hbl (hAn b q)
  have t1 : (iv + 1).toInt = iv.toInt + 1 := gz_addP rfl (by decide) (by omega) (by omega)
  have t2 : (iv + 2).toInt = iv.toInt + 2 := gz_addP rfl (by decide) (by omega) (by omega)
  have t3 : (iv + 3).toInt = iv.toInt + 3 := gz_addP rfl (by decide) (by omega) (by omega)
  have t4 : (iv + 4).toInt = iv.toInt + 4 := gz_addP rfl (by decide) (by omega) (by omega)
  have t5 : (iv + 5).toInt = iv.toInt + 5 := gz_addP rfl (by decide) (by omega) (by omega)
  obtain ⟨rs, hLa, hLM, hru, hwf, hun⟩ := hRel.law
  have bk28 : (0 : Int) ≤ (sm 0 0 28).toInt ∧ (sm 0 0 28).toInt ≤ (1 : Int) := hIM 0 0 28
  have hbk : (sm 0 0 28).toInt = (((sm 0 0 28).toNatClampNeg : Nat) : Int) := (gs_cl bk28.1).symm
  refine lv_aload_n hx hb dL_law_975 rfl (lv_at hl 3 rfl) ?_
  refine lv_aload_n hx hb dL_law_976 rfl (lv_at hl 4 rfl) ?_
  refine lv_iload hx hb dL_law_977 (lv_at hl 0 rfl) ?_
  refine lv_iconst (v := 1) hx hb dL_law_979 (by decide) ?_
  refine lv_iadd hx hb dL_law_980 ?_
  refine va_sld hx hb hX hbl hbA hS (vp_in_iff.mpr ⟨by omega, by omega⟩) dL_law_981 ?_
  refine lv_topi (fun x_1 ex_1 => ?_)
  refine gw_callX (va_runV (As := [.int x_1]) (rest := []) ⟨hx, hb, hml, hown, hts⟩ (s_count l G cy sK sV aX H.size sx hBX x_1 x_1.toInt rfl ) ⟨(gz_cb (n := 1) hts gm_725 gm_1 gm_728 ⟨by decide +kernel, by decide +kernel, by decide +kernel⟩ ⟨Nat.le_of_ble_eq_true rfl, Nat.le_of_ble_eq_true rfl⟩), hts _ gm_726, hts _ gm_727⟩ (gs_preV hK hov hE hAp.1 hW.1 hmX hS hA 0 0 (by decide) rfl rfl) rfl rfl hl.1 rfl (lv_room (Nat.le_of_ble_eq_true rfl)) dL_law_982 ⟨(by show cells ≤ 601024; omega), (by show slots ≤ 7293034; omega)⟩) hAp hmX hW hS hA (fun r_2 st_2 H locs hw_2 hW hS => ?_)
  obtain ⟨n_2, hw_2⟩ := hw_2
  refine lv_pop hx hb dL_law_985 rfl ?_
  refine lv_aload_n hx hb dL_law_986 rfl (lv_at hl 2 rfl) ?_
  refine lv_aload_n hx hb dL_law_987 rfl (lv_at hl 4 rfl) ?_
  refine lv_iload hx hb dL_law_988 (lv_at hl 0 rfl) ?_
  refine lv_iconst (v := 1) hx hb dL_law_990 (by decide) ?_
  refine lv_iadd hx hb dL_law_991 ?_
  refine va_sld hx hb hX hbl hbA hS (vp_in_iff.mpr ⟨by omega, by omega⟩) dL_law_992 ?_
  refine lv_topi (fun x_3 ex_3 => ?_)
  have ex_3 : x_1 = x_3 := ex_1.trans ex_3.symm
  subst ex_3
  refine gw_callM (va_runV (As := [.int x_1]) (rest := []) ⟨hx, hb, hml, hown, hts⟩ (m_count l G cy sK sV aM H.size sm hIM x_1 x_1.toInt rfl ) ⟨(gz_cb (n := 1) hts gm_1297 gm_12 gm_1300 ⟨by decide +kernel, by decide +kernel, by decide +kernel⟩ ⟨Nat.le_of_ble_eq_true rfl, Nat.le_of_ble_eq_true rfl⟩), hts _ gm_1298, hts _ gm_1299⟩ (gs_preV hK hov hE hAp.2.1 hW.2.1 hmM hS hA 0 0 (by decide) rfl rfl) rfl rfl hl.1 rfl (lv_room (Nat.le_of_ble_eq_true rfl)) dL_law_993 ⟨(by show cells ≤ 601024; omega), (by show slots ≤ 7293034; omega)⟩) hAp hmM hW hS hA (fun r_4 st_4 H locs hw_4 hW hS => ?_)
  obtain ⟨n_4, hw_4⟩ := hw_4
  have hRel := rel_count (rX := r_2) (rM := r_4) (x := x_1) hRel hBX hIM n_2 n_4  hw_2 hw_4
  have hBX := n_2.1
  have hIM := mInv.keep n_4 hIM
  refine lv_pop hx hb dL_law_996 rfl ?_
  refine lv_goto (tgt := 1000) hx hb dL_law_997 (by decide) ?_
  exact hnext st_2 st_4 f H _ ls (cells) (slots) hBX hIM hRel (by omega) (by omega) hW hS (lv_sub hl [0, 1, 2, 3, 4] rfl)
