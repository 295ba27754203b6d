theorem tb_768 : (Jvm.Cond.methodLink "FearLocksLaw" (44 : Nat) ({ cls := "FearLocks", name := "doorIs", desc := "(II)I" } : Jvm.MethodName)) ∈ fx_TB := fx_mem 864 (by decide +kernel) rfl
theorem tb_769 : (Jvm.Cond.instanceMethod ({ cls := "FearLocks", name := "doorIs", desc := "(II)I" } : Jvm.MethodName)) ∈ fx_TB := fx_mem 865 (by decide +kernel) rfl
theorem tb_770 : (Jvm.Cond.selects "FearLocks" ({ cls := "FearLocks", name := "doorIs", desc := "(II)I" } : Jvm.MethodName) ({ cls := "FearLocks", name := "doorIs", desc := "(II)I" } : Jvm.MethodName)) ∈ fx_TB := fx_mem 866 (by decide +kernel) rfl
theorem tb_771 : (Jvm.Cond.code ({ cls := "FearLocks", name := "doorIs", desc := "(II)I" } : Jvm.MethodName) prog_1_method_10_code (3 : Nat) (Option.some Jvm.ClassFile.FieldType.int)) ∈ fx_TB := fx_mem 867 (by decide +kernel) rfl
theorem tb_772 : (Jvm.Cond.methodLink "FearLocks" (166 : Nat) ({ cls := "FearLocks$City", name := "openersOf", desc := "(I)I" } : Jvm.MethodName)) ∈ fx_TB := fx_mem 868 (by decide +kernel) rfl
theorem tb_773 : (Jvm.Cond.instanceMethod ({ cls := "FearLocks$City", name := "openersOf", desc := "(I)I" } : Jvm.MethodName)) ∈ fx_TB := fx_mem 869 (by decide +kernel) rfl
theorem tb_774 : (Jvm.Cond.selects "FearLocks$City" ({ cls := "FearLocks$City", name := "openersOf", desc := "(I)I" } : Jvm.MethodName) ({ cls := "FearLocks$City", name := "openersOf", desc := "(I)I" } : Jvm.MethodName)) ∈ fx_TB := fx_mem 870 (by decide +kernel) rfl
theorem tb_775 : (Jvm.Cond.code ({ cls := "FearLocks$City", name := "openersOf", desc := "(I)I" } : Jvm.MethodName) prog_2_method_20_code (4 : Nat) (Option.some Jvm.ClassFile.FieldType.int)) ∈ fx_TB := fx_mem 871 (by decide +kernel) rfl
theorem tb_776 : (Jvm.Cond.methodLink "FearLocksLaw" (48 : Nat) ({ cls := "FearLocks", name := "taught", desc := "(II)I" } : Jvm.MethodName)) ∈ fx_TB := fx_mem 872 (by decide +kernel) rfl
theorem tb_777 : (Jvm.Cond.instanceMethod ({ cls := "FearLocks", name := "taught", desc := "(II)I" } : Jvm.MethodName)) ∈ fx_TB := fx_mem 873 (by decide +kernel) rfl
theorem tb_778 : (Jvm.Cond.selects "FearLocks" ({ cls := "FearLocks", name := "taught", desc := "(II)I" } : Jvm.MethodName) ({ cls := "FearLocks", name := "taught", desc := "(II)I" } : Jvm.MethodName)) ∈ fx_TB := fx_mem 874 (by decide +kernel) rfl
theorem tb_779 : (Jvm.Cond.code ({ cls := "FearLocks", name := "taught", desc := "(II)I" } : Jvm.MethodName) prog_1_method_11_code (3 : Nat) (Option.some Jvm.ClassFile.FieldType.int)) ∈ fx_TB := fx_mem 875 (by decide +kernel) rfl
theorem tb_780 : (Jvm.Cond.methodLink "FearLocks" (169 : Nat) ({ cls := "FearLocks$Keys", name := "lessons", desc := "(LFearLocks$City;II)I" } : Jvm.MethodName)) ∈ fx_TB := fx_mem 876 (by decide +kernel) rfl
theorem tb_781 : (Jvm.Cond.static ({ cls := "FearLocks$Keys", name := "lessons", desc := "(LFearLocks$City;II)I" } : Jvm.MethodName)) ∈ fx_TB := fx_mem 877 (by decide +kernel) rfl
theorem tb_782 : (Jvm.Cond.code ({ cls := "FearLocks$Keys", name := "lessons", desc := "(LFearLocks$City;II)I" } : Jvm.MethodName) prog_5_method_2_code (8 : Nat) (Option.some Jvm.ClassFile.FieldType.int)) ∈ fx_TB := fx_mem 878 (by decide +kernel) rfl
theorem tb_783 : (Jvm.Cond.methodLink "FearLocks$Keys" (15 : Nat) ({ cls := "FearLocks$City", name := "isDoor", desc := "(I)Z" } : Jvm.MethodName)) ∈ fx_TB := fx_mem 879 (by decide +kernel) rfl
theorem tb_784 : (Jvm.Cond.methodLink "FearLocks$Keys" (27 : Nat) ({ cls := "java/lang/Math", name := "max", desc := "(II)I" } : Jvm.MethodName)) ∈ fx_TB := fx_mem 880 (by decide +kernel) rfl
theorem tb_785 : (Jvm.Cond.methodLink "FearLocks$Keys" (33 : Nat) ({ cls := "FearLocks$City", name := "dreadOf", desc := "(II)I" } : Jvm.MethodName)) ∈ fx_TB := fx_mem 881 (by decide +kernel) rfl
theorem tb_786 : (Jvm.Cond.methodLink "FearLocks$Keys" (36 : Nat) ({ cls := "java/lang/Math", name := "abs", desc := "(I)I" } : Jvm.MethodName)) ∈ fx_TB := fx_mem 882 (by decide +kernel) rfl
theorem tb_787 : (Jvm.Cond.static ({ cls := "java/lang/Math", name := "abs", desc := "(I)I" } : Jvm.MethodName)) ∈ fx_TB := fx_mem 883 (by decide +kernel) rfl
theorem tb_788 : (Jvm.Cond.code ({ cls := "java/lang/Math", name := "abs", desc := "(I)I" } : Jvm.MethodName) prog_17_method_59_code (1 : Nat) (Option.some Jvm.ClassFile.FieldType.int)) ∈ fx_TB := fx_mem 884 (by decide +kernel) rfl
theorem tb_789 : (Jvm.Cond.methodLink "FearLocks$Keys" (40 : Nat) ({ cls := "java/lang/Math", name := "min", desc := "(II)I" } : Jvm.MethodName)) ∈ fx_TB := fx_mem 885 (by decide +kernel) rfl
theorem tb_790 : (Jvm.Cond.methodLink "FearLocksLaw" (52 : Nat) ({ cls := "FearLocks", name := "crew", desc := "(I)I" } : Jvm.MethodName)) ∈ fx_TB := fx_mem 886 (by decide +kernel) rfl
theorem tb_791 : (Jvm.Cond.instanceMethod ({ cls := "FearLocks", name := "crew", desc := "(I)I" } : Jvm.MethodName)) ∈ fx_TB := fx_mem 887 (by decide +kernel) rfl
theorem tb_792 : (Jvm.Cond.selects "FearLocks" ({ cls := "FearLocks", name := "crew", desc := "(I)I" } : Jvm.MethodName) ({ cls := "FearLocks", name := "crew", desc := "(I)I" } : Jvm.MethodName)) ∈ fx_TB := fx_mem 888 (by decide +kernel) rfl
theorem tb_793 : (Jvm.Cond.code ({ cls := "FearLocks", name := "crew", desc := "(I)I" } : Jvm.MethodName) prog_1_method_12_code (3 : Nat) (Option.some Jvm.ClassFile.FieldType.int)) ∈ fx_TB := fx_mem 889 (by decide +kernel) rfl
theorem tb_794 : (Jvm.Cond.methodLink "FearLocks" (173 : Nat) ({ cls := "FearLocks$Keys", name := "fewestForAllDoors", desc := "(LFearLocks$City;)I" } : Jvm.MethodName)) ∈ fx_TB := fx_mem 890 (by decide +kernel) rfl
theorem tb_795 : (Jvm.Cond.instanceMethod ({ cls := "FearLocks$Keys", name := "fewestForAllDoors", desc := "(LFearLocks$City;)I" } : Jvm.MethodName)) ∈ fx_TB := fx_mem 891 (by decide +kernel) rfl
theorem tb_796 : (Jvm.Cond.selects "FearLocks$Keys" ({ cls := "FearLocks$Keys", name := "fewestForAllDoors", desc := "(LFearLocks$City;)I" } : Jvm.MethodName) ({ cls := "FearLocks$Keys", name := "fewestForAllDoors", desc := "(LFearLocks$City;)I" } : Jvm.MethodName)) ∈ fx_TB := fx_mem 892 (by decide +kernel) rfl
theorem tb_797 : (Jvm.Cond.code ({ cls := "FearLocks$Keys", name := "fewestForAllDoors", desc := "(LFearLocks$City;)I" } : Jvm.MethodName) prog_5_method_3_code (6 : Nat) (Option.some Jvm.ClassFile.FieldType.int)) ∈ fx_TB := fx_mem 893 (by decide +kernel) rfl
theorem tb_798 : (Jvm.Cond.methodLink "FearLocks$Keys" (43 : Nat) ({ cls := "FearLocks$City", name := "doorsOpenTo", desc := "(I)I" } : Jvm.MethodName)) ∈ fx_TB := fx_mem 894 (by decide +kernel) rfl
theorem tb_799 : (Jvm.Cond.methodLink "FearLocks$Keys" (46 : Nat) ({ cls := "java/lang/Integer", name := "bitCount", desc := "(I)I" } : Jvm.MethodName)) ∈ fx_TB := fx_mem 895 (by decide +kernel) rfl
theorem tb_800 : (Jvm.Cond.methodLink "FearLocks$Keys" (51 : Nat) ({ cls := "FearLocks$Keys", name := "openedBy", desc := "(I)I" } : Jvm.MethodName)) ∈ fx_TB := fx_mem 896 (by decide +kernel) rfl
theorem tb_801 : (Jvm.Cond.privateMethod ({ cls := "FearLocks$Keys", name := "openedBy", desc := "(I)I" } : Jvm.MethodName)) ∈ fx_TB := fx_mem 897 (by decide +kernel) rfl
theorem tb_802 : (Jvm.Cond.instanceMethod ({ cls := "FearLocks$Keys", name := "openedBy", desc := "(I)I" } : Jvm.MethodName)) ∈ fx_TB := fx_mem 898 (by decide +kernel) rfl
theorem tb_803 : (Jvm.Cond.code ({ cls := "FearLocks$Keys", name := "openedBy", desc := "(I)I" } : Jvm.MethodName) prog_5_method_4_code (4 : Nat) (Option.some Jvm.ClassFile.FieldType.int)) ∈ fx_TB := fx_mem 899 (by decide +kernel) rfl
theorem tb_804 : (Jvm.Cond.methodLinkNest "FearLocks$Keys" (58 : Nat) ({ cls := "FearLocks", name := "has", desc := "(II)Z" } : Jvm.MethodName) "FearLocks") ∈ fx_TB := fx_mem 900 (by decide +kernel) rfl
theorem tb_805 : (Jvm.Cond.methodLink "FearLocks" (177 : Nat) ({ cls := "java/lang/Integer", name := "bitCount", desc := "(I)I" } : Jvm.MethodName)) ∈ fx_TB := fx_mem 901 (by decide +kernel) rfl
theorem tb_806 : (Jvm.Cond.methodLink "FearLocksLaw" (56 : Nat) ({ cls := "FearLocks", name := "lodgings", desc := "()I" } : Jvm.MethodName)) ∈ fx_TB := fx_mem 902 (by decide +kernel) rfl
theorem tb_807 : (Jvm.Cond.instanceMethod ({ cls := "FearLocks", name := "lodgings", desc := "()I" } : Jvm.MethodName)) ∈ fx_TB := fx_mem 903 (by decide +kernel) rfl
theorem tb_808 : (Jvm.Cond.selects "FearLocks" ({ cls := "FearLocks", name := "lodgings", desc := "()I" } : Jvm.MethodName) ({ cls := "FearLocks", name := "lodgings", desc := "()I" } : Jvm.MethodName)) ∈ fx_TB := fx_mem 904 (by decide +kernel) rfl
theorem tb_809 : (Jvm.Cond.code ({ cls := "FearLocks", name := "lodgings", desc := "()I" } : Jvm.MethodName) prog_1_method_13_code (1 : Nat) (Option.some Jvm.ClassFile.FieldType.int)) ∈ fx_TB := fx_mem 905 (by decide +kernel) rfl
theorem tb_810 : (Jvm.Cond.methodLink "FearLocks" (182 : Nat) ({ cls := "FearLocks$Keys", name := "mostLet", desc := "(LFearLocks$City;)I" } : Jvm.MethodName)) ∈ fx_TB := fx_mem 906 (by decide +kernel) rfl
theorem tb_811 : (Jvm.Cond.static ({ cls := "FearLocks$Keys", name := "mostLet", desc := "(LFearLocks$City;)I" } : Jvm.MethodName)) ∈ fx_TB := fx_mem 907 (by decide +kernel) rfl
theorem tb_812 : (Jvm.Cond.code ({ cls := "FearLocks$Keys", name := "mostLet", desc := "(LFearLocks$City;)I" } : Jvm.MethodName) prog_5_method_5_code (5 : Nat) (Option.some Jvm.ClassFile.FieldType.int)) ∈ fx_TB := fx_mem 908 (by decide +kernel) rfl
theorem tb_813 : (Jvm.Cond.methodLink "FearLocks$Keys" (62 : Nat) ({ cls := "FearLocks$City", name := "openersOf", desc := "(I)I" } : Jvm.MethodName)) ∈ fx_TB := fx_mem 909 (by decide +kernel) rfl
theorem tb_814 : (Jvm.Cond.methodLink "FearLocksLaw" (61 : Nat) ({ cls := "FearLocks", name := "couples", desc := "(I)I" } : Jvm.MethodName)) ∈ fx_TB := fx_mem 910 (by decide +kernel) rfl
theorem tb_815 : (Jvm.Cond.instanceMethod ({ cls := "FearLocks", name := "couples", desc := "(I)I" } : Jvm.MethodName)) ∈ fx_TB := fx_mem 911 (by decide +kernel) rfl
theorem tb_816 : (Jvm.Cond.selects "FearLocks" ({ cls := "FearLocks", name := "couples", desc := "(I)I" } : Jvm.MethodName) ({ cls := "FearLocks", name := "couples", desc := "(I)I" } : Jvm.MethodName)) ∈ fx_TB := fx_mem 912 (by decide +kernel) rfl
theorem tb_817 : (Jvm.Cond.code ({ cls := "FearLocks", name := "couples", desc := "(I)I" } : Jvm.MethodName) prog_1_method_14_code (2 : Nat) (Option.some Jvm.ClassFile.FieldType.int)) ∈ fx_TB := fx_mem 913 (by decide +kernel) rfl
theorem tb_818 : (Jvm.Cond.methodLink "FearLocks" (185 : Nat) ({ cls := "FearLocks$Company", name := "mostCouples", desc := "(LFearLocks$City;I)I" } : Jvm.MethodName)) ∈ fx_TB := fx_mem 914 (by decide +kernel) rfl
theorem tb_819 : (Jvm.Cond.instanceMethod ({ cls := "FearLocks$Company", name := "mostCouples", desc := "(LFearLocks$City;I)I" } : Jvm.MethodName)) ∈ fx_TB := fx_mem 915 (by decide +kernel) rfl
theorem tb_820 : (Jvm.Cond.selects "FearLocks$Company" ({ cls := "FearLocks$Company", name := "mostCouples", desc := "(LFearLocks$City;I)I" } : Jvm.MethodName) ({ cls := "FearLocks$Company", name := "mostCouples", desc := "(LFearLocks$City;I)I" } : Jvm.MethodName)) ∈ fx_TB := fx_mem 916 (by decide +kernel) rfl
theorem tb_821 : (Jvm.Cond.code ({ cls := "FearLocks$Company", name := "mostCouples", desc := "(LFearLocks$City;I)I" } : Jvm.MethodName) prog_3_method_12_code (5 : Nat) (Option.some Jvm.ClassFile.FieldType.int)) ∈ fx_TB := fx_mem 917 (by decide +kernel) rfl
theorem tb_822 : (Jvm.Cond.methodLink "FearLocks$Company" (68 : Nat) ({ cls := "FearLocks$Company", name := "linkFellows", desc := "(LFearLocks$City;I)V" } : Jvm.MethodName)) ∈ fx_TB := fx_mem 918 (by decide +kernel) rfl
theorem tb_823 : (Jvm.Cond.privateMethod ({ cls := "FearLocks$Company", name := "linkFellows", desc := "(LFearLocks$City;I)V" } : Jvm.MethodName)) ∈ fx_TB := fx_mem 919 (by decide +kernel) rfl
theorem tb_824 : (Jvm.Cond.instanceMethod ({ cls := "FearLocks$Company", name := "linkFellows", desc := "(LFearLocks$City;I)V" } : Jvm.MethodName)) ∈ fx_TB := fx_mem 920 (by decide +kernel) rfl
theorem tb_825 : (Jvm.Cond.code ({ cls := "FearLocks$Company", name := "linkFellows", desc := "(LFearLocks$City;I)V" } : Jvm.MethodName) prog_3_method_13_code (5 : Nat) (Option.none : Option Jvm.ClassFile.FieldType)) ∈ fx_TB := fx_mem 921 (by decide +kernel) rfl
theorem tb_826 : (Jvm.Cond.methodLink "FearLocks$Company" (75 : Nat) ({ cls := "FearLocks$City", name := "fearsFrom", desc := "(II)I" } : Jvm.MethodName)) ∈ fx_TB := fx_mem 922 (by decide +kernel) rfl
theorem tb_827 : (Jvm.Cond.instanceMethod ({ cls := "FearLocks$City", name := "fearsFrom", desc := "(II)I" } : Jvm.MethodName)) ∈ fx_TB := fx_mem 923 (by decide +kernel) rfl
theorem tb_828 : (Jvm.Cond.selects "FearLocks$City" ({ cls := "FearLocks$City", name := "fearsFrom", desc := "(II)I" } : Jvm.MethodName) ({ cls := "FearLocks$City", name := "fearsFrom", desc := "(II)I" } : Jvm.MethodName)) ∈ fx_TB := fx_mem 924 (by decide +kernel) rfl
theorem tb_829 : (Jvm.Cond.code ({ cls := "FearLocks$City", name := "fearsFrom", desc := "(II)I" } : Jvm.MethodName) prog_2_method_12_code (5 : Nat) (Option.some Jvm.ClassFile.FieldType.int)) ∈ fx_TB := fx_mem 925 (by decide +kernel) rfl
theorem tb_830 : (Jvm.Cond.methodLink "FearLocks$Company" (72 : Nat) ({ cls := "FearLocks$Company", name := "mostWith", desc := "(II)I" } : Jvm.MethodName)) ∈ fx_TB := fx_mem 926 (by decide +kernel) rfl
theorem tb_831 : (Jvm.Cond.privateMethod ({ cls := "FearLocks$Company", name := "mostWith", desc := "(II)I" } : Jvm.MethodName)) ∈ fx_TB := fx_mem 927 (by decide +kernel) rfl
theorem tb_832 : (Jvm.Cond.instanceMethod ({ cls := "FearLocks$Company", name := "mostWith", desc := "(II)I" } : Jvm.MethodName)) ∈ fx_TB := fx_mem 928 (by decide +kernel) rfl
theorem tb_833 : (Jvm.Cond.code ({ cls := "FearLocks$Company", name := "mostWith", desc := "(II)I" } : Jvm.MethodName) prog_3_method_14_code (5 : Nat) (Option.some Jvm.ClassFile.FieldType.int)) ∈ fx_TB := fx_mem 929 (by decide +kernel) rfl
theorem tb_834 : (Jvm.Cond.methodLinkNest "FearLocks$Company" (18 : Nat) ({ cls := "FearLocks", name := "has", desc := "(II)Z" } : Jvm.MethodName) "FearLocks") ∈ fx_TB := fx_mem 930 (by decide +kernel) rfl
theorem tb_835 : (Jvm.Cond.methodLink "FearLocks$Company" (78 : Nat) ({ cls := "java/lang/Math", name := "max", desc := "(II)I" } : Jvm.MethodName)) ∈ fx_TB := fx_mem 931 (by decide +kernel) rfl
theorem tb_836 : (Jvm.Cond.methodLink "FearLocksLaw" (65 : Nat) ({ cls := "FearLocks", name := "fashion", desc := "(III)I" } : Jvm.MethodName)) ∈ fx_TB := fx_mem 932 (by decide +kernel) rfl
theorem tb_837 : (Jvm.Cond.instanceMethod ({ cls := "FearLocks", name := "fashion", desc := "(III)I" } : Jvm.MethodName)) ∈ fx_TB := fx_mem 933 (by decide +kernel) rfl
theorem tb_838 : (Jvm.Cond.selects "FearLocks" ({ cls := "FearLocks", name := "fashion", desc := "(III)I" } : Jvm.MethodName) ({ cls := "FearLocks", name := "fashion", desc := "(III)I" } : Jvm.MethodName)) ∈ fx_TB := fx_mem 934 (by decide +kernel) rfl
theorem tb_839 : (Jvm.Cond.code ({ cls := "FearLocks", name := "fashion", desc := "(III)I" } : Jvm.MethodName) prog_1_method_15_code (7 : Nat) (Option.some Jvm.ClassFile.FieldType.int)) ∈ fx_TB := fx_mem 935 (by decide +kernel) rfl
theorem tb_840 : (Jvm.Cond.methodLink "FearLocks" (189 : Nat) ({ cls := "FearLocks$City", name := "havingFear", desc := "(I)I" } : Jvm.MethodName)) ∈ fx_TB := fx_mem 936 (by decide +kernel) rfl
theorem tb_841 : (Jvm.Cond.instanceMethod ({ cls := "FearLocks$City", name := "havingFear", desc := "(I)I" } : Jvm.MethodName)) ∈ fx_TB := fx_mem 937 (by decide +kernel) rfl
theorem tb_842 : (Jvm.Cond.selects "FearLocks$City" ({ cls := "FearLocks$City", name := "havingFear", desc := "(I)I" } : Jvm.MethodName) ({ cls := "FearLocks$City", name := "havingFear", desc := "(I)I" } : Jvm.MethodName)) ∈ fx_TB := fx_mem 938 (by decide +kernel) rfl
theorem tb_843 : (Jvm.Cond.code ({ cls := "FearLocks$City", name := "havingFear", desc := "(I)I" } : Jvm.MethodName) prog_2_method_9_code (4 : Nat) (Option.some Jvm.ClassFile.FieldType.int)) ∈ fx_TB := fx_mem 939 (by decide +kernel) rfl
theorem tb_844 : (Jvm.Cond.methodLink "FearLocks" (192 : Nat) ({ cls := "FearLocks$Company", name := "grownFashion", desc := "(LFearLocks$City;II)I" } : Jvm.MethodName)) ∈ fx_TB := fx_mem 940 (by decide +kernel) rfl
theorem tb_845 : (Jvm.Cond.static ({ cls := "FearLocks$Company", name := "grownFashion", desc := "(LFearLocks$City;II)I" } : Jvm.MethodName)) ∈ fx_TB := fx_mem 941 (by decide +kernel) rfl
theorem tb_846 : (Jvm.Cond.code ({ cls := "FearLocks$Company", name := "grownFashion", desc := "(LFearLocks$City;II)I" } : Jvm.MethodName) prog_3_method_6_code (5 : Nat) (Option.some Jvm.ClassFile.FieldType.int)) ∈ fx_TB := fx_mem 942 (by decide +kernel) rfl
theorem tb_847 : (Jvm.Cond.methodLink "FearLocks$Company" (32 : Nat) ({ cls := "FearLocks$City", name := "knownTo", desc := "(I)I" } : Jvm.MethodName)) ∈ fx_TB := fx_mem 943 (by decide +kernel) rfl
theorem tb_848 : (Jvm.Cond.methodLink "FearLocks$Company" (43 : Nat) ({ cls := "java/lang/Integer", name := "bitCount", desc := "(I)I" } : Jvm.MethodName)) ∈ fx_TB := fx_mem 944 (by decide +kernel) rfl
theorem tb_849 : (Jvm.Cond.methodLink "FearLocksLaw" (70 : Nat) ({ cls := "FearLocks", name := "fears", desc := "(I)I" } : Jvm.MethodName)) ∈ fx_TB := fx_mem 945 (by decide +kernel) rfl
theorem tb_850 : (Jvm.Cond.instanceMethod ({ cls := "FearLocks", name := "fears", desc := "(I)I" } : Jvm.MethodName)) ∈ fx_TB := fx_mem 946 (by decide +kernel) rfl
theorem tb_851 : (Jvm.Cond.selects "FearLocks" ({ cls := "FearLocks", name := "fears", desc := "(I)I" } : Jvm.MethodName) ({ cls := "FearLocks", name := "fears", desc := "(I)I" } : Jvm.MethodName)) ∈ fx_TB := fx_mem 947 (by decide +kernel) rfl
theorem tb_852 : (Jvm.Cond.code ({ cls := "FearLocks", name := "fears", desc := "(I)I" } : Jvm.MethodName) prog_1_method_16_code (2 : Nat) (Option.some Jvm.ClassFile.FieldType.int)) ∈ fx_TB := fx_mem 948 (by decide +kernel) rfl
theorem tb_853 : (Jvm.Cond.methodLink "FearLocks" (195 : Nat) ({ cls := "FearLocks$City", name := "nobodysFears", desc := "()I" } : Jvm.MethodName)) ∈ fx_TB := fx_mem 949 (by decide +kernel) rfl
theorem tb_854 : (Jvm.Cond.instanceMethod ({ cls := "FearLocks$City", name := "nobodysFears", desc := "()I" } : Jvm.MethodName)) ∈ fx_TB := fx_mem 950 (by decide +kernel) rfl
theorem tb_855 : (Jvm.Cond.selects "FearLocks$City" ({ cls := "FearLocks$City", name := "nobodysFears", desc := "()I" } : Jvm.MethodName) ({ cls := "FearLocks$City", name := "nobodysFears", desc := "()I" } : Jvm.MethodName)) ∈ fx_TB := fx_mem 951 (by decide +kernel) rfl
theorem tb_856 : (Jvm.Cond.code ({ cls := "FearLocks$City", name := "nobodysFears", desc := "()I" } : Jvm.MethodName) prog_2_method_10_code (3 : Nat) (Option.some Jvm.ClassFile.FieldType.int)) ∈ fx_TB := fx_mem 952 (by decide +kernel) rfl
theorem tb_857 : (Jvm.Cond.constant "FearLocks$City" (66 : Nat) (65535 : Int32)) ∈ fx_TB := fx_mem 953 (by decide +kernel) rfl
theorem tb_858 : (Jvm.Cond.methodLink "FearLocks$City" (67 : Nat) ({ cls := "FearLocks$City", name := "fearsFrom", desc := "(II)I" } : Jvm.MethodName)) ∈ fx_TB := fx_mem 954 (by decide +kernel) rfl
theorem tb_859 : (Jvm.Cond.methodLink "FearLocks" (199 : Nat) ({ cls := "FearLocks$City", name := "allsFears", desc := "()I" } : Jvm.MethodName)) ∈ fx_TB := fx_mem 955 (by decide +kernel) rfl
theorem tb_860 : (Jvm.Cond.instanceMethod ({ cls := "FearLocks$City", name := "allsFears", desc := "()I" } : Jvm.MethodName)) ∈ fx_TB := fx_mem 956 (by decide +kernel) rfl
theorem tb_861 : (Jvm.Cond.selects "FearLocks$City" ({ cls := "FearLocks$City", name := "allsFears", desc := "()I" } : Jvm.MethodName) ({ cls := "FearLocks$City", name := "allsFears", desc := "()I" } : Jvm.MethodName)) ∈ fx_TB := fx_mem 957 (by decide +kernel) rfl
theorem tb_862 : (Jvm.Cond.code ({ cls := "FearLocks$City", name := "allsFears", desc := "()I" } : Jvm.MethodName) prog_2_method_11_code (3 : Nat) (Option.some Jvm.ClassFile.FieldType.int)) ∈ fx_TB := fx_mem 958 (by decide +kernel) rfl
theorem tb_863 : (Jvm.Cond.methodLink "FearLocksLaw" (74 : Nat) ({ cls := "FearLocks", name := "unlike", desc := "(II)I" } : Jvm.MethodName)) ∈ fx_TB := fx_mem 959 (by decide +kernel) rfl
theorem tb_864 : (Jvm.Cond.instanceMethod ({ cls := "FearLocks", name := "unlike", desc := "(II)I" } : Jvm.MethodName)) ∈ fx_TB := fx_mem 960 (by decide +kernel) rfl
theorem tb_865 : (Jvm.Cond.selects "FearLocks" ({ cls := "FearLocks", name := "unlike", desc := "(II)I" } : Jvm.MethodName) ({ cls := "FearLocks", name := "unlike", desc := "(II)I" } : Jvm.MethodName)) ∈ fx_TB := fx_mem 961 (by decide +kernel) rfl
theorem tb_866 : (Jvm.Cond.code ({ cls := "FearLocks", name := "unlike", desc := "(II)I" } : Jvm.MethodName) prog_1_method_17_code (3 : Nat) (Option.some Jvm.ClassFile.FieldType.int)) ∈ fx_TB := fx_mem 962 (by decide +kernel) rfl
theorem tb_867 : (Jvm.Cond.methodLink "FearLocks" (202 : Nat) ({ cls := "FearLocks$Company", name := "difference", desc := "(LFearLocks$City;II)I" } : Jvm.MethodName)) ∈ fx_TB := fx_mem 963 (by decide +kernel) rfl
theorem tb_868 : (Jvm.Cond.static ({ cls := "FearLocks$Company", name := "difference", desc := "(LFearLocks$City;II)I" } : Jvm.MethodName)) ∈ fx_TB := fx_mem 964 (by decide +kernel) rfl
theorem tb_869 : (Jvm.Cond.code ({ cls := "FearLocks$Company", name := "difference", desc := "(LFearLocks$City;II)I" } : Jvm.MethodName) prog_3_method_7_code (5 : Nat) (Option.some Jvm.ClassFile.FieldType.int)) ∈ fx_TB := fx_mem 965 (by decide +kernel) rfl
theorem tb_870 : (Jvm.Cond.methodLink "FearLocks$Company" (48 : Nat) ({ cls := "FearLocks$City", name := "dreadOf", desc := "(II)I" } : Jvm.MethodName)) ∈ fx_TB := fx_mem 966 (by decide +kernel) rfl
theorem tb_871 : (Jvm.Cond.methodLink "FearLocks$Company" (52 : Nat) ({ cls := "java/lang/Math", name := "abs", desc := "(I)I" } : Jvm.MethodName)) ∈ fx_TB := fx_mem 967 (by decide +kernel) rfl
theorem tb_872 : (Jvm.Cond.methodLink "FearLocksLaw" (78 : Nat) ({ cls := "FearLocks", name := "mostLike", desc := "(I)I" } : Jvm.MethodName)) ∈ fx_TB := fx_mem 968 (by decide +kernel) rfl
theorem tb_873 : (Jvm.Cond.instanceMethod ({ cls := "FearLocks", name := "mostLike", desc := "(I)I" } : Jvm.MethodName)) ∈ fx_TB := fx_mem 969 (by decide +kernel) rfl
theorem tb_874 : (Jvm.Cond.selects "FearLocks" ({ cls := "FearLocks", name := "mostLike", desc := "(I)I" } : Jvm.MethodName) ({ cls := "FearLocks", name := "mostLike", desc := "(I)I" } : Jvm.MethodName)) ∈ fx_TB := fx_mem 970 (by decide +kernel) rfl
theorem tb_875 : (Jvm.Cond.code ({ cls := "FearLocks", name := "mostLike", desc := "(I)I" } : Jvm.MethodName) prog_1_method_18_code (2 : Nat) (Option.some Jvm.ClassFile.FieldType.int)) ∈ fx_TB := fx_mem 971 (by decide +kernel) rfl
theorem tb_876 : (Jvm.Cond.methodLink "FearLocks" (205 : Nat) ({ cls := "FearLocks$Company", name := "nearestTo", desc := "(LFearLocks$City;I)I" } : Jvm.MethodName)) ∈ fx_TB := fx_mem 972 (by decide +kernel) rfl
theorem tb_877 : (Jvm.Cond.static ({ cls := "FearLocks$Company", name := "nearestTo", desc := "(LFearLocks$City;I)I" } : Jvm.MethodName)) ∈ fx_TB := fx_mem 973 (by decide +kernel) rfl
theorem tb_878 : (Jvm.Cond.code ({ cls := "FearLocks$Company", name := "nearestTo", desc := "(LFearLocks$City;I)I" } : Jvm.MethodName) prog_3_method_8_code (5 : Nat) (Option.some Jvm.ClassFile.FieldType.int)) ∈ fx_TB := fx_mem 974 (by decide +kernel) rfl
theorem tb_879 : (Jvm.Cond.methodLink "FearLocks$Company" (57 : Nat) ({ cls := "FearLocks$City", name := "isPerson", desc := "(I)Z" } : Jvm.MethodName)) ∈ fx_TB := fx_mem 975 (by decide +kernel) rfl
theorem tb_880 : (Jvm.Cond.methodLink "FearLocks$Company" (61 : Nat) ({ cls := "FearLocks$Company", name := "difference", desc := "(LFearLocks$City;II)I" } : Jvm.MethodName)) ∈ fx_TB := fx_mem 976 (by decide +kernel) rfl
theorem tb_881 : (Jvm.Cond.methodLink "FearLocksLaw" (82 : Nat) ({ cls := "FearLocks", name := "circles", desc := "(II)I" } : Jvm.MethodName)) ∈ fx_TB := fx_mem 977 (by decide +kernel) rfl
theorem tb_882 : (Jvm.Cond.instanceMethod ({ cls := "FearLocks", name := "circles", desc := "(II)I" } : Jvm.MethodName)) ∈ fx_TB := fx_mem 978 (by decide +kernel) rfl
theorem tb_883 : (Jvm.Cond.selects "FearLocks" ({ cls := "FearLocks", name := "circles", desc := "(II)I" } : Jvm.MethodName) ({ cls := "FearLocks", name := "circles", desc := "(II)I" } : Jvm.MethodName)) ∈ fx_TB := fx_mem 979 (by decide +kernel) rfl
theorem tb_884 : (Jvm.Cond.code ({ cls := "FearLocks", name := "circles", desc := "(II)I" } : Jvm.MethodName) prog_1_method_19_code (3 : Nat) (Option.some Jvm.ClassFile.FieldType.int)) ∈ fx_TB := fx_mem 980 (by decide +kernel) rfl
theorem tb_885 : (Jvm.Cond.methodLink "FearLocks" (208 : Nat) ({ cls := "FearLocks$Company", name := "linkAlike", desc := "(LFearLocks$City;I)V" } : Jvm.MethodName)) ∈ fx_TB := fx_mem 981 (by decide +kernel) rfl
theorem tb_886 : (Jvm.Cond.instanceMethod ({ cls := "FearLocks$Company", name := "linkAlike", desc := "(LFearLocks$City;I)V" } : Jvm.MethodName)) ∈ fx_TB := fx_mem 982 (by decide +kernel) rfl
theorem tb_887 : (Jvm.Cond.selects "FearLocks$Company" ({ cls := "FearLocks$Company", name := "linkAlike", desc := "(LFearLocks$City;I)V" } : Jvm.MethodName) ({ cls := "FearLocks$Company", name := "linkAlike", desc := "(LFearLocks$City;I)V" } : Jvm.MethodName)) ∈ fx_TB := fx_mem 983 (by decide +kernel) rfl
theorem tb_888 : (Jvm.Cond.code ({ cls := "FearLocks$Company", name := "linkAlike", desc := "(LFearLocks$City;I)V" } : Jvm.MethodName) prog_3_method_9_code (5 : Nat) (Option.none : Option Jvm.ClassFile.FieldType)) ∈ fx_TB := fx_mem 984 (by decide +kernel) rfl
theorem tb_889 : (Jvm.Cond.methodLink "FearLocks" (215 : Nat) ({ cls := "FearLocks$Company", name := "circlesOf", desc := "(I)I" } : Jvm.MethodName)) ∈ fx_TB := fx_mem 985 (by decide +kernel) rfl
theorem tb_890 : (Jvm.Cond.instanceMethod ({ cls := "FearLocks$Company", name := "circlesOf", desc := "(I)I" } : Jvm.MethodName)) ∈ fx_TB := fx_mem 986 (by decide +kernel) rfl
theorem tb_891 : (Jvm.Cond.selects "FearLocks$Company" ({ cls := "FearLocks$Company", name := "circlesOf", desc := "(I)I" } : Jvm.MethodName) ({ cls := "FearLocks$Company", name := "circlesOf", desc := "(I)I" } : Jvm.MethodName)) ∈ fx_TB := fx_mem 987 (by decide +kernel) rfl
theorem tb_892 : (Jvm.Cond.code ({ cls := "FearLocks$Company", name := "circlesOf", desc := "(I)I" } : Jvm.MethodName) prog_3_method_11_code (5 : Nat) (Option.some Jvm.ClassFile.FieldType.int)) ∈ fx_TB := fx_mem 988 (by decide +kernel) rfl
theorem tb_893 : (Jvm.Cond.methodLink "FearLocks$Company" (65 : Nat) ({ cls := "FearLocks$Company", name := "circleOf", desc := "(II)I" } : Jvm.MethodName)) ∈ fx_TB := fx_mem 989 (by decide +kernel) rfl
theorem tb_894 : (Jvm.Cond.instanceMethod ({ cls := "FearLocks$Company", name := "circleOf", desc := "(II)I" } : Jvm.MethodName)) ∈ fx_TB := fx_mem 990 (by decide +kernel) rfl
theorem tb_895 : (Jvm.Cond.selects "FearLocks$Company" ({ cls := "FearLocks$Company", name := "circleOf", desc := "(II)I" } : Jvm.MethodName) ({ cls := "FearLocks$Company", name := "circleOf", desc := "(II)I" } : Jvm.MethodName)) ∈ fx_TB := fx_mem 991 (by decide +kernel) rfl
theorem tb_896 : (Jvm.Cond.code ({ cls := "FearLocks$Company", name := "circleOf", desc := "(II)I" } : Jvm.MethodName) prog_3_method_10_code (3 : Nat) (Option.some Jvm.ClassFile.FieldType.int)) ∈ fx_TB := fx_mem 992 (by decide +kernel) rfl
theorem tb_897 : (Jvm.Cond.methodLink "FearLocks$Company" (39 : Nat) ({ cls := "FearLocks$Company", name := "reached", desc := "([III)I" } : Jvm.MethodName)) ∈ fx_TB := fx_mem 993 (by decide +kernel) rfl
theorem tb_898 : (Jvm.Cond.static ({ cls := "FearLocks$Company", name := "reached", desc := "([III)I" } : Jvm.MethodName)) ∈ fx_TB := fx_mem 994 (by decide +kernel) rfl
theorem tb_899 : (Jvm.Cond.code ({ cls := "FearLocks$Company", name := "reached", desc := "([III)I" } : Jvm.MethodName) prog_3_method_3_code (5 : Nat) (Option.some Jvm.ClassFile.FieldType.int)) ∈ fx_TB := fx_mem 995 (by decide +kernel) rfl
theorem tb_900 : (Jvm.Cond.methodLink "FearLocks$Company" (22 : Nat) ({ cls := "FearLocks$Company", name := "beside", desc := "([II)I" } : Jvm.MethodName)) ∈ fx_TB := fx_mem 996 (by decide +kernel) rfl
theorem tb_901 : (Jvm.Cond.static ({ cls := "FearLocks$Company", name := "beside", desc := "([II)I" } : Jvm.MethodName)) ∈ fx_TB := fx_mem 997 (by decide +kernel) rfl
theorem tb_902 : (Jvm.Cond.code ({ cls := "FearLocks$Company", name := "beside", desc := "([II)I" } : Jvm.MethodName) prog_3_method_2_code (4 : Nat) (Option.some Jvm.ClassFile.FieldType.int)) ∈ fx_TB := fx_mem 998 (by decide +kernel) rfl
theorem tb_903 : (Jvm.Cond.methodLink "FearLocks" (218 : Nat) ({ cls := "FearLocks$Company", name := "circleOf", desc := "(II)I" } : Jvm.MethodName)) ∈ fx_TB := fx_mem 999 (by decide +kernel) rfl
theorem tb_904 : (Jvm.Cond.methodLink "FearLocksLaw" (86 : Nat) ({ cls := "FearLocks", name := "keystones", desc := "()I" } : Jvm.MethodName)) ∈ fx_TB := fx_mem 1000 (by decide +kernel) rfl
theorem tb_905 : (Jvm.Cond.instanceMethod ({ cls := "FearLocks", name := "keystones", desc := "()I" } : Jvm.MethodName)) ∈ fx_TB := fx_mem 1001 (by decide +kernel) rfl
theorem tb_906 : (Jvm.Cond.selects "FearLocks" ({ cls := "FearLocks", name := "keystones", desc := "()I" } : Jvm.MethodName) ({ cls := "FearLocks", name := "keystones", desc := "()I" } : Jvm.MethodName)) ∈ fx_TB := fx_mem 1002 (by decide +kernel) rfl
theorem tb_907 : (Jvm.Cond.code ({ cls := "FearLocks", name := "keystones", desc := "()I" } : Jvm.MethodName) prog_1_method_20_code (1 : Nat) (Option.some Jvm.ClassFile.FieldType.int)) ∈ fx_TB := fx_mem 1003 (by decide +kernel) rfl
theorem tb_908 : (Jvm.Cond.methodLink "FearLocks" (221 : Nat) ({ cls := "FearLocks$Company", name := "holdersTogether", desc := "(LFearLocks$City;)I" } : Jvm.MethodName)) ∈ fx_TB := fx_mem 1004 (by decide +kernel) rfl
theorem tb_909 : (Jvm.Cond.static ({ cls := "FearLocks$Company", name := "holdersTogether", desc := "(LFearLocks$City;)I" } : Jvm.MethodName)) ∈ fx_TB := fx_mem 1005 (by decide +kernel) rfl
theorem tb_910 : (Jvm.Cond.code ({ cls := "FearLocks$Company", name := "holdersTogether", desc := "(LFearLocks$City;)I" } : Jvm.MethodName) prog_3_method_4_code (6 : Nat) (Option.some Jvm.ClassFile.FieldType.int)) ∈ fx_TB := fx_mem 1006 (by decide +kernel) rfl
theorem tb_911 : (Jvm.Cond.methodLink "FearLocksLaw" (90 : Nat) ({ cls := "FearLocks", name := "steps", desc := "(II)I" } : Jvm.MethodName)) ∈ fx_TB := fx_mem 1007 (by decide +kernel) rfl
theorem tb_912 : (Jvm.Cond.instanceMethod ({ cls := "FearLocks", name := "steps", desc := "(II)I" } : Jvm.MethodName)) ∈ fx_TB := fx_mem 1008 (by decide +kernel) rfl
theorem tb_913 : (Jvm.Cond.selects "FearLocks" ({ cls := "FearLocks", name := "steps", desc := "(II)I" } : Jvm.MethodName) ({ cls := "FearLocks", name := "steps", desc := "(II)I" } : Jvm.MethodName)) ∈ fx_TB := fx_mem 1009 (by decide +kernel) rfl
theorem tb_914 : (Jvm.Cond.code ({ cls := "FearLocks", name := "steps", desc := "(II)I" } : Jvm.MethodName) prog_1_method_21_code (3 : Nat) (Option.some Jvm.ClassFile.FieldType.int)) ∈ fx_TB := fx_mem 1010 (by decide +kernel) rfl
theorem tb_915 : (Jvm.Cond.methodLink "FearLocks" (224 : Nat) ({ cls := "FearLocks$Company", name := "stepsBetween", desc := "(LFearLocks$City;II)I" } : Jvm.MethodName)) ∈ fx_TB := fx_mem 1011 (by decide +kernel) rfl
theorem tb_916 : (Jvm.Cond.static ({ cls := "FearLocks$Company", name := "stepsBetween", desc := "(LFearLocks$City;II)I" } : Jvm.MethodName)) ∈ fx_TB := fx_mem 1012 (by decide +kernel) rfl
theorem tb_917 : (Jvm.Cond.code ({ cls := "FearLocks$Company", name := "stepsBetween", desc := "(LFearLocks$City;II)I" } : Jvm.MethodName) prog_3_method_5_code (5 : Nat) (Option.some Jvm.ClassFile.FieldType.int)) ∈ fx_TB := fx_mem 1013 (by decide +kernel) rfl
theorem tb_918 : (Jvm.Cond.methodLink "FearLocksLaw" (94 : Nat) ({ cls := "FearLocks", name := "guess", desc := "(II)I" } : Jvm.MethodName)) ∈ fx_TB := fx_mem 1014 (by decide +kernel) rfl
theorem tb_919 : (Jvm.Cond.instanceMethod ({ cls := "FearLocks", name := "guess", desc := "(II)I" } : Jvm.MethodName)) ∈ fx_TB := fx_mem 1015 (by decide +kernel) rfl
theorem tb_920 : (Jvm.Cond.selects "FearLocks" ({ cls := "FearLocks", name := "guess", desc := "(II)I" } : Jvm.MethodName) ({ cls := "FearLocks", name := "guess", desc := "(II)I" } : Jvm.MethodName)) ∈ fx_TB := fx_mem 1016 (by decide +kernel) rfl
theorem tb_921 : (Jvm.Cond.code ({ cls := "FearLocks", name := "guess", desc := "(II)I" } : Jvm.MethodName) prog_1_method_22_code (8 : Nat) (Option.some Jvm.ClassFile.FieldType.int)) ∈ fx_TB := fx_mem 1017 (by decide +kernel) rfl
theorem tb_922 : (Jvm.Cond.methodLink "FearLocks" (227 : Nat) ({ cls := "FearLocks$Keys", name := "triesFit", desc := "(LFearLocks$Tape;LFearLocks$City;I)Z" } : Jvm.MethodName)) ∈ fx_TB := fx_mem 1018 (by decide +kernel) rfl
theorem tb_923 : (Jvm.Cond.static ({ cls := "FearLocks$Keys", name := "triesFit", desc := "(LFearLocks$Tape;LFearLocks$City;I)Z" } : Jvm.MethodName)) ∈ fx_TB := fx_mem 1019 (by decide +kernel) rfl
theorem tb_924 : (Jvm.Cond.code ({ cls := "FearLocks$Keys", name := "triesFit", desc := "(LFearLocks$Tape;LFearLocks$City;I)Z" } : Jvm.MethodName) prog_5_method_6_code (4 : Nat) (Option.some Jvm.ClassFile.FieldType.boolean)) ∈ fx_TB := fx_mem 1020 (by decide +kernel) rfl
theorem tb_925 : (Jvm.Cond.methodLink "FearLocks$Keys" (65 : Nat) ({ cls := "FearLocks$Tape", name := "byteAt", desc := "(I)I" } : Jvm.MethodName)) ∈ fx_TB := fx_mem 1021 (by decide +kernel) rfl
theorem tb_926 : (Jvm.Cond.instanceMethod ({ cls := "FearLocks$Tape", name := "byteAt", desc := "(I)I" } : Jvm.MethodName)) ∈ fx_TB := fx_mem 1022 (by decide +kernel) rfl
theorem tb_927 : (Jvm.Cond.selects "FearLocks$Tape" ({ cls := "FearLocks$Tape", name := "byteAt", desc := "(I)I" } : Jvm.MethodName) ({ cls := "FearLocks$Tape", name := "byteAt", desc := "(I)I" } : Jvm.MethodName)) ∈ fx_TB := fx_mem 1023 (by decide +kernel) rfl
theorem tb_928 : (Jvm.Cond.code ({ cls := "FearLocks$Tape", name := "byteAt", desc := "(I)I" } : Jvm.MethodName) prog_12_method_5_code (2 : Nat) (Option.some Jvm.ClassFile.FieldType.int)) ∈ fx_TB := fx_mem 1024 (by decide +kernel) rfl
theorem tb_929 : (Jvm.Cond.methodLink "FearLocks$Keys" (70 : Nat) ({ cls := "FearLocks$City", name := "isPerson", desc := "(I)Z" } : Jvm.MethodName)) ∈ fx_TB := fx_mem 1025 (by decide +kernel) rfl
theorem tb_930 : (Jvm.Cond.methodLink "FearLocks" (231 : Nat) ({ cls := "FearLocks$Keys", name := "possibleFears", desc := "(LFearLocks$Tape;LFearLocks$City;I)I" } : Jvm.MethodName)) ∈ fx_TB := fx_mem 1026 (by decide +kernel) rfl
theorem tb_931 : (Jvm.Cond.static ({ cls := "FearLocks$Keys", name := "possibleFears", desc := "(LFearLocks$Tape;LFearLocks$City;I)I" } : Jvm.MethodName)) ∈ fx_TB := fx_mem 1027 (by decide +kernel) rfl
theorem tb_932 : (Jvm.Cond.code ({ cls := "FearLocks$Keys", name := "possibleFears", desc := "(LFearLocks$Tape;LFearLocks$City;I)I" } : Jvm.MethodName) prog_5_method_7_code (5 : Nat) (Option.some Jvm.ClassFile.FieldType.int)) ∈ fx_TB := fx_mem 1028 (by decide +kernel) rfl
theorem tb_933 : (Jvm.Cond.methodLink "FearLocks$Keys" (73 : Nat) ({ cls := "FearLocks$Keys", name := "leastStrength", desc := "(LFearLocks$Tape;LFearLocks$City;II)I" } : Jvm.MethodName)) ∈ fx_TB := fx_mem 1029 (by decide +kernel) rfl
theorem tb_934 : (Jvm.Cond.static ({ cls := "FearLocks$Keys", name := "leastStrength", desc := "(LFearLocks$Tape;LFearLocks$City;II)I" } : Jvm.MethodName)) ∈ fx_TB := fx_mem 1030 (by decide +kernel) rfl
theorem tb_935 : (Jvm.Cond.code ({ cls := "FearLocks$Keys", name := "leastStrength", desc := "(LFearLocks$Tape;LFearLocks$City;II)I" } : Jvm.MethodName) prog_5_method_8_code (7 : Nat) (Option.some Jvm.ClassFile.FieldType.int)) ∈ fx_TB := fx_mem 1031 (by decide +kernel) rfl
theorem tb_936 : (Jvm.Cond.methodLink "FearLocks$Keys" (80 : Nat) ({ cls := "FearLocks$City", name := "fearOf", desc := "(I)I" } : Jvm.MethodName)) ∈ fx_TB := fx_mem 1032 (by decide +kernel) rfl
theorem tb_937 : (Jvm.Cond.methodLink "FearLocks$Keys" (77 : Nat) ({ cls := "FearLocks$Keys", name := "greatestStrength", desc := "(LFearLocks$Tape;LFearLocks$City;II)I" } : Jvm.MethodName)) ∈ fx_TB := fx_mem 1033 (by decide +kernel) rfl
theorem tb_938 : (Jvm.Cond.static ({ cls := "FearLocks$Keys", name := "greatestStrength", desc := "(LFearLocks$Tape;LFearLocks$City;II)I" } : Jvm.MethodName)) ∈ fx_TB := fx_mem 1034 (by decide +kernel) rfl
theorem tb_939 : (Jvm.Cond.code ({ cls := "FearLocks$Keys", name := "greatestStrength", desc := "(LFearLocks$Tape;LFearLocks$City;II)I" } : Jvm.MethodName) prog_5_method_9_code (8 : Nat) (Option.some Jvm.ClassFile.FieldType.int)) ∈ fx_TB := fx_mem 1035 (by decide +kernel) rfl
theorem tb_940 : (Jvm.Cond.methodLink "FearLocks" (235 : Nat) ({ cls := "FearLocks$Keys", name := "leastStrength", desc := "(LFearLocks$Tape;LFearLocks$City;II)I" } : Jvm.MethodName)) ∈ fx_TB := fx_mem 1036 (by decide +kernel) rfl
theorem tb_941 : (Jvm.Cond.methodLink "FearLocks" (239 : Nat) ({ cls := "FearLocks$Keys", name := "greatestStrength", desc := "(LFearLocks$Tape;LFearLocks$City;II)I" } : Jvm.MethodName)) ∈ fx_TB := fx_mem 1037 (by decide +kernel) rfl
theorem tb_942 : (Jvm.Cond.methodLink "FearLocksLaw" (98 : Nat) ({ cls := "FearLocks", name := "sentNext", desc := "(II)I" } : Jvm.MethodName)) ∈ fx_TB := fx_mem 1038 (by decide +kernel) rfl
theorem tb_943 : (Jvm.Cond.instanceMethod ({ cls := "FearLocks", name := "sentNext", desc := "(II)I" } : Jvm.MethodName)) ∈ fx_TB := fx_mem 1039 (by decide +kernel) rfl
theorem tb_944 : (Jvm.Cond.selects "FearLocks" ({ cls := "FearLocks", name := "sentNext", desc := "(II)I" } : Jvm.MethodName) ({ cls := "FearLocks", name := "sentNext", desc := "(II)I" } : Jvm.MethodName)) ∈ fx_TB := fx_mem 1040 (by decide +kernel) rfl
theorem tb_945 : (Jvm.Cond.code ({ cls := "FearLocks", name := "sentNext", desc := "(II)I" } : Jvm.MethodName) prog_1_method_23_code (4 : Nat) (Option.some Jvm.ClassFile.FieldType.int)) ∈ fx_TB := fx_mem 1041 (by decide +kernel) rfl
theorem tb_946 : (Jvm.Cond.constant "FearLocks" (242 : Nat) (65535 : Int32)) ∈ fx_TB := fx_mem 1042 (by decide +kernel) rfl
theorem tb_947 : (Jvm.Cond.methodLink "FearLocks" (243 : Nat) ({ cls := "FearLocks$Keys", name := "bestToSend", desc := "(LFearLocks$City;I)I" } : Jvm.MethodName)) ∈ fx_TB := fx_mem 1043 (by decide +kernel) rfl
theorem tb_948 : (Jvm.Cond.static ({ cls := "FearLocks$Keys", name := "bestToSend", desc := "(LFearLocks$City;I)I" } : Jvm.MethodName)) ∈ fx_TB := fx_mem 1044 (by decide +kernel) rfl
theorem tb_949 : (Jvm.Cond.code ({ cls := "FearLocks$Keys", name := "bestToSend", desc := "(LFearLocks$City;I)I" } : Jvm.MethodName) prog_5_method_10_code (5 : Nat) (Option.some Jvm.ClassFile.FieldType.int)) ∈ fx_TB := fx_mem 1045 (by decide +kernel) rfl
theorem tb_950 : (Jvm.Cond.methodLink "FearLocks$Keys" (83 : Nat) ({ cls := "FearLocks$Keys", name := "leftAtWorst", desc := "(LFearLocks$City;II)I" } : Jvm.MethodName)) ∈ fx_TB := fx_mem 1046 (by decide +kernel) rfl
theorem tb_951 : (Jvm.Cond.static ({ cls := "FearLocks$Keys", name := "leftAtWorst", desc := "(LFearLocks$City;II)I" } : Jvm.MethodName)) ∈ fx_TB := fx_mem 1047 (by decide +kernel) rfl
theorem tb_952 : (Jvm.Cond.code ({ cls := "FearLocks$Keys", name := "leftAtWorst", desc := "(LFearLocks$City;II)I" } : Jvm.MethodName) prog_5_method_11_code (4 : Nat) (Option.some Jvm.ClassFile.FieldType.int)) ∈ fx_TB := fx_mem 1048 (by decide +kernel) rfl
theorem tb_953 : (Jvm.Cond.methodLink "FearLocks" (246 : Nat) ({ cls := "FearLocks$Keys", name := "leftAtWorst", desc := "(LFearLocks$City;II)I" } : Jvm.MethodName)) ∈ fx_TB := fx_mem 1049 (by decide +kernel) rfl
theorem tb_954 : (Jvm.Cond.methodLink "FearLocksLaw" (102 : Nat) ({ cls := "FearLocks", name := "guards", desc := "(I)I" } : Jvm.MethodName)) ∈ fx_TB := fx_mem 1050 (by decide +kernel) rfl
theorem tb_955 : (Jvm.Cond.instanceMethod ({ cls := "FearLocks", name := "guards", desc := "(I)I" } : Jvm.MethodName)) ∈ fx_TB := fx_mem 1051 (by decide +kernel) rfl
theorem tb_956 : (Jvm.Cond.selects "FearLocks" ({ cls := "FearLocks", name := "guards", desc := "(I)I" } : Jvm.MethodName) ({ cls := "FearLocks", name := "guards", desc := "(I)I" } : Jvm.MethodName)) ∈ fx_TB := fx_mem 1052 (by decide +kernel) rfl
theorem tb_957 : (Jvm.Cond.code ({ cls := "FearLocks", name := "guards", desc := "(I)I" } : Jvm.MethodName) prog_1_method_24_code (2 : Nat) (Option.some Jvm.ClassFile.FieldType.int)) ∈ fx_TB := fx_mem 1053 (by decide +kernel) rfl
theorem tb_958 : (Jvm.Cond.methodLink "FearLocks" (249 : Nat) ({ cls := "FearLocks$Pastimes", name := "waysToStand", desc := "(LFearLocks$Tape;LFearLocks$City;I)I" } : Jvm.MethodName)) ∈ fx_TB := fx_mem 1054 (by decide +kernel) rfl
theorem tb_959 : (Jvm.Cond.instanceMethod ({ cls := "FearLocks$Pastimes", name := "waysToStand", desc := "(LFearLocks$Tape;LFearLocks$City;I)I" } : Jvm.MethodName)) ∈ fx_TB := fx_mem 1055 (by decide +kernel) rfl
theorem tb_960 : (Jvm.Cond.selects "FearLocks$Pastimes" ({ cls := "FearLocks$Pastimes", name := "waysToStand", desc := "(LFearLocks$Tape;LFearLocks$City;I)I" } : Jvm.MethodName) ({ cls := "FearLocks$Pastimes", name := "waysToStand", desc := "(LFearLocks$Tape;LFearLocks$City;I)I" } : Jvm.MethodName)) ∈ fx_TB := fx_mem 1056 (by decide +kernel) rfl
theorem tb_961 : (Jvm.Cond.code ({ cls := "FearLocks$Pastimes", name := "waysToStand", desc := "(LFearLocks$Tape;LFearLocks$City;I)I" } : Jvm.MethodName) prog_11_method_2_code (7 : Nat) (Option.some Jvm.ClassFile.FieldType.int)) ∈ fx_TB := fx_mem 1057 (by decide +kernel) rfl
theorem tb_962 : (Jvm.Cond.methodLink "FearLocks$Pastimes" (19 : Nat) ({ cls := "FearLocks$Tape", name := "byteAt", desc := "(I)I" } : Jvm.MethodName)) ∈ fx_TB := fx_mem 1058 (by decide +kernel) rfl
theorem tb_963 : (Jvm.Cond.methodLink "FearLocks$Pastimes" (25 : Nat) ({ cls := "FearLocks$City", name := "isPerson", desc := "(I)Z" } : Jvm.MethodName)) ∈ fx_TB := fx_mem 1059 (by decide +kernel) rfl
theorem tb_964 : (Jvm.Cond.methodLinkNest "FearLocks$Pastimes" (31 : Nat) ({ cls := "FearLocks", name := "has", desc := "(II)Z" } : Jvm.MethodName) "FearLocks") ∈ fx_TB := fx_mem 1060 (by decide +kernel) rfl
theorem tb_965 : (Jvm.Cond.methodLink "FearLocks$Pastimes" (35 : Nat) ({ cls := "FearLocks$City", name := "fearOf", desc := "(I)I" } : Jvm.MethodName)) ∈ fx_TB := fx_mem 1061 (by decide +kernel) rfl
theorem tb_966 : (Jvm.Cond.methodLink "FearLocks$Pastimes" (38 : Nat) ({ cls := "FearLocks$Pastimes", name := "waysOn", desc := "([IIIII)I" } : Jvm.MethodName)) ∈ fx_TB := fx_mem 1062 (by decide +kernel) rfl
theorem tb_967 : (Jvm.Cond.static ({ cls := "FearLocks$Pastimes", name := "waysOn", desc := "([IIIII)I" } : Jvm.MethodName)) ∈ fx_TB := fx_mem 1063 (by decide +kernel) rfl
theorem tb_968 : (Jvm.Cond.code ({ cls := "FearLocks$Pastimes", name := "waysOn", desc := "([IIIII)I" } : Jvm.MethodName) prog_11_method_3_code (7 : Nat) (Option.some Jvm.ClassFile.FieldType.int)) ∈ fx_TB := fx_mem 1064 (by decide +kernel) rfl
theorem tb_969 : (Jvm.Cond.methodLink "FearLocks$Pastimes" (42 : Nat) ({ cls := "java/lang/Integer", name := "bitCount", desc := "(I)I" } : Jvm.MethodName)) ∈ fx_TB := fx_mem 1065 (by decide +kernel) rfl
theorem tb_970 : (Jvm.Cond.methodLink "FearLocks$Pastimes" (47 : Nat) ({ cls := "FearLocks$Pastimes", name := "canStandTogether", desc := "([III)Z" } : Jvm.MethodName)) ∈ fx_TB := fx_mem 1066 (by decide +kernel) rfl
theorem tb_971 : (Jvm.Cond.static ({ cls := "FearLocks$Pastimes", name := "canStandTogether", desc := "([III)Z" } : Jvm.MethodName)) ∈ fx_TB := fx_mem 1067 (by decide +kernel) rfl
theorem tb_972 : (Jvm.Cond.code ({ cls := "FearLocks$Pastimes", name := "canStandTogether", desc := "([III)Z" } : Jvm.MethodName) prog_11_method_4_code (3 : Nat) (Option.some Jvm.ClassFile.FieldType.boolean)) ∈ fx_TB := fx_mem 1068 (by decide +kernel) rfl
theorem tb_973 : (Jvm.Cond.methodLink "FearLocksLaw" (106 : Nat) ({ cls := "FearLocks", name := "word", desc := "(III)J" } : Jvm.MethodName)) ∈ fx_TB := fx_mem 1069 (by decide +kernel) rfl
theorem tb_974 : (Jvm.Cond.instanceMethod ({ cls := "FearLocks", name := "word", desc := "(III)J" } : Jvm.MethodName)) ∈ fx_TB := fx_mem 1070 (by decide +kernel) rfl
theorem tb_975 : (Jvm.Cond.selects "FearLocks" ({ cls := "FearLocks", name := "word", desc := "(III)J" } : Jvm.MethodName) ({ cls := "FearLocks", name := "word", desc := "(III)J" } : Jvm.MethodName)) ∈ fx_TB := fx_mem 1071 (by decide +kernel) rfl
theorem tb_976 : (Jvm.Cond.code ({ cls := "FearLocks", name := "word", desc := "(III)J" } : Jvm.MethodName) prog_1_method_25_code (4 : Nat) (Option.some Jvm.ClassFile.FieldType.long)) ∈ fx_TB := fx_mem 1072 (by decide +kernel) rfl
theorem tb_977 : (Jvm.Cond.constantLong "FearLocks" (252 : Nat) (-1 : Int64)) ∈ fx_TB := fx_mem 1073 (by decide +kernel) rfl
theorem tb_978 : (Jvm.Cond.methodLink "FearLocks" (254 : Nat) ({ cls := "FearLocks$Pastimes", name := "wordsWeighing", desc := "(III)J" } : Jvm.MethodName)) ∈ fx_TB := fx_mem 1074 (by decide +kernel) rfl
theorem tb_979 : (Jvm.Cond.instanceMethod ({ cls := "FearLocks$Pastimes", name := "wordsWeighing", desc := "(III)J" } : Jvm.MethodName)) ∈ fx_TB := fx_mem 1075 (by decide +kernel) rfl
theorem tb_980 : (Jvm.Cond.selects "FearLocks$Pastimes" ({ cls := "FearLocks$Pastimes", name := "wordsWeighing", desc := "(III)J" } : Jvm.MethodName) ({ cls := "FearLocks$Pastimes", name := "wordsWeighing", desc := "(III)J" } : Jvm.MethodName)) ∈ fx_TB := fx_mem 1076 (by decide +kernel) rfl
theorem tb_981 : (Jvm.Cond.code ({ cls := "FearLocks$Pastimes", name := "wordsWeighing", desc := "(III)J" } : Jvm.MethodName) prog_11_method_5_code (6 : Nat) (Option.some Jvm.ClassFile.FieldType.long)) ∈ fx_TB := fx_mem 1077 (by decide +kernel) rfl
theorem tb_982 : (Jvm.Cond.methodLink "FearLocks$Pastimes" (51 : Nat) ({ cls := "FearLocks$Pastimes", name := "wordsWithOneMore", desc := "(II)J" } : Jvm.MethodName)) ∈ fx_TB := fx_mem 1078 (by decide +kernel) rfl
theorem tb_983 : (Jvm.Cond.privateMethod ({ cls := "FearLocks$Pastimes", name := "wordsWithOneMore", desc := "(II)J" } : Jvm.MethodName)) ∈ fx_TB := fx_mem 1079 (by decide +kernel) rfl
theorem tb_984 : (Jvm.Cond.instanceMethod ({ cls := "FearLocks$Pastimes", name := "wordsWithOneMore", desc := "(II)J" } : Jvm.MethodName)) ∈ fx_TB := fx_mem 1080 (by decide +kernel) rfl
theorem tb_985 : (Jvm.Cond.code ({ cls := "FearLocks$Pastimes", name := "wordsWithOneMore", desc := "(II)J" } : Jvm.MethodName) prog_11_method_6_code (7 : Nat) (Option.some Jvm.ClassFile.FieldType.long)) ∈ fx_TB := fx_mem 1081 (by decide +kernel) rfl
theorem tb_986 : (Jvm.Cond.methodLink "FearLocksLaw" (111 : Nat) ({ cls := "FearLocks", name := "rooms", desc := "(II)I" } : Jvm.MethodName)) ∈ fx_TB := fx_mem 1082 (by decide +kernel) rfl
theorem tb_987 : (Jvm.Cond.instanceMethod ({ cls := "FearLocks", name := "rooms", desc := "(II)I" } : Jvm.MethodName)) ∈ fx_TB := fx_mem 1083 (by decide +kernel) rfl
theorem tb_988 : (Jvm.Cond.selects "FearLocks" ({ cls := "FearLocks", name := "rooms", desc := "(II)I" } : Jvm.MethodName) ({ cls := "FearLocks", name := "rooms", desc := "(II)I" } : Jvm.MethodName)) ∈ fx_TB := fx_mem 1084 (by decide +kernel) rfl
theorem tb_989 : (Jvm.Cond.code ({ cls := "FearLocks", name := "rooms", desc := "(II)I" } : Jvm.MethodName) prog_1_method_26_code (4 : Nat) (Option.some Jvm.ClassFile.FieldType.int)) ∈ fx_TB := fx_mem 1085 (by decide +kernel) rfl
theorem tb_990 : (Jvm.Cond.methodLink "FearLocks" (258 : Nat) ({ cls := "FearLocks$Tape", name := "byteAt", desc := "(I)I" } : Jvm.MethodName)) ∈ fx_TB := fx_mem 1086 (by decide +kernel) rfl
theorem tb_991 : (Jvm.Cond.methodLink "FearLocks" (261 : Nat) ({ cls := "FearLocks$Pastimes", name := "leastDreadBehindRooms", desc := "(LFearLocks$Tape;II)I" } : Jvm.MethodName)) ∈ fx_TB := fx_mem 1087 (by decide +kernel) rfl
theorem tb_992 : (Jvm.Cond.static ({ cls := "FearLocks$Pastimes", name := "leastDreadBehindRooms", desc := "(LFearLocks$Tape;II)I" } : Jvm.MethodName)) ∈ fx_TB := fx_mem 1088 (by decide +kernel) rfl
theorem tb_993 : (Jvm.Cond.code ({ cls := "FearLocks$Pastimes", name := "leastDreadBehindRooms", desc := "(LFearLocks$Tape;II)I" } : Jvm.MethodName) prog_11_method_7_code (6 : Nat) (Option.some Jvm.ClassFile.FieldType.int)) ∈ fx_TB := fx_mem 1089 (by decide +kernel) rfl
theorem tb_994 : (Jvm.Cond.methodLink "FearLocks$Pastimes" (55 : Nat) ({ cls := "FearLocks$Pastimes", name := "roomsOfCommonest", desc := "(LFearLocks$Tape;I)I" } : Jvm.MethodName)) ∈ fx_TB := fx_mem 1090 (by decide +kernel) rfl
theorem tb_995 : (Jvm.Cond.static ({ cls := "FearLocks$Pastimes", name := "roomsOfCommonest", desc := "(LFearLocks$Tape;I)I" } : Jvm.MethodName)) ∈ fx_TB := fx_mem 1091 (by decide +kernel) rfl
theorem tb_996 : (Jvm.Cond.code ({ cls := "FearLocks$Pastimes", name := "roomsOfCommonest", desc := "(LFearLocks$Tape;I)I" } : Jvm.MethodName) prog_11_method_8_code (6 : Nat) (Option.some Jvm.ClassFile.FieldType.int)) ∈ fx_TB := fx_mem 1092 (by decide +kernel) rfl
theorem tb_997 : (Jvm.Cond.methodLink "FearLocks$Pastimes" (59 : Nat) ({ cls := "java/lang/Math", name := "max", desc := "(II)I" } : Jvm.MethodName)) ∈ fx_TB := fx_mem 1093 (by decide +kernel) rfl
theorem tb_998 : (Jvm.Cond.methodLinkNest "FearLocks$Pastimes" (65 : Nat) ({ cls := "FearLocks", name := "bounded", desc := "(III)I" } : Jvm.MethodName) "FearLocks") ∈ fx_TB := fx_mem 1094 (by decide +kernel) rfl
theorem tb_999 : (Jvm.Cond.methodLink "FearLocksLaw" (115 : Nat) ({ cls := "FearLocks", name := "seed", desc := "(I)Z" } : Jvm.MethodName)) ∈ fx_TB := fx_mem 1095 (by decide +kernel) rfl
theorem tb_1000 : (Jvm.Cond.instanceMethod ({ cls := "FearLocks", name := "seed", desc := "(I)Z" } : Jvm.MethodName)) ∈ fx_TB := fx_mem 1096 (by decide +kernel) rfl
theorem tb_1001 : (Jvm.Cond.selects "FearLocks" ({ cls := "FearLocks", name := "seed", desc := "(I)Z" } : Jvm.MethodName) ({ cls := "FearLocks", name := "seed", desc := "(I)Z" } : Jvm.MethodName)) ∈ fx_TB := fx_mem 1097 (by decide +kernel) rfl
theorem tb_1002 : (Jvm.Cond.code ({ cls := "FearLocks", name := "seed", desc := "(I)Z" } : Jvm.MethodName) prog_1_method_27_code (2 : Nat) (Option.some Jvm.ClassFile.FieldType.boolean)) ∈ fx_TB := fx_mem 1098 (by decide +kernel) rfl
theorem tb_1003 : (Jvm.Cond.methodLink "FearLocksLaw" (120 : Nat) ({ cls := "FearLocks", name := "keep", desc := "()I" } : Jvm.MethodName)) ∈ fx_TB := fx_mem 1099 (by decide +kernel) rfl
theorem tb_1004 : (Jvm.Cond.instanceMethod ({ cls := "FearLocks", name := "keep", desc := "()I" } : Jvm.MethodName)) ∈ fx_TB := fx_mem 1100 (by decide +kernel) rfl
theorem tb_1005 : (Jvm.Cond.selects "FearLocks" ({ cls := "FearLocks", name := "keep", desc := "()I" } : Jvm.MethodName) ({ cls := "FearLocks", name := "keep", desc := "()I" } : Jvm.MethodName)) ∈ fx_TB := fx_mem 1101 (by decide +kernel) rfl
theorem tb_1006 : (Jvm.Cond.code ({ cls := "FearLocks", name := "keep", desc := "()I" } : Jvm.MethodName) prog_1_method_28_code (1 : Nat) (Option.some Jvm.ClassFile.FieldType.int)) ∈ fx_TB := fx_mem 1102 (by decide +kernel) rfl
theorem tb_1007 : (Jvm.Cond.methodLink "FearLocksLaw" (124 : Nat) ({ cls := "FearLocks", name := "undo", desc := "()Z" } : Jvm.MethodName)) ∈ fx_TB := fx_mem 1103 (by decide +kernel) rfl
theorem tb_1008 : (Jvm.Cond.instanceMethod ({ cls := "FearLocks", name := "undo", desc := "()Z" } : Jvm.MethodName)) ∈ fx_TB := fx_mem 1104 (by decide +kernel) rfl
theorem tb_1009 : (Jvm.Cond.selects "FearLocks" ({ cls := "FearLocks", name := "undo", desc := "()Z" } : Jvm.MethodName) ({ cls := "FearLocks", name := "undo", desc := "()Z" } : Jvm.MethodName)) ∈ fx_TB := fx_mem 1105 (by decide +kernel) rfl
theorem tb_1010 : (Jvm.Cond.code ({ cls := "FearLocks", name := "undo", desc := "()Z" } : Jvm.MethodName) prog_1_method_29_code (1 : Nat) (Option.some Jvm.ClassFile.FieldType.boolean)) ∈ fx_TB := fx_mem 1106 (by decide +kernel) rfl
theorem tb_1011 : (Jvm.Cond.methodLink "FearLocks" (271 : Nat) ({ cls := "FearLocks$City", name := "goBackTo", desc := "(LFearLocks$City;)V" } : Jvm.MethodName)) ∈ fx_TB := fx_mem 1107 (by decide +kernel) rfl
theorem tb_1012 : (Jvm.Cond.instanceMethod ({ cls := "FearLocks$City", name := "goBackTo", desc := "(LFearLocks$City;)V" } : Jvm.MethodName)) ∈ fx_TB := fx_mem 1108 (by decide +kernel) rfl
theorem tb_1013 : (Jvm.Cond.selects "FearLocks$City" ({ cls := "FearLocks$City", name := "goBackTo", desc := "(LFearLocks$City;)V" } : Jvm.MethodName) ({ cls := "FearLocks$City", name := "goBackTo", desc := "(LFearLocks$City;)V" } : Jvm.MethodName)) ∈ fx_TB := fx_mem 1109 (by decide +kernel) rfl
theorem tb_1014 : (Jvm.Cond.code ({ cls := "FearLocks$City", name := "goBackTo", desc := "(LFearLocks$City;)V" } : Jvm.MethodName) prog_2_method_26_code (3 : Nat) (Option.none : Option Jvm.ClassFile.FieldType)) ∈ fx_TB := fx_mem 1110 (by decide +kernel) rfl
theorem tb_1015 : (Jvm.Cond.methodLink "FearLocksLaw" (129 : Nat) ({ cls := "FearLocks", name := "check", desc := "(I)I" } : Jvm.MethodName)) ∈ fx_TB := fx_mem 1111 (by decide +kernel) rfl
theorem tb_1016 : (Jvm.Cond.instanceMethod ({ cls := "FearLocks", name := "check", desc := "(I)I" } : Jvm.MethodName)) ∈ fx_TB := fx_mem 1112 (by decide +kernel) rfl
theorem tb_1017 : (Jvm.Cond.selects "FearLocks" ({ cls := "FearLocks", name := "check", desc := "(I)I" } : Jvm.MethodName) ({ cls := "FearLocks", name := "check", desc := "(I)I" } : Jvm.MethodName)) ∈ fx_TB := fx_mem 1113 (by decide +kernel) rfl
theorem tb_1018 : (Jvm.Cond.code ({ cls := "FearLocks", name := "check", desc := "(I)I" } : Jvm.MethodName) prog_1_method_30_code (4 : Nat) (Option.some Jvm.ClassFile.FieldType.int)) ∈ fx_TB := fx_mem 1114 (by decide +kernel) rfl
theorem tb_1019 : (Jvm.Cond.methodLink "FearLocksLaw" (133 : Nat) ({ cls := "FearLocks", name := "count", desc := "(I)I" } : Jvm.MethodName)) ∈ fx_TB := fx_mem 1115 (by decide +kernel) rfl
theorem tb_1020 : (Jvm.Cond.instanceMethod ({ cls := "FearLocks", name := "count", desc := "(I)I" } : Jvm.MethodName)) ∈ fx_TB := fx_mem 1116 (by decide +kernel) rfl
theorem tb_1021 : (Jvm.Cond.selects "FearLocks" ({ cls := "FearLocks", name := "count", desc := "(I)I" } : Jvm.MethodName) ({ cls := "FearLocks", name := "count", desc := "(I)I" } : Jvm.MethodName)) ∈ fx_TB := fx_mem 1117 (by decide +kernel) rfl
theorem tb_1022 : (Jvm.Cond.code ({ cls := "FearLocks", name := "count", desc := "(I)I" } : Jvm.MethodName) prog_1_method_31_code (2 : Nat) (Option.some Jvm.ClassFile.FieldType.int)) ∈ fx_TB := fx_mem 1118 (by decide +kernel) rfl
theorem tb_1023 : (Jvm.Cond.methodLink "FearLocks" (277 : Nat) ({ cls := "FearLocks$City", name := "acquaintances", desc := "()I" } : Jvm.MethodName)) ∈ fx_TB := fx_mem 1119 (by decide +kernel) rfl
theorem tb_1024 : (Jvm.Cond.instanceMethod ({ cls := "FearLocks$City", name := "acquaintances", desc := "()I" } : Jvm.MethodName)) ∈ fx_TB := fx_mem 1120 (by decide +kernel) rfl
theorem tb_1025 : (Jvm.Cond.selects "FearLocks$City" ({ cls := "FearLocks$City", name := "acquaintances", desc := "()I" } : Jvm.MethodName) ({ cls := "FearLocks$City", name := "acquaintances", desc := "()I" } : Jvm.MethodName)) ∈ fx_TB := fx_mem 1121 (by decide +kernel) rfl
theorem tb_1026 : (Jvm.Cond.code ({ cls := "FearLocks$City", name := "acquaintances", desc := "()I" } : Jvm.MethodName) prog_2_method_15_code (3 : Nat) (Option.some Jvm.ClassFile.FieldType.int)) ∈ fx_TB := fx_mem 1122 (by decide +kernel) rfl
theorem tb_1027 : (Jvm.Cond.methodLink "FearLocks$City" (74 : Nat) ({ cls := "java/lang/Integer", name := "bitCount", desc := "(I)I" } : Jvm.MethodName)) ∈ fx_TB := fx_mem 1123 (by decide +kernel) rfl
theorem tb_1028 : (Jvm.Cond.methodLink "FearLocks" (280 : Nat) ({ cls := "FearLocks$City", name := "openedInAll", desc := "()I" } : Jvm.MethodName)) ∈ fx_TB := fx_mem 1124 (by decide +kernel) rfl
theorem tb_1029 : (Jvm.Cond.instanceMethod ({ cls := "FearLocks$City", name := "openedInAll", desc := "()I" } : Jvm.MethodName)) ∈ fx_TB := fx_mem 1125 (by decide +kernel) rfl
theorem tb_1030 : (Jvm.Cond.selects "FearLocks$City" ({ cls := "FearLocks$City", name := "openedInAll", desc := "()I" } : Jvm.MethodName) ({ cls := "FearLocks$City", name := "openedInAll", desc := "()I" } : Jvm.MethodName)) ∈ fx_TB := fx_mem 1126 (by decide +kernel) rfl
theorem tb_1031 : (Jvm.Cond.code ({ cls := "FearLocks$City", name := "openedInAll", desc := "()I" } : Jvm.MethodName) prog_2_method_22_code (3 : Nat) (Option.some Jvm.ClassFile.FieldType.int)) ∈ fx_TB := fx_mem 1127 (by decide +kernel) rfl
theorem tb_1032 : (Jvm.Cond.classLink "FearLocksLaw" (10 : Nat) "FearLocksModel") ∈ fx_TB := fx_mem 1128 (by decide +kernel) rfl
theorem tb_1033 : (Jvm.Cond.instantiable "FearLocksModel" (52 : Nat)) ∈ fx_TB := fx_mem 1129 (by decide +kernel) rfl
theorem tb_1034 : (Jvm.Cond.methodLink "FearLocksLaw" (12 : Nat) ({ cls := "FearLocksModel", name := "<init>", desc := "()V" } : Jvm.MethodName)) ∈ fx_TB := fx_mem 1130 (by decide +kernel) rfl
theorem tb_1035 : (Jvm.Cond.instanceMethod ({ cls := "FearLocksModel", name := "<init>", desc := "()V" } : Jvm.MethodName)) ∈ fx_TB := fx_mem 1131 (by decide +kernel) rfl
theorem tb_1036 : (Jvm.Cond.code ({ cls := "FearLocksModel", name := "<init>", desc := "()V" } : Jvm.MethodName) prog_14_method_1_code (1 : Nat) (Option.none : Option Jvm.ClassFile.FieldType)) ∈ fx_TB := fx_mem 1132 (by decide +kernel) rfl
theorem tb_1037 : (Jvm.Cond.methodLink "FearLocksModel" (1 : Nat) ({ cls := "java/lang/Object", name := "<init>", desc := "()V" } : Jvm.MethodName)) ∈ fx_TB := fx_mem 1133 (by decide +kernel) rfl
theorem tb_1038 : (Jvm.Cond.constant "FearLocksModel" (106 : Nat) (49152 : Int32)) ∈ fx_TB := fx_mem 1134 (by decide +kernel) rfl
theorem tb_1039 : (Jvm.Cond.fieldLink "FearLocksModel" (7 : Nat) "FearLocksModel" "now" "[I") ∈ fx_TB := fx_mem 1135 (by decide +kernel) rfl
theorem tb_1040 : (Jvm.Cond.fieldLink "FearLocksModel" (13 : Nat) "FearLocksModel" "aside" "[I") ∈ fx_TB := fx_mem 1136 (by decide +kernel) rfl
theorem tb_1041 : (Jvm.Cond.fieldLink "FearLocksModel" (16 : Nat) "FearLocksModel" "kept" "[I") ∈ fx_TB := fx_mem 1137 (by decide +kernel) rfl
theorem tb_1042 : (Jvm.Cond.fieldLink "FearLocksModel" (19 : Nat) "FearLocksModel" "knownOf" "[I") ∈ fx_TB := fx_mem 1138 (by decide +kernel) rfl
theorem tb_1043 : (Jvm.Cond.fieldLink "FearLocksModel" (22 : Nat) "FearLocksModel" "wasKnown" "[I") ∈ fx_TB := fx_mem 1139 (by decide +kernel) rfl
theorem tb_1044 : (Jvm.Cond.fieldLink "FearLocksModel" (25 : Nat) "FearLocksModel" "fearAt" "[I") ∈ fx_TB := fx_mem 1140 (by decide +kernel) rfl
theorem tb_1045 : (Jvm.Cond.fieldLink "FearLocksModel" (28 : Nat) "FearLocksModel" "strengthAt" "[I") ∈ fx_TB := fx_mem 1141 (by decide +kernel) rfl
theorem tb_1046 : (Jvm.Cond.fieldLink "FearLocksModel" (31 : Nat) "FearLocksModel" "wasFear" "[I") ∈ fx_TB := fx_mem 1142 (by decide +kernel) rfl
theorem tb_1047 : (Jvm.Cond.fieldLink "FearLocksModel" (34 : Nat) "FearLocksModel" "wasStrength" "[I") ∈ fx_TB := fx_mem 1143 (by decide +kernel) rfl
theorem tb_1048 : (Jvm.Cond.fieldLink "FearLocksModel" (121 : Nat) "FearLocksModel" "toldPeople" "I") ∈ fx_TB := fx_mem 1144 (by decide +kernel) rfl
theorem tb_1049 : (Jvm.Cond.fieldLink "FearLocksModel" (129 : Nat) "FearLocksModel" "toldDoors" "I") ∈ fx_TB := fx_mem 1145 (by decide +kernel) rfl
theorem tb_1050 : (Jvm.Cond.fieldLink "FearLocksModel" (296 : Nat) "FearLocksModel" "wasDoors" "I") ∈ fx_TB := fx_mem 1146 (by decide +kernel) rfl
theorem tb_1051 : (Jvm.Cond.fieldLink "FearLocksModel" (37 : Nat) "FearLocksModel" "tape" "[B") ∈ fx_TB := fx_mem 1147 (by decide +kernel) rfl
theorem tb_1052 : (Jvm.Cond.fieldLink "FearLocksModel" (152 : Nat) "FearLocksModel" "taped" "I") ∈ fx_TB := fx_mem 1148 (by decide +kernel) rfl
theorem tb_1053 : (Jvm.Cond.fieldLink "FearLocksModel" (159 : Nat) "FearLocksModel" "place0" "I") ∈ fx_TB := fx_mem 1149 (by decide +kernel) rfl
theorem tb_1054 : (Jvm.Cond.fieldLink "FearLocksModel" (162 : Nat) "FearLocksModel" "length0" "I") ∈ fx_TB := fx_mem 1150 (by decide +kernel) rfl
theorem tb_1055 : (Jvm.Cond.fieldLink "FearLocksModel" (169 : Nat) "FearLocksModel" "fault" "I") ∈ fx_TB := fx_mem 1151 (by decide +kernel) rfl
theorem tb_1056 : (Jvm.Cond.fieldLink "FearLocksModel" (175 : Nat) "FearLocksModel" "number0" "I") ∈ fx_TB := fx_mem 1152 (by decide +kernel) rfl
theorem tb_1057 : (Jvm.Cond.fieldLink "FearLocksModel" (186 : Nat) "FearLocksModel" "open" "I") ∈ fx_TB := fx_mem 1153 (by decide +kernel) rfl
theorem tb_1058 : (Jvm.Cond.fieldLink "FearLocksModel" (182 : Nat) "FearLocksModel" "codeMany" "I") ∈ fx_TB := fx_mem 1154 (by decide +kernel) rfl
theorem tb_1059 : (Jvm.Cond.fieldLink "FearLocksModel" (189 : Nat) "FearLocksModel" "waiting" "I") ∈ fx_TB := fx_mem 1155 (by decide +kernel) rfl
theorem tb_1060 : (Jvm.Cond.fieldLink "FearLocksModel" (236 : Nat) "FearLocksModel" "saidMany" "I") ∈ fx_TB := fx_mem 1156 (by decide +kernel) rfl
theorem tb_1061 : (Jvm.Cond.fieldLink "FearLocksModel" (251 : Nat) "FearLocksModel" "clauses" "I") ∈ fx_TB := fx_mem 1157 (by decide +kernel) rfl
theorem tb_1062 : (Jvm.Cond.fieldLink "FearLocksModel" (41 : Nat) "FearLocksModel" "said" "[I") ∈ fx_TB := fx_mem 1158 (by decide +kernel) rfl
theorem tb_1063 : (Jvm.Cond.fieldLink "FearLocksModel" (44 : Nat) "FearLocksModel" "waitsAt" "[I") ∈ fx_TB := fx_mem 1159 (by decide +kernel) rfl
theorem tb_1064 : (Jvm.Cond.fieldLink "FearLocksModel" (47 : Nat) "FearLocksModel" "saidLetter" "[I") ∈ fx_TB := fx_mem 1160 (by decide +kernel) rfl
theorem tb_1065 : (Jvm.Cond.fieldLink "FearLocksModel" (50 : Nat) "FearLocksModel" "saidFrom" "[I") ∈ fx_TB := fx_mem 1161 (by decide +kernel) rfl
theorem tb_1066 : (Jvm.Cond.fieldLink "FearLocksModel" (53 : Nat) "FearLocksModel" "saidHalf" "[I") ∈ fx_TB := fx_mem 1162 (by decide +kernel) rfl
theorem tb_1067 : (Jvm.Cond.fieldLink "FearLocksModel" (56 : Nat) "FearLocksModel" "saidTo" "[I") ∈ fx_TB := fx_mem 1163 (by decide +kernel) rfl
theorem tb_1068 : (Jvm.Cond.fieldLink "FearLocksModel" (59 : Nat) "FearLocksModel" "codes" "[I") ∈ fx_TB := fx_mem 1164 (by decide +kernel) rfl
theorem tb_1069 : (Jvm.Cond.fieldLink "FearLocksModel" (62 : Nat) "FearLocksModel" "clauseOf" "[I") ∈ fx_TB := fx_mem 1165 (by decide +kernel) rfl
theorem tb_1070 : (Jvm.Cond.fieldLink "FearLocksModel" (65 : Nat) "FearLocksModel" "codeFrom" "[I") ∈ fx_TB := fx_mem 1166 (by decide +kernel) rfl
theorem tb_1071 : (Jvm.Cond.fieldLink "FearLocksModel" (68 : Nat) "FearLocksModel" "codeHalf" "[I") ∈ fx_TB := fx_mem 1167 (by decide +kernel) rfl
theorem tb_1072 : (Jvm.Cond.fieldLink "FearLocksModel" (71 : Nat) "FearLocksModel" "codeTo" "[I") ∈ fx_TB := fx_mem 1168 (by decide +kernel) rfl
theorem tb_1073 : (Jvm.Cond.fieldLink "FearLocksModel" (74 : Nat) "FearLocksModel" "stack" "[I") ∈ fx_TB := fx_mem 1169 (by decide +kernel) rfl
theorem tb_1074 : (Jvm.Cond.fieldLink "FearLocksModel" (77 : Nat) "FearLocksModel" "facts" "[I") ∈ fx_TB := fx_mem 1170 (by decide +kernel) rfl
theorem tb_1075 : (Jvm.Cond.fieldLink "FearLocksModel" (268 : Nat) "FearLocksModel" "lines" "I") ∈ fx_TB := fx_mem 1171 (by decide +kernel) rfl
theorem tb_1076 : (Jvm.Cond.fieldLink "FearLocksModel" (262 : Nat) "FearLocksModel" "meantSet" "I") ∈ fx_TB := fx_mem 1172 (by decide +kernel) rfl
theorem tb_1077 : (Jvm.Cond.fieldLink "FearLocksModel" (321 : Nat) "FearLocksModel" "openedNow" "I") ∈ fx_TB := fx_mem 1173 (by decide +kernel) rfl
theorem tb_1078 : (Jvm.Cond.fieldLink "FearLocksModel" (324 : Nat) "FearLocksModel" "vainNow" "I") ∈ fx_TB := fx_mem 1174 (by decide +kernel) rfl
theorem tb_1079 : (Jvm.Cond.fieldLink "FearLocksModel" (80 : Nat) "FearLocksModel" "fearThen" "[I") ∈ fx_TB := fx_mem 1175 (by decide +kernel) rfl
theorem tb_1080 : (Jvm.Cond.fieldLink "FearLocksModel" (83 : Nat) "FearLocksModel" "moreBy" "[I") ∈ fx_TB := fx_mem 1176 (by decide +kernel) rfl
theorem tb_1081 : (Jvm.Cond.fieldLink "FearLocksModel" (86 : Nat) "FearLocksModel" "canBe" "[Z") ∈ fx_TB := fx_mem 1177 (by decide +kernel) rfl
theorem tb_1082 : (Jvm.Cond.fieldLink "FearLocksModel" (90 : Nat) "FearLocksModel" "mostOf" "[I") ∈ fx_TB := fx_mem 1178 (by decide +kernel) rfl
theorem tb_1083 : (Jvm.Cond.fieldLink "FearLocksModel" (93 : Nat) "FearLocksModel" "whoOf" "[I") ∈ fx_TB := fx_mem 1179 (by decide +kernel) rfl
theorem tb_1084 : (Jvm.Cond.fieldLink "FearLocksModel" (395 : Nat) "FearLocksModel" "lowNow" "I") ∈ fx_TB := fx_mem 1180 (by decide +kernel) rfl
theorem tb_1085 : (Jvm.Cond.fieldLink "FearLocksModel" (398 : Nat) "FearLocksModel" "highNow" "I") ∈ fx_TB := fx_mem 1181 (by decide +kernel) rfl
theorem tb_1086 : (Jvm.Cond.fieldLink "FearLocksModel" (96 : Nat) "FearLocksModel" "orderNow" "[I") ∈ fx_TB := fx_mem 1182 (by decide +kernel) rfl
theorem tb_1087 : (Jvm.Cond.fieldLink "FearLocksModel" (99 : Nat) "FearLocksModel" "wordsOf" "[J") ∈ fx_TB := fx_mem 1183 (by decide +kernel) rfl
theorem tb_1088 : (Jvm.Cond.fieldLink "FearLocksModel" (103 : Nat) "FearLocksModel" "wordsThen" "[J") ∈ fx_TB := fx_mem 1184 (by decide +kernel) rfl
theorem tb_1089 : (Jvm.Cond.fieldLink "FearLocksModel" (107 : Nat) "FearLocksModel" "leastBy" "[I") ∈ fx_TB := fx_mem 1185 (by decide +kernel) rfl
theorem tb_1090 : (Jvm.Cond.fieldLink "FearLocksModel" (424 : Nat) "FearLocksModel" "isKept" "Z") ∈ fx_TB := fx_mem 1186 (by decide +kernel) rfl
theorem tb_1091 : (Jvm.Cond.laysFinal "FearLocksModel" "FearLocksModel" "now" "[I") ∈ fx_TB := fx_mem 1187 (by decide +kernel) rfl
theorem tb_1092 : (Jvm.Cond.soleField "FearLocksModel" "now") ∈ fx_TB := fx_mem 1188 (by decide +kernel) rfl
theorem tb_1093 : (Jvm.Cond.laysFinal "FearLocksModel" "FearLocksModel" "aside" "[I") ∈ fx_TB := fx_mem 1189 (by decide +kernel) rfl
theorem tb_1094 : (Jvm.Cond.soleField "FearLocksModel" "aside") ∈ fx_TB := fx_mem 1190 (by decide +kernel) rfl
theorem tb_1095 : (Jvm.Cond.laysFinal "FearLocksModel" "FearLocksModel" "kept" "[I") ∈ fx_TB := fx_mem 1191 (by decide +kernel) rfl
theorem tb_1096 : (Jvm.Cond.soleField "FearLocksModel" "kept") ∈ fx_TB := fx_mem 1192 (by decide +kernel) rfl
theorem tb_1097 : (Jvm.Cond.laysFinal "FearLocksModel" "FearLocksModel" "knownOf" "[I") ∈ fx_TB := fx_mem 1193 (by decide +kernel) rfl
theorem tb_1098 : (Jvm.Cond.soleField "FearLocksModel" "knownOf") ∈ fx_TB := fx_mem 1194 (by decide +kernel) rfl
theorem tb_1099 : (Jvm.Cond.laysFinal "FearLocksModel" "FearLocksModel" "wasKnown" "[I") ∈ fx_TB := fx_mem 1195 (by decide +kernel) rfl
theorem tb_1100 : (Jvm.Cond.soleField "FearLocksModel" "wasKnown") ∈ fx_TB := fx_mem 1196 (by decide +kernel) rfl
theorem tb_1101 : (Jvm.Cond.laysFinal "FearLocksModel" "FearLocksModel" "fearAt" "[I") ∈ fx_TB := fx_mem 1197 (by decide +kernel) rfl
theorem tb_1102 : (Jvm.Cond.soleField "FearLocksModel" "fearAt") ∈ fx_TB := fx_mem 1198 (by decide +kernel) rfl
theorem tb_1103 : (Jvm.Cond.laysFinal "FearLocksModel" "FearLocksModel" "strengthAt" "[I") ∈ fx_TB := fx_mem 1199 (by decide +kernel) rfl
theorem tb_1104 : (Jvm.Cond.soleField "FearLocksModel" "strengthAt") ∈ fx_TB := fx_mem 1200 (by decide +kernel) rfl
theorem tb_1105 : (Jvm.Cond.laysFinal "FearLocksModel" "FearLocksModel" "wasFear" "[I") ∈ fx_TB := fx_mem 1201 (by decide +kernel) rfl
theorem tb_1106 : (Jvm.Cond.soleField "FearLocksModel" "wasFear") ∈ fx_TB := fx_mem 1202 (by decide +kernel) rfl
theorem tb_1107 : (Jvm.Cond.laysFinal "FearLocksModel" "FearLocksModel" "wasStrength" "[I") ∈ fx_TB := fx_mem 1203 (by decide +kernel) rfl
theorem tb_1108 : (Jvm.Cond.soleField "FearLocksModel" "wasStrength") ∈ fx_TB := fx_mem 1204 (by decide +kernel) rfl
theorem tb_1109 : (Jvm.Cond.lays "FearLocksModel" "FearLocksModel" "toldPeople" "I") ∈ fx_TB := fx_mem 1205 (by decide +kernel) rfl
theorem tb_1110 : (Jvm.Cond.soleField "FearLocksModel" "toldPeople") ∈ fx_TB := fx_mem 1206 (by decide +kernel) rfl
theorem tb_1111 : (Jvm.Cond.lays "FearLocksModel" "FearLocksModel" "toldDoors" "I") ∈ fx_TB := fx_mem 1207 (by decide +kernel) rfl
theorem tb_1112 : (Jvm.Cond.soleField "FearLocksModel" "toldDoors") ∈ fx_TB := fx_mem 1208 (by decide +kernel) rfl
theorem tb_1113 : (Jvm.Cond.lays "FearLocksModel" "FearLocksModel" "wasDoors" "I") ∈ fx_TB := fx_mem 1209 (by decide +kernel) rfl
theorem tb_1114 : (Jvm.Cond.soleField "FearLocksModel" "wasDoors") ∈ fx_TB := fx_mem 1210 (by decide +kernel) rfl
theorem tb_1115 : (Jvm.Cond.laysFinal "FearLocksModel" "FearLocksModel" "tape" "[B") ∈ fx_TB := fx_mem 1211 (by decide +kernel) rfl
theorem tb_1116 : (Jvm.Cond.soleField "FearLocksModel" "tape") ∈ fx_TB := fx_mem 1212 (by decide +kernel) rfl
theorem tb_1117 : (Jvm.Cond.lays "FearLocksModel" "FearLocksModel" "taped" "I") ∈ fx_TB := fx_mem 1213 (by decide +kernel) rfl
theorem tb_1118 : (Jvm.Cond.soleField "FearLocksModel" "taped") ∈ fx_TB := fx_mem 1214 (by decide +kernel) rfl
theorem tb_1119 : (Jvm.Cond.lays "FearLocksModel" "FearLocksModel" "place0" "I") ∈ fx_TB := fx_mem 1215 (by decide +kernel) rfl
theorem tb_1120 : (Jvm.Cond.soleField "FearLocksModel" "place0") ∈ fx_TB := fx_mem 1216 (by decide +kernel) rfl
theorem tb_1121 : (Jvm.Cond.lays "FearLocksModel" "FearLocksModel" "length0" "I") ∈ fx_TB := fx_mem 1217 (by decide +kernel) rfl
theorem tb_1122 : (Jvm.Cond.soleField "FearLocksModel" "length0") ∈ fx_TB := fx_mem 1218 (by decide +kernel) rfl
theorem tb_1123 : (Jvm.Cond.lays "FearLocksModel" "FearLocksModel" "fault" "I") ∈ fx_TB := fx_mem 1219 (by decide +kernel) rfl
theorem tb_1124 : (Jvm.Cond.soleField "FearLocksModel" "fault") ∈ fx_TB := fx_mem 1220 (by decide +kernel) rfl
theorem tb_1125 : (Jvm.Cond.lays "FearLocksModel" "FearLocksModel" "number0" "I") ∈ fx_TB := fx_mem 1221 (by decide +kernel) rfl
theorem tb_1126 : (Jvm.Cond.soleField "FearLocksModel" "number0") ∈ fx_TB := fx_mem 1222 (by decide +kernel) rfl
theorem tb_1127 : (Jvm.Cond.lays "FearLocksModel" "FearLocksModel" "open" "I") ∈ fx_TB := fx_mem 1223 (by decide +kernel) rfl
theorem tb_1128 : (Jvm.Cond.soleField "FearLocksModel" "open") ∈ fx_TB := fx_mem 1224 (by decide +kernel) rfl
theorem tb_1129 : (Jvm.Cond.lays "FearLocksModel" "FearLocksModel" "codeMany" "I") ∈ fx_TB := fx_mem 1225 (by decide +kernel) rfl
theorem tb_1130 : (Jvm.Cond.soleField "FearLocksModel" "codeMany") ∈ fx_TB := fx_mem 1226 (by decide +kernel) rfl
theorem tb_1131 : (Jvm.Cond.lays "FearLocksModel" "FearLocksModel" "waiting" "I") ∈ fx_TB := fx_mem 1227 (by decide +kernel) rfl
theorem tb_1132 : (Jvm.Cond.soleField "FearLocksModel" "waiting") ∈ fx_TB := fx_mem 1228 (by decide +kernel) rfl
theorem tb_1133 : (Jvm.Cond.lays "FearLocksModel" "FearLocksModel" "saidMany" "I") ∈ fx_TB := fx_mem 1229 (by decide +kernel) rfl
theorem tb_1134 : (Jvm.Cond.soleField "FearLocksModel" "saidMany") ∈ fx_TB := fx_mem 1230 (by decide +kernel) rfl
theorem tb_1135 : (Jvm.Cond.lays "FearLocksModel" "FearLocksModel" "clauses" "I") ∈ fx_TB := fx_mem 1231 (by decide +kernel) rfl
theorem tb_1136 : (Jvm.Cond.soleField "FearLocksModel" "clauses") ∈ fx_TB := fx_mem 1232 (by decide +kernel) rfl
theorem tb_1137 : (Jvm.Cond.laysFinal "FearLocksModel" "FearLocksModel" "said" "[I") ∈ fx_TB := fx_mem 1233 (by decide +kernel) rfl
theorem tb_1138 : (Jvm.Cond.soleField "FearLocksModel" "said") ∈ fx_TB := fx_mem 1234 (by decide +kernel) rfl
theorem tb_1139 : (Jvm.Cond.laysFinal "FearLocksModel" "FearLocksModel" "waitsAt" "[I") ∈ fx_TB := fx_mem 1235 (by decide +kernel) rfl
theorem tb_1140 : (Jvm.Cond.soleField "FearLocksModel" "waitsAt") ∈ fx_TB := fx_mem 1236 (by decide +kernel) rfl
theorem tb_1141 : (Jvm.Cond.laysFinal "FearLocksModel" "FearLocksModel" "saidLetter" "[I") ∈ fx_TB := fx_mem 1237 (by decide +kernel) rfl
theorem tb_1142 : (Jvm.Cond.soleField "FearLocksModel" "saidLetter") ∈ fx_TB := fx_mem 1238 (by decide +kernel) rfl
theorem tb_1143 : (Jvm.Cond.laysFinal "FearLocksModel" "FearLocksModel" "saidFrom" "[I") ∈ fx_TB := fx_mem 1239 (by decide +kernel) rfl
theorem tb_1144 : (Jvm.Cond.soleField "FearLocksModel" "saidFrom") ∈ fx_TB := fx_mem 1240 (by decide +kernel) rfl
theorem tb_1145 : (Jvm.Cond.laysFinal "FearLocksModel" "FearLocksModel" "saidHalf" "[I") ∈ fx_TB := fx_mem 1241 (by decide +kernel) rfl
theorem tb_1146 : (Jvm.Cond.soleField "FearLocksModel" "saidHalf") ∈ fx_TB := fx_mem 1242 (by decide +kernel) rfl
theorem tb_1147 : (Jvm.Cond.laysFinal "FearLocksModel" "FearLocksModel" "saidTo" "[I") ∈ fx_TB := fx_mem 1243 (by decide +kernel) rfl
theorem tb_1148 : (Jvm.Cond.soleField "FearLocksModel" "saidTo") ∈ fx_TB := fx_mem 1244 (by decide +kernel) rfl
theorem tb_1149 : (Jvm.Cond.laysFinal "FearLocksModel" "FearLocksModel" "codes" "[I") ∈ fx_TB := fx_mem 1245 (by decide +kernel) rfl
theorem tb_1150 : (Jvm.Cond.soleField "FearLocksModel" "codes") ∈ fx_TB := fx_mem 1246 (by decide +kernel) rfl
theorem tb_1151 : (Jvm.Cond.laysFinal "FearLocksModel" "FearLocksModel" "clauseOf" "[I") ∈ fx_TB := fx_mem 1247 (by decide +kernel) rfl
theorem tb_1152 : (Jvm.Cond.soleField "FearLocksModel" "clauseOf") ∈ fx_TB := fx_mem 1248 (by decide +kernel) rfl
theorem tb_1153 : (Jvm.Cond.laysFinal "FearLocksModel" "FearLocksModel" "codeFrom" "[I") ∈ fx_TB := fx_mem 1249 (by decide +kernel) rfl
theorem tb_1154 : (Jvm.Cond.soleField "FearLocksModel" "codeFrom") ∈ fx_TB := fx_mem 1250 (by decide +kernel) rfl
theorem tb_1155 : (Jvm.Cond.laysFinal "FearLocksModel" "FearLocksModel" "codeHalf" "[I") ∈ fx_TB := fx_mem 1251 (by decide +kernel) rfl
theorem tb_1156 : (Jvm.Cond.soleField "FearLocksModel" "codeHalf") ∈ fx_TB := fx_mem 1252 (by decide +kernel) rfl
theorem tb_1157 : (Jvm.Cond.laysFinal "FearLocksModel" "FearLocksModel" "codeTo" "[I") ∈ fx_TB := fx_mem 1253 (by decide +kernel) rfl
theorem tb_1158 : (Jvm.Cond.soleField "FearLocksModel" "codeTo") ∈ fx_TB := fx_mem 1254 (by decide +kernel) rfl
theorem tb_1159 : (Jvm.Cond.laysFinal "FearLocksModel" "FearLocksModel" "stack" "[I") ∈ fx_TB := fx_mem 1255 (by decide +kernel) rfl
theorem tb_1160 : (Jvm.Cond.soleField "FearLocksModel" "stack") ∈ fx_TB := fx_mem 1256 (by decide +kernel) rfl
theorem tb_1161 : (Jvm.Cond.laysFinal "FearLocksModel" "FearLocksModel" "facts" "[I") ∈ fx_TB := fx_mem 1257 (by decide +kernel) rfl
theorem tb_1162 : (Jvm.Cond.soleField "FearLocksModel" "facts") ∈ fx_TB := fx_mem 1258 (by decide +kernel) rfl
theorem tb_1163 : (Jvm.Cond.lays "FearLocksModel" "FearLocksModel" "lines" "I") ∈ fx_TB := fx_mem 1259 (by decide +kernel) rfl
theorem tb_1164 : (Jvm.Cond.soleField "FearLocksModel" "lines") ∈ fx_TB := fx_mem 1260 (by decide +kernel) rfl
theorem tb_1165 : (Jvm.Cond.lays "FearLocksModel" "FearLocksModel" "meantSet" "I") ∈ fx_TB := fx_mem 1261 (by decide +kernel) rfl
theorem tb_1166 : (Jvm.Cond.soleField "FearLocksModel" "meantSet") ∈ fx_TB := fx_mem 1262 (by decide +kernel) rfl
theorem tb_1167 : (Jvm.Cond.lays "FearLocksModel" "FearLocksModel" "openedNow" "I") ∈ fx_TB := fx_mem 1263 (by decide +kernel) rfl
theorem tb_1168 : (Jvm.Cond.soleField "FearLocksModel" "openedNow") ∈ fx_TB := fx_mem 1264 (by decide +kernel) rfl
theorem tb_1169 : (Jvm.Cond.lays "FearLocksModel" "FearLocksModel" "vainNow" "I") ∈ fx_TB := fx_mem 1265 (by decide +kernel) rfl
theorem tb_1170 : (Jvm.Cond.soleField "FearLocksModel" "vainNow") ∈ fx_TB := fx_mem 1266 (by decide +kernel) rfl
theorem tb_1171 : (Jvm.Cond.laysFinal "FearLocksModel" "FearLocksModel" "fearThen" "[I") ∈ fx_TB := fx_mem 1267 (by decide +kernel) rfl
theorem tb_1172 : (Jvm.Cond.soleField "FearLocksModel" "fearThen") ∈ fx_TB := fx_mem 1268 (by decide +kernel) rfl
theorem tb_1173 : (Jvm.Cond.laysFinal "FearLocksModel" "FearLocksModel" "moreBy" "[I") ∈ fx_TB := fx_mem 1269 (by decide +kernel) rfl
theorem tb_1174 : (Jvm.Cond.soleField "FearLocksModel" "moreBy") ∈ fx_TB := fx_mem 1270 (by decide +kernel) rfl
theorem tb_1175 : (Jvm.Cond.laysFinal "FearLocksModel" "FearLocksModel" "canBe" "[Z") ∈ fx_TB := fx_mem 1271 (by decide +kernel) rfl
theorem tb_1176 : (Jvm.Cond.soleField "FearLocksModel" "canBe") ∈ fx_TB := fx_mem 1272 (by decide +kernel) rfl
theorem tb_1177 : (Jvm.Cond.laysFinal "FearLocksModel" "FearLocksModel" "mostOf" "[I") ∈ fx_TB := fx_mem 1273 (by decide +kernel) rfl
theorem tb_1178 : (Jvm.Cond.soleField "FearLocksModel" "mostOf") ∈ fx_TB := fx_mem 1274 (by decide +kernel) rfl
theorem tb_1179 : (Jvm.Cond.laysFinal "FearLocksModel" "FearLocksModel" "whoOf" "[I") ∈ fx_TB := fx_mem 1275 (by decide +kernel) rfl
theorem tb_1180 : (Jvm.Cond.soleField "FearLocksModel" "whoOf") ∈ fx_TB := fx_mem 1276 (by decide +kernel) rfl
theorem tb_1181 : (Jvm.Cond.lays "FearLocksModel" "FearLocksModel" "lowNow" "I") ∈ fx_TB := fx_mem 1277 (by decide +kernel) rfl
theorem tb_1182 : (Jvm.Cond.soleField "FearLocksModel" "lowNow") ∈ fx_TB := fx_mem 1278 (by decide +kernel) rfl
theorem tb_1183 : (Jvm.Cond.lays "FearLocksModel" "FearLocksModel" "highNow" "I") ∈ fx_TB := fx_mem 1279 (by decide +kernel) rfl
theorem tb_1184 : (Jvm.Cond.soleField "FearLocksModel" "highNow") ∈ fx_TB := fx_mem 1280 (by decide +kernel) rfl
theorem tb_1185 : (Jvm.Cond.laysFinal "FearLocksModel" "FearLocksModel" "orderNow" "[I") ∈ fx_TB := fx_mem 1281 (by decide +kernel) rfl
theorem tb_1186 : (Jvm.Cond.soleField "FearLocksModel" "orderNow") ∈ fx_TB := fx_mem 1282 (by decide +kernel) rfl
theorem tb_1187 : (Jvm.Cond.laysFinal "FearLocksModel" "FearLocksModel" "wordsOf" "[J") ∈ fx_TB := fx_mem 1283 (by decide +kernel) rfl
theorem tb_1188 : (Jvm.Cond.soleField "FearLocksModel" "wordsOf") ∈ fx_TB := fx_mem 1284 (by decide +kernel) rfl
theorem tb_1189 : (Jvm.Cond.laysFinal "FearLocksModel" "FearLocksModel" "wordsThen" "[J") ∈ fx_TB := fx_mem 1285 (by decide +kernel) rfl
theorem tb_1190 : (Jvm.Cond.soleField "FearLocksModel" "wordsThen") ∈ fx_TB := fx_mem 1286 (by decide +kernel) rfl
theorem tb_1191 : (Jvm.Cond.laysFinal "FearLocksModel" "FearLocksModel" "leastBy" "[I") ∈ fx_TB := fx_mem 1287 (by decide +kernel) rfl
theorem tb_1192 : (Jvm.Cond.soleField "FearLocksModel" "leastBy") ∈ fx_TB := fx_mem 1288 (by decide +kernel) rfl
theorem tb_1193 : (Jvm.Cond.lays "FearLocksModel" "FearLocksModel" "isKept" "Z") ∈ fx_TB := fx_mem 1289 (by decide +kernel) rfl
theorem tb_1194 : (Jvm.Cond.soleField "FearLocksModel" "isKept") ∈ fx_TB := fx_mem 1290 (by decide +kernel) rfl
theorem tb_1195 : (Jvm.Cond.superclass "FearLocksModel" "java/lang/Object") ∈ fx_TB := fx_mem 1291 (by decide +kernel) rfl
theorem tb_1196 : (Jvm.Cond.arrayClass Jvm.ClassFile.FieldType.boolean) ∈ fx_TB := fx_mem 1292 (by decide +kernel) rfl
theorem tb_1197 : (Jvm.Cond.methodLink "FearLocksLaw" (17 : Nat) ({ cls := "FearLocksModel", name := "feed", desc := "(IIIII)I" } : Jvm.MethodName)) ∈ fx_TB := fx_mem 1293 (by decide +kernel) rfl
theorem tb_1198 : (Jvm.Cond.instanceMethod ({ cls := "FearLocksModel", name := "feed", desc := "(IIIII)I" } : Jvm.MethodName)) ∈ fx_TB := fx_mem 1294 (by decide +kernel) rfl
theorem tb_1199 : (Jvm.Cond.selects "FearLocksModel" ({ cls := "FearLocksModel", name := "feed", desc := "(IIIII)I" } : Jvm.MethodName) ({ cls := "FearLocksModel", name := "feed", desc := "(IIIII)I" } : Jvm.MethodName)) ∈ fx_TB := fx_mem 1295 (by decide +kernel) rfl
theorem tb_1200 : (Jvm.Cond.code ({ cls := "FearLocksModel", name := "feed", desc := "(IIIII)I" } : Jvm.MethodName) prog_14_method_19_code (6 : Nat) (Option.some Jvm.ClassFile.FieldType.int)) ∈ fx_TB := fx_mem 1296 (by decide +kernel) rfl
theorem tb_1201 : (Jvm.Cond.methodLink "FearLocksModel" (155 : Nat) ({ cls := "FearLocksModel", name := "types", desc := "(I)V" } : Jvm.MethodName)) ∈ fx_TB := fx_mem 1297 (by decide +kernel) rfl
theorem tb_1202 : (Jvm.Cond.privateMethod ({ cls := "FearLocksModel", name := "types", desc := "(I)V" } : Jvm.MethodName)) ∈ fx_TB := fx_mem 1298 (by decide +kernel) rfl
theorem tb_1203 : (Jvm.Cond.instanceMethod ({ cls := "FearLocksModel", name := "types", desc := "(I)V" } : Jvm.MethodName)) ∈ fx_TB := fx_mem 1299 (by decide +kernel) rfl
theorem tb_1204 : (Jvm.Cond.code ({ cls := "FearLocksModel", name := "types", desc := "(I)V" } : Jvm.MethodName) prog_14_method_18_code (3 : Nat) (Option.none : Option Jvm.ClassFile.FieldType)) ∈ fx_TB := fx_mem 1300 (by decide +kernel) rfl
theorem tb_1205 : (Jvm.Cond.methodLink "FearLocksLaw" (22 : Nat) ({ cls := "FearLocksModel", name := "law", desc := "(I)I" } : Jvm.MethodName)) ∈ fx_TB := fx_mem 1301 (by decide +kernel) rfl
theorem tb_1206 : (Jvm.Cond.instanceMethod ({ cls := "FearLocksModel", name := "law", desc := "(I)I" } : Jvm.MethodName)) ∈ fx_TB := fx_mem 1302 (by decide +kernel) rfl
theorem tb_1207 : (Jvm.Cond.selects "FearLocksModel" ({ cls := "FearLocksModel", name := "law", desc := "(I)I" } : Jvm.MethodName) ({ cls := "FearLocksModel", name := "law", desc := "(I)I" } : Jvm.MethodName)) ∈ fx_TB := fx_mem 1303 (by decide +kernel) rfl
theorem tb_1208 : (Jvm.Cond.code ({ cls := "FearLocksModel", name := "law", desc := "(I)I" } : Jvm.MethodName) prog_14_method_42_code (4 : Nat) (Option.some Jvm.ClassFile.FieldType.int)) ∈ fx_TB := fx_mem 1304 (by decide +kernel) rfl
theorem tb_1209 : (Jvm.Cond.methodLink "FearLocksModel" (117 : Nat) ({ cls := "FearLocksModel", name := "in", desc := "(III)Z" } : Jvm.MethodName)) ∈ fx_TB := fx_mem 1305 (by decide +kernel) rfl
theorem tb_1210 : (Jvm.Cond.static ({ cls := "FearLocksModel", name := "in", desc := "(III)Z" } : Jvm.MethodName)) ∈ fx_TB := fx_mem 1306 (by decide +kernel) rfl
theorem tb_1211 : (Jvm.Cond.code ({ cls := "FearLocksModel", name := "in", desc := "(III)Z" } : Jvm.MethodName) prog_14_method_2_code (3 : Nat) (Option.some Jvm.ClassFile.FieldType.boolean)) ∈ fx_TB := fx_mem 1307 (by decide +kernel) rfl
theorem tb_1212 : (Jvm.Cond.methodLink "FearLocksModel" (242 : Nat) ({ cls := "FearLocksModel", name := "beginsText", desc := "(I)V" } : Jvm.MethodName)) ∈ fx_TB := fx_mem 1308 (by decide +kernel) rfl
theorem tb_1213 : (Jvm.Cond.privateMethod ({ cls := "FearLocksModel", name := "beginsText", desc := "(I)V" } : Jvm.MethodName)) ∈ fx_TB := fx_mem 1309 (by decide +kernel) rfl
theorem tb_1214 : (Jvm.Cond.instanceMethod ({ cls := "FearLocksModel", name := "beginsText", desc := "(I)V" } : Jvm.MethodName)) ∈ fx_TB := fx_mem 1310 (by decide +kernel) rfl
theorem tb_1215 : (Jvm.Cond.code ({ cls := "FearLocksModel", name := "beginsText", desc := "(I)V" } : Jvm.MethodName) prog_14_method_41_code (2 : Nat) (Option.none : Option Jvm.ClassFile.FieldType)) ∈ fx_TB := fx_mem 1311 (by decide +kernel) rfl
theorem tb_1216 : (Jvm.Cond.methodLink "FearLocksModel" (245 : Nat) ({ cls := "FearLocksModel", name := "readsRule", desc := "()Z" } : Jvm.MethodName)) ∈ fx_TB := fx_mem 1312 (by decide +kernel) rfl
theorem tb_1217 : (Jvm.Cond.privateMethod ({ cls := "FearLocksModel", name := "readsRule", desc := "()Z" } : Jvm.MethodName)) ∈ fx_TB := fx_mem 1313 (by decide +kernel) rfl
theorem tb_1218 : (Jvm.Cond.instanceMethod ({ cls := "FearLocksModel", name := "readsRule", desc := "()Z" } : Jvm.MethodName)) ∈ fx_TB := fx_mem 1314 (by decide +kernel) rfl
theorem tb_1219 : (Jvm.Cond.code ({ cls := "FearLocksModel", name := "readsRule", desc := "()Z" } : Jvm.MethodName) prog_14_method_40_code (2 : Nat) (Option.some Jvm.ClassFile.FieldType.boolean)) ∈ fx_TB := fx_mem 1315 (by decide +kernel) rfl
theorem tb_1220 : (Jvm.Cond.methodLink "FearLocksModel" (165 : Nat) ({ cls := "FearLocksModel", name := "here", desc := "()I" } : Jvm.MethodName)) ∈ fx_TB := fx_mem 1316 (by decide +kernel) rfl
theorem tb_1221 : (Jvm.Cond.privateMethod ({ cls := "FearLocksModel", name := "here", desc := "()I" } : Jvm.MethodName)) ∈ fx_TB := fx_mem 1317 (by decide +kernel) rfl
theorem tb_1222 : (Jvm.Cond.instanceMethod ({ cls := "FearLocksModel", name := "here", desc := "()I" } : Jvm.MethodName)) ∈ fx_TB := fx_mem 1318 (by decide +kernel) rfl
theorem tb_1223 : (Jvm.Cond.code ({ cls := "FearLocksModel", name := "here", desc := "()I" } : Jvm.MethodName) prog_14_method_21_code (1 : Nat) (Option.some Jvm.ClassFile.FieldType.int)) ∈ fx_TB := fx_mem 1319 (by decide +kernel) rfl
theorem tb_1224 : (Jvm.Cond.methodLink "FearLocksModel" (172 : Nat) ({ cls := "FearLocksModel", name := "wrongAt", desc := "(II)Z" } : Jvm.MethodName)) ∈ fx_TB := fx_mem 1320 (by decide +kernel) rfl
theorem tb_1225 : (Jvm.Cond.privateMethod ({ cls := "FearLocksModel", name := "wrongAt", desc := "(II)Z" } : Jvm.MethodName)) ∈ fx_TB := fx_mem 1321 (by decide +kernel) rfl
theorem tb_1226 : (Jvm.Cond.instanceMethod ({ cls := "FearLocksModel", name := "wrongAt", desc := "(II)Z" } : Jvm.MethodName)) ∈ fx_TB := fx_mem 1322 (by decide +kernel) rfl
theorem tb_1227 : (Jvm.Cond.code ({ cls := "FearLocksModel", name := "wrongAt", desc := "(II)Z" } : Jvm.MethodName) prog_14_method_23_code (3 : Nat) (Option.some Jvm.ClassFile.FieldType.boolean)) ∈ fx_TB := fx_mem 1323 (by decide +kernel) rfl
theorem tb_1228 : (Jvm.Cond.methodLink "FearLocksModel" (221 : Nat) ({ cls := "FearLocksModel", name := "readsSum", desc := "()Z" } : Jvm.MethodName)) ∈ fx_TB := fx_mem 1324 (by decide +kernel) rfl
theorem tb_1229 : (Jvm.Cond.privateMethod ({ cls := "FearLocksModel", name := "readsSum", desc := "()Z" } : Jvm.MethodName)) ∈ fx_TB := fx_mem 1325 (by decide +kernel) rfl
theorem tb_1230 : (Jvm.Cond.instanceMethod ({ cls := "FearLocksModel", name := "readsSum", desc := "()Z" } : Jvm.MethodName)) ∈ fx_TB := fx_mem 1326 (by decide +kernel) rfl
theorem tb_1231 : (Jvm.Cond.code ({ cls := "FearLocksModel", name := "readsSum", desc := "()Z" } : Jvm.MethodName) prog_14_method_34_code (3 : Nat) (Option.some Jvm.ClassFile.FieldType.boolean)) ∈ fx_TB := fx_mem 1327 (by decide +kernel) rfl
theorem tb_1232 : (Jvm.Cond.methodLink "FearLocksModel" (208 : Nat) ({ cls := "FearLocksModel", name := "readsFactor", desc := "()Z" } : Jvm.MethodName)) ∈ fx_TB := fx_mem 1328 (by decide +kernel) rfl
theorem tb_1233 : (Jvm.Cond.privateMethod ({ cls := "FearLocksModel", name := "readsFactor", desc := "()Z" } : Jvm.MethodName)) ∈ fx_TB := fx_mem 1329 (by decide +kernel) rfl
theorem tb_1234 : (Jvm.Cond.instanceMethod ({ cls := "FearLocksModel", name := "readsFactor", desc := "()Z" } : Jvm.MethodName)) ∈ fx_TB := fx_mem 1330 (by decide +kernel) rfl
theorem tb_1235 : (Jvm.Cond.code ({ cls := "FearLocksModel", name := "readsFactor", desc := "()Z" } : Jvm.MethodName) prog_14_method_32_code (2 : Nat) (Option.some Jvm.ClassFile.FieldType.boolean)) ∈ fx_TB := fx_mem 1331 (by decide +kernel) rfl
theorem tb_1236 : (Jvm.Cond.methodLink "FearLocksModel" (199 : Nat) ({ cls := "FearLocksModel", name := "opens", desc := "(I)Z" } : Jvm.MethodName)) ∈ fx_TB := fx_mem 1332 (by decide +kernel) rfl
theorem tb_1237 : (Jvm.Cond.privateMethod ({ cls := "FearLocksModel", name := "opens", desc := "(I)Z" } : Jvm.MethodName)) ∈ fx_TB := fx_mem 1333 (by decide +kernel) rfl
theorem tb_1238 : (Jvm.Cond.instanceMethod ({ cls := "FearLocksModel", name := "opens", desc := "(I)Z" } : Jvm.MethodName)) ∈ fx_TB := fx_mem 1334 (by decide +kernel) rfl
theorem tb_1239 : (Jvm.Cond.code ({ cls := "FearLocksModel", name := "opens", desc := "(I)Z" } : Jvm.MethodName) prog_14_method_27_code (2 : Nat) (Option.some Jvm.ClassFile.FieldType.boolean)) ∈ fx_TB := fx_mem 1335 (by decide +kernel) rfl
theorem tb_1240 : (Jvm.Cond.constant "FearLocksModel" (185 : Nat) (1048576 : Int32)) ∈ fx_TB := fx_mem 1336 (by decide +kernel) rfl
theorem tb_1241 : (Jvm.Cond.methodLink "FearLocksModel" (178 : Nat) ({ cls := "FearLocksModel", name := "isDigit", desc := "()Z" } : Jvm.MethodName)) ∈ fx_TB := fx_mem 1337 (by decide +kernel) rfl
theorem tb_1242 : (Jvm.Cond.privateMethod ({ cls := "FearLocksModel", name := "isDigit", desc := "()Z" } : Jvm.MethodName)) ∈ fx_TB := fx_mem 1338 (by decide +kernel) rfl
theorem tb_1243 : (Jvm.Cond.instanceMethod ({ cls := "FearLocksModel", name := "isDigit", desc := "()Z" } : Jvm.MethodName)) ∈ fx_TB := fx_mem 1339 (by decide +kernel) rfl
theorem tb_1244 : (Jvm.Cond.code ({ cls := "FearLocksModel", name := "isDigit", desc := "()Z" } : Jvm.MethodName) prog_14_method_22_code (1 : Nat) (Option.some Jvm.ClassFile.FieldType.boolean)) ∈ fx_TB := fx_mem 1340 (by decide +kernel) rfl
theorem tb_1245 : (Jvm.Cond.methodLink "FearLocksModel" (202 : Nat) ({ cls := "FearLocksModel", name := "readsNumber", desc := "()Z" } : Jvm.MethodName)) ∈ fx_TB := fx_mem 1341 (by decide +kernel) rfl
theorem tb_1246 : (Jvm.Cond.privateMethod ({ cls := "FearLocksModel", name := "readsNumber", desc := "()Z" } : Jvm.MethodName)) ∈ fx_TB := fx_mem 1342 (by decide +kernel) rfl
theorem tb_1247 : (Jvm.Cond.instanceMethod ({ cls := "FearLocksModel", name := "readsNumber", desc := "()Z" } : Jvm.MethodName)) ∈ fx_TB := fx_mem 1343 (by decide +kernel) rfl
theorem tb_1248 : (Jvm.Cond.code ({ cls := "FearLocksModel", name := "readsNumber", desc := "()Z" } : Jvm.MethodName) prog_14_method_25_code (2 : Nat) (Option.some Jvm.ClassFile.FieldType.boolean)) ∈ fx_TB := fx_mem 1344 (by decide +kernel) rfl
theorem tb_1249 : (Jvm.Cond.methodLink "FearLocksModel" (195 : Nat) ({ cls := "FearLocksModel", name := "notes", desc := "(II)V" } : Jvm.MethodName)) ∈ fx_TB := fx_mem 1345 (by decide +kernel) rfl
theorem tb_1250 : (Jvm.Cond.privateMethod ({ cls := "FearLocksModel", name := "notes", desc := "(II)V" } : Jvm.MethodName)) ∈ fx_TB := fx_mem 1346 (by decide +kernel) rfl
theorem tb_1251 : (Jvm.Cond.instanceMethod ({ cls := "FearLocksModel", name := "notes", desc := "(II)V" } : Jvm.MethodName)) ∈ fx_TB := fx_mem 1347 (by decide +kernel) rfl
theorem tb_1252 : (Jvm.Cond.code ({ cls := "FearLocksModel", name := "notes", desc := "(II)V" } : Jvm.MethodName) prog_14_method_26_code (3 : Nat) (Option.none : Option Jvm.ClassFile.FieldType)) ∈ fx_TB := fx_mem 1348 (by decide +kernel) rfl
theorem tb_1253 : (Jvm.Cond.methodLink "FearLocksModel" (205 : Nat) ({ cls := "FearLocksModel", name := "factOf", desc := "(I)I" } : Jvm.MethodName)) ∈ fx_TB := fx_mem 1349 (by decide +kernel) rfl
theorem tb_1254 : (Jvm.Cond.static ({ cls := "FearLocksModel", name := "factOf", desc := "(I)I" } : Jvm.MethodName)) ∈ fx_TB := fx_mem 1350 (by decide +kernel) rfl
theorem tb_1255 : (Jvm.Cond.code ({ cls := "FearLocksModel", name := "factOf", desc := "(I)I" } : Jvm.MethodName) prog_14_method_29_code (1 : Nat) (Option.some Jvm.ClassFile.FieldType.int)) ∈ fx_TB := fx_mem 1351 (by decide +kernel) rfl
theorem tb_1256 : (Jvm.Cond.methodLink "FearLocksModel" (211 : Nat) ({ cls := "FearLocksModel", name := "sumSign", desc := "(I)I" } : Jvm.MethodName)) ∈ fx_TB := fx_mem 1352 (by decide +kernel) rfl
theorem tb_1257 : (Jvm.Cond.static ({ cls := "FearLocksModel", name := "sumSign", desc := "(I)I" } : Jvm.MethodName)) ∈ fx_TB := fx_mem 1353 (by decide +kernel) rfl
theorem tb_1258 : (Jvm.Cond.code ({ cls := "FearLocksModel", name := "sumSign", desc := "(I)I" } : Jvm.MethodName) prog_14_method_30_code (1 : Nat) (Option.some Jvm.ClassFile.FieldType.int)) ∈ fx_TB := fx_mem 1354 (by decide +kernel) rfl
theorem tb_1259 : (Jvm.Cond.methodLink "FearLocksModel" (214 : Nat) ({ cls := "FearLocksModel", name := "closesSums", desc := "(Z)V" } : Jvm.MethodName)) ∈ fx_TB := fx_mem 1355 (by decide +kernel) rfl
theorem tb_1260 : (Jvm.Cond.privateMethod ({ cls := "FearLocksModel", name := "closesSums", desc := "(Z)V" } : Jvm.MethodName)) ∈ fx_TB := fx_mem 1356 (by decide +kernel) rfl
theorem tb_1261 : (Jvm.Cond.instanceMethod ({ cls := "FearLocksModel", name := "closesSums", desc := "(Z)V" } : Jvm.MethodName)) ∈ fx_TB := fx_mem 1357 (by decide +kernel) rfl
theorem tb_1262 : (Jvm.Cond.code ({ cls := "FearLocksModel", name := "closesSums", desc := "(Z)V" } : Jvm.MethodName) prog_14_method_31_code (2 : Nat) (Option.none : Option Jvm.ClassFile.FieldType)) ∈ fx_TB := fx_mem 1358 (by decide +kernel) rfl
theorem tb_1263 : (Jvm.Cond.methodLink "FearLocksModel" (192 : Nat) ({ cls := "FearLocksModel", name := "waitTop", desc := "()I" } : Jvm.MethodName)) ∈ fx_TB := fx_mem 1359 (by decide +kernel) rfl
theorem tb_1264 : (Jvm.Cond.privateMethod ({ cls := "FearLocksModel", name := "waitTop", desc := "()I" } : Jvm.MethodName)) ∈ fx_TB := fx_mem 1360 (by decide +kernel) rfl
theorem tb_1265 : (Jvm.Cond.instanceMethod ({ cls := "FearLocksModel", name := "waitTop", desc := "()I" } : Jvm.MethodName)) ∈ fx_TB := fx_mem 1361 (by decide +kernel) rfl
theorem tb_1266 : (Jvm.Cond.code ({ cls := "FearLocksModel", name := "waitTop", desc := "()I" } : Jvm.MethodName) prog_14_method_28_code (1 : Nat) (Option.some Jvm.ClassFile.FieldType.int)) ∈ fx_TB := fx_mem 1362 (by decide +kernel) rfl
theorem tb_1267 : (Jvm.Cond.methodLink "FearLocksModel" (218 : Nat) ({ cls := "FearLocksModel", name := "hasOpenSum", desc := "(I)Z" } : Jvm.MethodName)) ∈ fx_TB := fx_mem 1363 (by decide +kernel) rfl
theorem tb_1268 : (Jvm.Cond.privateMethod ({ cls := "FearLocksModel", name := "hasOpenSum", desc := "(I)Z" } : Jvm.MethodName)) ∈ fx_TB := fx_mem 1364 (by decide +kernel) rfl
theorem tb_1269 : (Jvm.Cond.instanceMethod ({ cls := "FearLocksModel", name := "hasOpenSum", desc := "(I)Z" } : Jvm.MethodName)) ∈ fx_TB := fx_mem 1365 (by decide +kernel) rfl
theorem tb_1270 : (Jvm.Cond.code ({ cls := "FearLocksModel", name := "hasOpenSum", desc := "(I)Z" } : Jvm.MethodName) prog_14_method_33_code (3 : Nat) (Option.some Jvm.ClassFile.FieldType.boolean)) ∈ fx_TB := fx_mem 1366 (by decide +kernel) rfl
theorem tb_1271 : (Jvm.Cond.methodLink "FearLocksModel" (239 : Nat) ({ cls := "FearLocksModel", name := "readsCondition", desc := "()Z" } : Jvm.MethodName)) ∈ fx_TB := fx_mem 1367 (by decide +kernel) rfl
theorem tb_1272 : (Jvm.Cond.privateMethod ({ cls := "FearLocksModel", name := "readsCondition", desc := "()Z" } : Jvm.MethodName)) ∈ fx_TB := fx_mem 1368 (by decide +kernel) rfl
theorem tb_1273 : (Jvm.Cond.instanceMethod ({ cls := "FearLocksModel", name := "readsCondition", desc := "()Z" } : Jvm.MethodName)) ∈ fx_TB := fx_mem 1369 (by decide +kernel) rfl
theorem tb_1274 : (Jvm.Cond.code ({ cls := "FearLocksModel", name := "readsCondition", desc := "()Z" } : Jvm.MethodName) prog_14_method_39_code (1 : Nat) (Option.some Jvm.ClassFile.FieldType.boolean)) ∈ fx_TB := fx_mem 1370 (by decide +kernel) rfl
theorem tb_1275 : (Jvm.Cond.methodLink "FearLocksModel" (227 : Nat) ({ cls := "FearLocksModel", name := "readsCompared", desc := "()Z" } : Jvm.MethodName)) ∈ fx_TB := fx_mem 1371 (by decide +kernel) rfl
theorem tb_1276 : (Jvm.Cond.privateMethod ({ cls := "FearLocksModel", name := "readsCompared", desc := "()Z" } : Jvm.MethodName)) ∈ fx_TB := fx_mem 1372 (by decide +kernel) rfl
theorem tb_1277 : (Jvm.Cond.instanceMethod ({ cls := "FearLocksModel", name := "readsCompared", desc := "()Z" } : Jvm.MethodName)) ∈ fx_TB := fx_mem 1373 (by decide +kernel) rfl
theorem tb_1278 : (Jvm.Cond.code ({ cls := "FearLocksModel", name := "readsCompared", desc := "()Z" } : Jvm.MethodName) prog_14_method_38_code (2 : Nat) (Option.some Jvm.ClassFile.FieldType.boolean)) ∈ fx_TB := fx_mem 1374 (by decide +kernel) rfl
theorem tb_1279 : (Jvm.Cond.methodLink "FearLocksModel" (224 : Nat) ({ cls := "FearLocksModel", name := "endsPiece", desc := "()V" } : Jvm.MethodName)) ∈ fx_TB := fx_mem 1375 (by decide +kernel) rfl
theorem tb_1280 : (Jvm.Cond.privateMethod ({ cls := "FearLocksModel", name := "endsPiece", desc := "()V" } : Jvm.MethodName)) ∈ fx_TB := fx_mem 1376 (by decide +kernel) rfl
theorem tb_1281 : (Jvm.Cond.instanceMethod ({ cls := "FearLocksModel", name := "endsPiece", desc := "()V" } : Jvm.MethodName)) ∈ fx_TB := fx_mem 1377 (by decide +kernel) rfl
theorem tb_1282 : (Jvm.Cond.code ({ cls := "FearLocksModel", name := "endsPiece", desc := "()V" } : Jvm.MethodName) prog_14_method_35_code (1 : Nat) (Option.none : Option Jvm.ClassFile.FieldType)) ∈ fx_TB := fx_mem 1378 (by decide +kernel) rfl
theorem tb_1283 : (Jvm.Cond.methodLink "FearLocksModel" (230 : Nat) ({ cls := "FearLocksModel", name := "lands", desc := "(Z)V" } : Jvm.MethodName)) ∈ fx_TB := fx_mem 1379 (by decide +kernel) rfl
theorem tb_1284 : (Jvm.Cond.privateMethod ({ cls := "FearLocksModel", name := "lands", desc := "(Z)V" } : Jvm.MethodName)) ∈ fx_TB := fx_mem 1380 (by decide +kernel) rfl
theorem tb_1285 : (Jvm.Cond.instanceMethod ({ cls := "FearLocksModel", name := "lands", desc := "(Z)V" } : Jvm.MethodName)) ∈ fx_TB := fx_mem 1381 (by decide +kernel) rfl
theorem tb_1286 : (Jvm.Cond.code ({ cls := "FearLocksModel", name := "lands", desc := "(Z)V" } : Jvm.MethodName) prog_14_method_36_code (3 : Nat) (Option.none : Option Jvm.ClassFile.FieldType)) ∈ fx_TB := fx_mem 1382 (by decide +kernel) rfl
theorem tb_1287 : (Jvm.Cond.methodLink "FearLocksModel" (233 : Nat) ({ cls := "FearLocksModel", name := "jumps", desc := "(I)V" } : Jvm.MethodName)) ∈ fx_TB := fx_mem 1383 (by decide +kernel) rfl
theorem tb_1288 : (Jvm.Cond.privateMethod ({ cls := "FearLocksModel", name := "jumps", desc := "(I)V" } : Jvm.MethodName)) ∈ fx_TB := fx_mem 1384 (by decide +kernel) rfl
theorem tb_1289 : (Jvm.Cond.instanceMethod ({ cls := "FearLocksModel", name := "jumps", desc := "(I)V" } : Jvm.MethodName)) ∈ fx_TB := fx_mem 1385 (by decide +kernel) rfl
theorem tb_1290 : (Jvm.Cond.code ({ cls := "FearLocksModel", name := "jumps", desc := "(I)V" } : Jvm.MethodName) prog_14_method_37_code (2 : Nat) (Option.none : Option Jvm.ClassFile.FieldType)) ∈ fx_TB := fx_mem 1386 (by decide +kernel) rfl
theorem tb_1291 : (Jvm.Cond.methodLink "FearLocksModel" (248 : Nat) ({ cls := "FearLocksModel", name := "takes", desc := "(I)Z" } : Jvm.MethodName)) ∈ fx_TB := fx_mem 1387 (by decide +kernel) rfl
theorem tb_1292 : (Jvm.Cond.privateMethod ({ cls := "FearLocksModel", name := "takes", desc := "(I)Z" } : Jvm.MethodName)) ∈ fx_TB := fx_mem 1388 (by decide +kernel) rfl
theorem tb_1293 : (Jvm.Cond.instanceMethod ({ cls := "FearLocksModel", name := "takes", desc := "(I)Z" } : Jvm.MethodName)) ∈ fx_TB := fx_mem 1389 (by decide +kernel) rfl
theorem tb_1294 : (Jvm.Cond.code ({ cls := "FearLocksModel", name := "takes", desc := "(I)Z" } : Jvm.MethodName) prog_14_method_24_code (2 : Nat) (Option.some Jvm.ClassFile.FieldType.boolean)) ∈ fx_TB := fx_mem 1390 (by decide +kernel) rfl
theorem tb_1295 : (Jvm.Cond.methodLink "FearLocksLaw" (27 : Nat) ({ cls := "FearLocksModel", name := "dreads", desc := "(II)I" } : Jvm.MethodName)) ∈ fx_TB := fx_mem 1391 (by decide +kernel) rfl
theorem tb_1296 : (Jvm.Cond.instanceMethod ({ cls := "FearLocksModel", name := "dreads", desc := "(II)I" } : Jvm.MethodName)) ∈ fx_TB := fx_mem 1392 (by decide +kernel) rfl
theorem tb_1297 : (Jvm.Cond.selects "FearLocksModel" ({ cls := "FearLocksModel", name := "dreads", desc := "(II)I" } : Jvm.MethodName) ({ cls := "FearLocksModel", name := "dreads", desc := "(II)I" } : Jvm.MethodName)) ∈ fx_TB := fx_mem 1393 (by decide +kernel) rfl
theorem tb_1298 : (Jvm.Cond.code ({ cls := "FearLocksModel", name := "dreads", desc := "(II)I" } : Jvm.MethodName) prog_14_method_51_code (4 : Nat) (Option.some Jvm.ClassFile.FieldType.int)) ∈ fx_TB := fx_mem 1394 (by decide +kernel) rfl
theorem tb_1299 : (Jvm.Cond.methodLink "FearLocksModel" (280 : Nat) ({ cls := "FearLocksModel", name := "copies", desc := "([I[I)V" } : Jvm.MethodName)) ∈ fx_TB := fx_mem 1395 (by decide +kernel) rfl
theorem tb_1300 : (Jvm.Cond.static ({ cls := "FearLocksModel", name := "copies", desc := "([I[I)V" } : Jvm.MethodName)) ∈ fx_TB := fx_mem 1396 (by decide +kernel) rfl
theorem tb_1301 : (Jvm.Cond.code ({ cls := "FearLocksModel", name := "copies", desc := "([I[I)V" } : Jvm.MethodName) prog_14_method_9_code (3 : Nat) (Option.none : Option Jvm.ClassFile.FieldType)) ∈ fx_TB := fx_mem 1397 (by decide +kernel) rfl
theorem tb_1302 : (Jvm.Cond.methodLink "FearLocksModel" (284 : Nat) ({ cls := "FearLocksModel", name := "readsDread", desc := "(I)Z" } : Jvm.MethodName)) ∈ fx_TB := fx_mem 1398 (by decide +kernel) rfl
theorem tb_1303 : (Jvm.Cond.privateMethod ({ cls := "FearLocksModel", name := "readsDread", desc := "(I)Z" } : Jvm.MethodName)) ∈ fx_TB := fx_mem 1399 (by decide +kernel) rfl
theorem tb_1304 : (Jvm.Cond.instanceMethod ({ cls := "FearLocksModel", name := "readsDread", desc := "(I)Z" } : Jvm.MethodName)) ∈ fx_TB := fx_mem 1400 (by decide +kernel) rfl
theorem tb_1305 : (Jvm.Cond.code ({ cls := "FearLocksModel", name := "readsDread", desc := "(I)Z" } : Jvm.MethodName) prog_14_method_50_code (5 : Nat) (Option.some Jvm.ClassFile.FieldType.boolean)) ∈ fx_TB := fx_mem 1401 (by decide +kernel) rfl
theorem tb_1306 : (Jvm.Cond.methodLink "FearLocksModel" (265 : Nat) ({ cls := "FearLocksModel", name := "isLetter", desc := "()Z" } : Jvm.MethodName)) ∈ fx_TB := fx_mem 1402 (by decide +kernel) rfl
theorem tb_1307 : (Jvm.Cond.privateMethod ({ cls := "FearLocksModel", name := "isLetter", desc := "()Z" } : Jvm.MethodName)) ∈ fx_TB := fx_mem 1403 (by decide +kernel) rfl
theorem tb_1308 : (Jvm.Cond.instanceMethod ({ cls := "FearLocksModel", name := "isLetter", desc := "()Z" } : Jvm.MethodName)) ∈ fx_TB := fx_mem 1404 (by decide +kernel) rfl
theorem tb_1309 : (Jvm.Cond.code ({ cls := "FearLocksModel", name := "isLetter", desc := "()Z" } : Jvm.MethodName) prog_14_method_47_code (1 : Nat) (Option.some Jvm.ClassFile.FieldType.boolean)) ∈ fx_TB := fx_mem 1405 (by decide +kernel) rfl
theorem tb_1310 : (Jvm.Cond.methodLink "FearLocksModel" (271 : Nat) ({ cls := "FearLocksModel", name := "readsMeant", desc := "()Z" } : Jvm.MethodName)) ∈ fx_TB := fx_mem 1406 (by decide +kernel) rfl
theorem tb_1311 : (Jvm.Cond.privateMethod ({ cls := "FearLocksModel", name := "readsMeant", desc := "()Z" } : Jvm.MethodName)) ∈ fx_TB := fx_mem 1407 (by decide +kernel) rfl
theorem tb_1312 : (Jvm.Cond.instanceMethod ({ cls := "FearLocksModel", name := "readsMeant", desc := "()Z" } : Jvm.MethodName)) ∈ fx_TB := fx_mem 1408 (by decide +kernel) rfl
theorem tb_1313 : (Jvm.Cond.code ({ cls := "FearLocksModel", name := "readsMeant", desc := "()Z" } : Jvm.MethodName) prog_14_method_49_code (1 : Nat) (Option.some Jvm.ClassFile.FieldType.boolean)) ∈ fx_TB := fx_mem 1409 (by decide +kernel) rfl
theorem tb_1314 : (Jvm.Cond.constant "FearLocksModel" (261 : Nat) (65535 : Int32)) ∈ fx_TB := fx_mem 1410 (by decide +kernel) rfl
theorem tb_1315 : (Jvm.Cond.methodLink "FearLocksModel" (125 : Nat) ({ cls := "FearLocksModel", name := "has", desc := "(II)Z" } : Jvm.MethodName)) ∈ fx_TB := fx_mem 1411 (by decide +kernel) rfl
theorem tb_1316 : (Jvm.Cond.static ({ cls := "FearLocksModel", name := "has", desc := "(II)Z" } : Jvm.MethodName)) ∈ fx_TB := fx_mem 1412 (by decide +kernel) rfl
theorem tb_1317 : (Jvm.Cond.code ({ cls := "FearLocksModel", name := "has", desc := "(II)Z" } : Jvm.MethodName) prog_14_method_7_code (2 : Nat) (Option.some Jvm.ClassFile.FieldType.boolean)) ∈ fx_TB := fx_mem 1413 (by decide +kernel) rfl
theorem tb_1318 : (Jvm.Cond.methodLink "FearLocksModel" (274 : Nat) ({ cls := "FearLocksModel", name := "readsAmount", desc := "()Z" } : Jvm.MethodName)) ∈ fx_TB := fx_mem 1414 (by decide +kernel) rfl
theorem tb_1319 : (Jvm.Cond.privateMethod ({ cls := "FearLocksModel", name := "readsAmount", desc := "()Z" } : Jvm.MethodName)) ∈ fx_TB := fx_mem 1415 (by decide +kernel) rfl
theorem tb_1320 : (Jvm.Cond.instanceMethod ({ cls := "FearLocksModel", name := "readsAmount", desc := "()Z" } : Jvm.MethodName)) ∈ fx_TB := fx_mem 1416 (by decide +kernel) rfl
theorem tb_1321 : (Jvm.Cond.code ({ cls := "FearLocksModel", name := "readsAmount", desc := "()Z" } : Jvm.MethodName) prog_14_method_48_code (2 : Nat) (Option.some Jvm.ClassFile.FieldType.boolean)) ∈ fx_TB := fx_mem 1417 (by decide +kernel) rfl
theorem tb_1322 : (Jvm.Cond.methodLink "FearLocksModel" (277 : Nat) ({ cls := "FearLocksModel", name := "limit", desc := "(I)I" } : Jvm.MethodName)) ∈ fx_TB := fx_mem 1418 (by decide +kernel) rfl
theorem tb_1323 : (Jvm.Cond.static ({ cls := "FearLocksModel", name := "limit", desc := "(I)I" } : Jvm.MethodName)) ∈ fx_TB := fx_mem 1419 (by decide +kernel) rfl
theorem tb_1324 : (Jvm.Cond.code ({ cls := "FearLocksModel", name := "limit", desc := "(I)I" } : Jvm.MethodName) prog_14_method_6_code (1 : Nat) (Option.some Jvm.ClassFile.FieldType.int)) ∈ fx_TB := fx_mem 1420 (by decide +kernel) rfl
theorem tb_1325 : (Jvm.Cond.methodLink "FearLocksModel" (110 : Nat) ({ cls := "FearLocksModel", name := "min", desc := "(II)I" } : Jvm.MethodName)) ∈ fx_TB := fx_mem 1421 (by decide +kernel) rfl
theorem tb_1326 : (Jvm.Cond.static ({ cls := "FearLocksModel", name := "min", desc := "(II)I" } : Jvm.MethodName)) ∈ fx_TB := fx_mem 1422 (by decide +kernel) rfl
theorem tb_1327 : (Jvm.Cond.code ({ cls := "FearLocksModel", name := "min", desc := "(II)I" } : Jvm.MethodName) prog_14_method_3_code (2 : Nat) (Option.some Jvm.ClassFile.FieldType.int)) ∈ fx_TB := fx_mem 1423 (by decide +kernel) rfl
theorem tb_1328 : (Jvm.Cond.methodLink "FearLocksModel" (114 : Nat) ({ cls := "FearLocksModel", name := "max", desc := "(II)I" } : Jvm.MethodName)) ∈ fx_TB := fx_mem 1424 (by decide +kernel) rfl
theorem tb_1329 : (Jvm.Cond.static ({ cls := "FearLocksModel", name := "max", desc := "(II)I" } : Jvm.MethodName)) ∈ fx_TB := fx_mem 1425 (by decide +kernel) rfl
theorem tb_1330 : (Jvm.Cond.code ({ cls := "FearLocksModel", name := "max", desc := "(II)I" } : Jvm.MethodName) prog_14_method_4_code (2 : Nat) (Option.some Jvm.ClassFile.FieldType.int)) ∈ fx_TB := fx_mem 1426 (by decide +kernel) rfl
theorem tb_1331 : (Jvm.Cond.methodLink "FearLocksLaw" (31 : Nat) ({ cls := "FearLocksModel", name := "orders", desc := "(I)I" } : Jvm.MethodName)) ∈ fx_TB := fx_mem 1427 (by decide +kernel) rfl
theorem tb_1332 : (Jvm.Cond.instanceMethod ({ cls := "FearLocksModel", name := "orders", desc := "(I)I" } : Jvm.MethodName)) ∈ fx_TB := fx_mem 1428 (by decide +kernel) rfl
theorem tb_1333 : (Jvm.Cond.selects "FearLocksModel" ({ cls := "FearLocksModel", name := "orders", desc := "(I)I" } : Jvm.MethodName) ({ cls := "FearLocksModel", name := "orders", desc := "(I)I" } : Jvm.MethodName)) ∈ fx_TB := fx_mem 1429 (by decide +kernel) rfl
theorem tb_1334 : (Jvm.Cond.code ({ cls := "FearLocksModel", name := "orders", desc := "(I)I" } : Jvm.MethodName) prog_14_method_58_code (3 : Nat) (Option.some Jvm.ClassFile.FieldType.int)) ∈ fx_TB := fx_mem 1430 (by decide +kernel) rfl
theorem tb_1335 : (Jvm.Cond.methodLink "FearLocksModel" (299 : Nat) ({ cls := "FearLocksModel", name := "laysAside", desc := "()V" } : Jvm.MethodName)) ∈ fx_TB := fx_mem 1431 (by decide +kernel) rfl
theorem tb_1336 : (Jvm.Cond.privateMethod ({ cls := "FearLocksModel", name := "laysAside", desc := "()V" } : Jvm.MethodName)) ∈ fx_TB := fx_mem 1432 (by decide +kernel) rfl
theorem tb_1337 : (Jvm.Cond.instanceMethod ({ cls := "FearLocksModel", name := "laysAside", desc := "()V" } : Jvm.MethodName)) ∈ fx_TB := fx_mem 1433 (by decide +kernel) rfl
theorem tb_1338 : (Jvm.Cond.code ({ cls := "FearLocksModel", name := "laysAside", desc := "()V" } : Jvm.MethodName) prog_14_method_56_code (2 : Nat) (Option.none : Option Jvm.ClassFile.FieldType)) ∈ fx_TB := fx_mem 1434 (by decide +kernel) rfl
theorem tb_1339 : (Jvm.Cond.methodLink "FearLocksModel" (302 : Nat) ({ cls := "FearLocksModel", name := "readsOrder", desc := "()Z" } : Jvm.MethodName)) ∈ fx_TB := fx_mem 1435 (by decide +kernel) rfl
theorem tb_1340 : (Jvm.Cond.privateMethod ({ cls := "FearLocksModel", name := "readsOrder", desc := "()Z" } : Jvm.MethodName)) ∈ fx_TB := fx_mem 1436 (by decide +kernel) rfl
theorem tb_1341 : (Jvm.Cond.instanceMethod ({ cls := "FearLocksModel", name := "readsOrder", desc := "()Z" } : Jvm.MethodName)) ∈ fx_TB := fx_mem 1437 (by decide +kernel) rfl
theorem tb_1342 : (Jvm.Cond.code ({ cls := "FearLocksModel", name := "readsOrder", desc := "()Z" } : Jvm.MethodName) prog_14_method_55_code (1 : Nat) (Option.some Jvm.ClassFile.FieldType.boolean)) ∈ fx_TB := fx_mem 1438 (by decide +kernel) rfl
theorem tb_1343 : (Jvm.Cond.methodLink "FearLocksModel" (290 : Nat) ({ cls := "FearLocksModel", name := "readsTwo", desc := "()Z" } : Jvm.MethodName)) ∈ fx_TB := fx_mem 1439 (by decide +kernel) rfl
theorem tb_1344 : (Jvm.Cond.privateMethod ({ cls := "FearLocksModel", name := "readsTwo", desc := "()Z" } : Jvm.MethodName)) ∈ fx_TB := fx_mem 1440 (by decide +kernel) rfl
theorem tb_1345 : (Jvm.Cond.instanceMethod ({ cls := "FearLocksModel", name := "readsTwo", desc := "()Z" } : Jvm.MethodName)) ∈ fx_TB := fx_mem 1441 (by decide +kernel) rfl
theorem tb_1346 : (Jvm.Cond.code ({ cls := "FearLocksModel", name := "readsTwo", desc := "()Z" } : Jvm.MethodName) prog_14_method_53_code (5 : Nat) (Option.some Jvm.ClassFile.FieldType.boolean)) ∈ fx_TB := fx_mem 1442 (by decide +kernel) rfl
theorem tb_1347 : (Jvm.Cond.methodLink "FearLocksModel" (287 : Nat) ({ cls := "FearLocksModel", name := "readsOne", desc := "()Z" } : Jvm.MethodName)) ∈ fx_TB := fx_mem 1443 (by decide +kernel) rfl
theorem tb_1348 : (Jvm.Cond.privateMethod ({ cls := "FearLocksModel", name := "readsOne", desc := "()Z" } : Jvm.MethodName)) ∈ fx_TB := fx_mem 1444 (by decide +kernel) rfl
theorem tb_1349 : (Jvm.Cond.instanceMethod ({ cls := "FearLocksModel", name := "readsOne", desc := "()Z" } : Jvm.MethodName)) ∈ fx_TB := fx_mem 1445 (by decide +kernel) rfl
theorem tb_1350 : (Jvm.Cond.code ({ cls := "FearLocksModel", name := "readsOne", desc := "()Z" } : Jvm.MethodName) prog_14_method_52_code (2 : Nat) (Option.some Jvm.ClassFile.FieldType.boolean)) ∈ fx_TB := fx_mem 1446 (by decide +kernel) rfl
theorem tb_1351 : (Jvm.Cond.methodLink "FearLocksModel" (149 : Nat) ({ cls := "FearLocksModel", name := "isTold", desc := "(I)Z" } : Jvm.MethodName)) ∈ fx_TB := fx_mem 1447 (by decide +kernel) rfl
theorem tb_1352 : (Jvm.Cond.privateMethod ({ cls := "FearLocksModel", name := "isTold", desc := "(I)Z" } : Jvm.MethodName)) ∈ fx_TB := fx_mem 1448 (by decide +kernel) rfl
theorem tb_1353 : (Jvm.Cond.instanceMethod ({ cls := "FearLocksModel", name := "isTold", desc := "(I)Z" } : Jvm.MethodName)) ∈ fx_TB := fx_mem 1449 (by decide +kernel) rfl
theorem tb_1354 : (Jvm.Cond.code ({ cls := "FearLocksModel", name := "isTold", desc := "(I)Z" } : Jvm.MethodName) prog_14_method_10_code (2 : Nat) (Option.some Jvm.ClassFile.FieldType.boolean)) ∈ fx_TB := fx_mem 1450 (by decide +kernel) rfl
theorem tb_1355 : (Jvm.Cond.methodLink "FearLocksModel" (293 : Nat) ({ cls := "FearLocksModel", name := "readsDoor", desc := "()Z" } : Jvm.MethodName)) ∈ fx_TB := fx_mem 1451 (by decide +kernel) rfl
theorem tb_1356 : (Jvm.Cond.privateMethod ({ cls := "FearLocksModel", name := "readsDoor", desc := "()Z" } : Jvm.MethodName)) ∈ fx_TB := fx_mem 1452 (by decide +kernel) rfl
theorem tb_1357 : (Jvm.Cond.instanceMethod ({ cls := "FearLocksModel", name := "readsDoor", desc := "()Z" } : Jvm.MethodName)) ∈ fx_TB := fx_mem 1453 (by decide +kernel) rfl
theorem tb_1358 : (Jvm.Cond.code ({ cls := "FearLocksModel", name := "readsDoor", desc := "()Z" } : Jvm.MethodName) prog_14_method_54_code (4 : Nat) (Option.some Jvm.ClassFile.FieldType.boolean)) ∈ fx_TB := fx_mem 1454 (by decide +kernel) rfl
theorem tb_1359 : (Jvm.Cond.methodLink "FearLocksModel" (142 : Nat) ({ cls := "FearLocksModel", name := "isDoor", desc := "(I)Z" } : Jvm.MethodName)) ∈ fx_TB := fx_mem 1455 (by decide +kernel) rfl
theorem tb_1360 : (Jvm.Cond.privateMethod ({ cls := "FearLocksModel", name := "isDoor", desc := "(I)Z" } : Jvm.MethodName)) ∈ fx_TB := fx_mem 1456 (by decide +kernel) rfl
theorem tb_1361 : (Jvm.Cond.instanceMethod ({ cls := "FearLocksModel", name := "isDoor", desc := "(I)Z" } : Jvm.MethodName)) ∈ fx_TB := fx_mem 1457 (by decide +kernel) rfl
theorem tb_1362 : (Jvm.Cond.code ({ cls := "FearLocksModel", name := "isDoor", desc := "(I)Z" } : Jvm.MethodName) prog_14_method_11_code (2 : Nat) (Option.some Jvm.ClassFile.FieldType.boolean)) ∈ fx_TB := fx_mem 1458 (by decide +kernel) rfl
theorem tb_1363 : (Jvm.Cond.methodLink "FearLocksModel" (305 : Nat) ({ cls := "FearLocksModel", name := "putsBack", desc := "()V" } : Jvm.MethodName)) ∈ fx_TB := fx_mem 1459 (by decide +kernel) rfl
theorem tb_1364 : (Jvm.Cond.privateMethod ({ cls := "FearLocksModel", name := "putsBack", desc := "()V" } : Jvm.MethodName)) ∈ fx_TB := fx_mem 1460 (by decide +kernel) rfl
theorem tb_1365 : (Jvm.Cond.instanceMethod ({ cls := "FearLocksModel", name := "putsBack", desc := "()V" } : Jvm.MethodName)) ∈ fx_TB := fx_mem 1461 (by decide +kernel) rfl
theorem tb_1366 : (Jvm.Cond.code ({ cls := "FearLocksModel", name := "putsBack", desc := "()V" } : Jvm.MethodName) prog_14_method_57_code (2 : Nat) (Option.none : Option Jvm.ClassFile.FieldType)) ∈ fx_TB := fx_mem 1462 (by decide +kernel) rfl
theorem tb_1367 : (Jvm.Cond.methodLink "FearLocksLaw" (35 : Nat) ({ cls := "FearLocksModel", name := "nights", desc := "(I)I" } : Jvm.MethodName)) ∈ fx_TB := fx_mem 1463 (by decide +kernel) rfl
theorem tb_1368 : (Jvm.Cond.instanceMethod ({ cls := "FearLocksModel", name := "nights", desc := "(I)I" } : Jvm.MethodName)) ∈ fx_TB := fx_mem 1464 (by decide +kernel) rfl
theorem tb_1369 : (Jvm.Cond.selects "FearLocksModel" ({ cls := "FearLocksModel", name := "nights", desc := "(I)I" } : Jvm.MethodName) ({ cls := "FearLocksModel", name := "nights", desc := "(I)I" } : Jvm.MethodName)) ∈ fx_TB := fx_mem 1465 (by decide +kernel) rfl
theorem tb_1370 : (Jvm.Cond.code ({ cls := "FearLocksModel", name := "nights", desc := "(I)I" } : Jvm.MethodName) prog_14_method_68_code (2 : Nat) (Option.some Jvm.ClassFile.FieldType.int)) ∈ fx_TB := fx_mem 1466 (by decide +kernel) rfl
theorem tb_1371 : (Jvm.Cond.methodLink "FearLocksModel" (349 : Nat) ({ cls := "FearLocksModel", name := "nightsGo", desc := "(I)V" } : Jvm.MethodName)) ∈ fx_TB := fx_mem 1467 (by decide +kernel) rfl
theorem tb_1372 : (Jvm.Cond.privateMethod ({ cls := "FearLocksModel", name := "nightsGo", desc := "(I)V" } : Jvm.MethodName)) ∈ fx_TB := fx_mem 1468 (by decide +kernel) rfl
theorem tb_1373 : (Jvm.Cond.instanceMethod ({ cls := "FearLocksModel", name := "nightsGo", desc := "(I)V" } : Jvm.MethodName)) ∈ fx_TB := fx_mem 1469 (by decide +kernel) rfl
theorem tb_1374 : (Jvm.Cond.code ({ cls := "FearLocksModel", name := "nightsGo", desc := "(I)V" } : Jvm.MethodName) prog_14_method_67_code (3 : Nat) (Option.none : Option Jvm.ClassFile.FieldType)) ∈ fx_TB := fx_mem 1470 (by decide +kernel) rfl
theorem tb_1375 : (Jvm.Cond.methodLink "FearLocksModel" (346 : Nat) ({ cls := "FearLocksModel", name := "nightGoes", desc := "()V" } : Jvm.MethodName)) ∈ fx_TB := fx_mem 1471 (by decide +kernel) rfl
theorem tb_1376 : (Jvm.Cond.privateMethod ({ cls := "FearLocksModel", name := "nightGoes", desc := "()V" } : Jvm.MethodName)) ∈ fx_TB := fx_mem 1472 (by decide +kernel) rfl
theorem tb_1377 : (Jvm.Cond.instanceMethod ({ cls := "FearLocksModel", name := "nightGoes", desc := "()V" } : Jvm.MethodName)) ∈ fx_TB := fx_mem 1473 (by decide +kernel) rfl
theorem tb_1378 : (Jvm.Cond.code ({ cls := "FearLocksModel", name := "nightGoes", desc := "()V" } : Jvm.MethodName) prog_14_method_66_code (2 : Nat) (Option.none : Option Jvm.ClassFile.FieldType)) ∈ fx_TB := fx_mem 1474 (by decide +kernel) rfl
theorem tb_1379 : (Jvm.Cond.methodLink "FearLocksModel" (340 : Nat) ({ cls := "FearLocksModel", name := "goesOut", desc := "(I)V" } : Jvm.MethodName)) ∈ fx_TB := fx_mem 1475 (by decide +kernel) rfl
theorem tb_1380 : (Jvm.Cond.privateMethod ({ cls := "FearLocksModel", name := "goesOut", desc := "(I)V" } : Jvm.MethodName)) ∈ fx_TB := fx_mem 1476 (by decide +kernel) rfl
theorem tb_1381 : (Jvm.Cond.instanceMethod ({ cls := "FearLocksModel", name := "goesOut", desc := "(I)V" } : Jvm.MethodName)) ∈ fx_TB := fx_mem 1477 (by decide +kernel) rfl
theorem tb_1382 : (Jvm.Cond.code ({ cls := "FearLocksModel", name := "goesOut", desc := "(I)V" } : Jvm.MethodName) prog_14_method_63_code (4 : Nat) (Option.none : Option Jvm.ClassFile.FieldType)) ∈ fx_TB := fx_mem 1478 (by decide +kernel) rfl
theorem tb_1383 : (Jvm.Cond.constant "FearLocksModel" (327 : Nat) (65536 : Int32)) ∈ fx_TB := fx_mem 1479 (by decide +kernel) rfl
theorem tb_1384 : (Jvm.Cond.methodLink "FearLocksModel" (311 : Nat) ({ cls := "FearLocksModel", name := "feels", desc := "(II)V" } : Jvm.MethodName)) ∈ fx_TB := fx_mem 1480 (by decide +kernel) rfl
theorem tb_1385 : (Jvm.Cond.privateMethod ({ cls := "FearLocksModel", name := "feels", desc := "(II)V" } : Jvm.MethodName)) ∈ fx_TB := fx_mem 1481 (by decide +kernel) rfl
theorem tb_1386 : (Jvm.Cond.instanceMethod ({ cls := "FearLocksModel", name := "feels", desc := "(II)V" } : Jvm.MethodName)) ∈ fx_TB := fx_mem 1482 (by decide +kernel) rfl
theorem tb_1387 : (Jvm.Cond.code ({ cls := "FearLocksModel", name := "feels", desc := "(II)V" } : Jvm.MethodName) prog_14_method_59_code (4 : Nat) (Option.none : Option Jvm.ClassFile.FieldType)) ∈ fx_TB := fx_mem 1483 (by decide +kernel) rfl
theorem tb_1388 : (Jvm.Cond.methodLink "FearLocksModel" (135 : Nat) ({ cls := "FearLocksModel", name := "greatest", desc := "(I)I" } : Jvm.MethodName)) ∈ fx_TB := fx_mem 1484 (by decide +kernel) rfl
theorem tb_1389 : (Jvm.Cond.privateMethod ({ cls := "FearLocksModel", name := "greatest", desc := "(I)I" } : Jvm.MethodName)) ∈ fx_TB := fx_mem 1485 (by decide +kernel) rfl
theorem tb_1390 : (Jvm.Cond.instanceMethod ({ cls := "FearLocksModel", name := "greatest", desc := "(I)I" } : Jvm.MethodName)) ∈ fx_TB := fx_mem 1486 (by decide +kernel) rfl
theorem tb_1391 : (Jvm.Cond.code ({ cls := "FearLocksModel", name := "greatest", desc := "(I)I" } : Jvm.MethodName) prog_14_method_13_code (4 : Nat) (Option.some Jvm.ClassFile.FieldType.int)) ∈ fx_TB := fx_mem 1487 (by decide +kernel) rfl
theorem tb_1392 : (Jvm.Cond.methodLink "FearLocksModel" (132 : Nat) ({ cls := "FearLocksModel", name := "dread", desc := "(II)I" } : Jvm.MethodName)) ∈ fx_TB := fx_mem 1488 (by decide +kernel) rfl
theorem tb_1393 : (Jvm.Cond.privateMethod ({ cls := "FearLocksModel", name := "dread", desc := "(II)I" } : Jvm.MethodName)) ∈ fx_TB := fx_mem 1489 (by decide +kernel) rfl
theorem tb_1394 : (Jvm.Cond.instanceMethod ({ cls := "FearLocksModel", name := "dread", desc := "(II)I" } : Jvm.MethodName)) ∈ fx_TB := fx_mem 1490 (by decide +kernel) rfl
theorem tb_1395 : (Jvm.Cond.code ({ cls := "FearLocksModel", name := "dread", desc := "(II)I" } : Jvm.MethodName) prog_14_method_12_code (3 : Nat) (Option.some Jvm.ClassFile.FieldType.int)) ∈ fx_TB := fx_mem 1491 (by decide +kernel) rfl
theorem tb_1396 : (Jvm.Cond.methodLink "FearLocksModel" (308 : Nat) ({ cls := "FearLocksModel", name := "bits", desc := "(I)I" } : Jvm.MethodName)) ∈ fx_TB := fx_mem 1492 (by decide +kernel) rfl
theorem tb_1397 : (Jvm.Cond.static ({ cls := "FearLocksModel", name := "bits", desc := "(I)I" } : Jvm.MethodName)) ∈ fx_TB := fx_mem 1493 (by decide +kernel) rfl
theorem tb_1398 : (Jvm.Cond.code ({ cls := "FearLocksModel", name := "bits", desc := "(I)I" } : Jvm.MethodName) prog_14_method_8_code (3 : Nat) (Option.some Jvm.ClassFile.FieldType.int)) ∈ fx_TB := fx_mem 1494 (by decide +kernel) rfl
theorem tb_1399 : (Jvm.Cond.methodLink "FearLocksModel" (328 : Nat) ({ cls := "FearLocksModel", name := "holdsAny", desc := "(I)Z" } : Jvm.MethodName)) ∈ fx_TB := fx_mem 1495 (by decide +kernel) rfl
theorem tb_1400 : (Jvm.Cond.privateMethod ({ cls := "FearLocksModel", name := "holdsAny", desc := "(I)Z" } : Jvm.MethodName)) ∈ fx_TB := fx_mem 1496 (by decide +kernel) rfl
theorem tb_1401 : (Jvm.Cond.instanceMethod ({ cls := "FearLocksModel", name := "holdsAny", desc := "(I)Z" } : Jvm.MethodName)) ∈ fx_TB := fx_mem 1497 (by decide +kernel) rfl
theorem tb_1402 : (Jvm.Cond.code ({ cls := "FearLocksModel", name := "holdsAny", desc := "(I)Z" } : Jvm.MethodName) prog_14_method_46_code (3 : Nat) (Option.some Jvm.ClassFile.FieldType.boolean)) ∈ fx_TB := fx_mem 1498 (by decide +kernel) rfl
theorem tb_1403 : (Jvm.Cond.methodLink "FearLocksModel" (258 : Nat) ({ cls := "FearLocksModel", name := "reckonsTo", desc := "(II)I" } : Jvm.MethodName)) ∈ fx_TB := fx_mem 1499 (by decide +kernel) rfl
theorem tb_1404 : (Jvm.Cond.privateMethod ({ cls := "FearLocksModel", name := "reckonsTo", desc := "(II)I" } : Jvm.MethodName)) ∈ fx_TB := fx_mem 1500 (by decide +kernel) rfl
theorem tb_1405 : (Jvm.Cond.instanceMethod ({ cls := "FearLocksModel", name := "reckonsTo", desc := "(II)I" } : Jvm.MethodName)) ∈ fx_TB := fx_mem 1501 (by decide +kernel) rfl
theorem tb_1406 : (Jvm.Cond.code ({ cls := "FearLocksModel", name := "reckonsTo", desc := "(II)I" } : Jvm.MethodName) prog_14_method_44_code (8 : Nat) (Option.some Jvm.ClassFile.FieldType.int)) ∈ fx_TB := fx_mem 1502 (by decide +kernel) rfl
theorem tb_1407 : (Jvm.Cond.methodLink "FearLocksModel" (254 : Nat) ({ cls := "FearLocksModel", name := "reckon", desc := "(III)I" } : Jvm.MethodName)) ∈ fx_TB := fx_mem 1503 (by decide +kernel) rfl
theorem tb_1408 : (Jvm.Cond.static ({ cls := "FearLocksModel", name := "reckon", desc := "(III)I" } : Jvm.MethodName)) ∈ fx_TB := fx_mem 1504 (by decide +kernel) rfl
theorem tb_1409 : (Jvm.Cond.code ({ cls := "FearLocksModel", name := "reckon", desc := "(III)I" } : Jvm.MethodName) prog_14_method_43_code (3 : Nat) (Option.some Jvm.ClassFile.FieldType.int)) ∈ fx_TB := fx_mem 1505 (by decide +kernel) rfl
theorem tb_1410 : (Jvm.Cond.methodLink "FearLocksModel" (331 : Nat) ({ cls := "FearLocksModel", name := "likedMost", desc := "(II)I" } : Jvm.MethodName)) ∈ fx_TB := fx_mem 1506 (by decide +kernel) rfl
theorem tb_1411 : (Jvm.Cond.privateMethod ({ cls := "FearLocksModel", name := "likedMost", desc := "(II)I" } : Jvm.MethodName)) ∈ fx_TB := fx_mem 1507 (by decide +kernel) rfl
theorem tb_1412 : (Jvm.Cond.instanceMethod ({ cls := "FearLocksModel", name := "likedMost", desc := "(II)I" } : Jvm.MethodName)) ∈ fx_TB := fx_mem 1508 (by decide +kernel) rfl
theorem tb_1413 : (Jvm.Cond.code ({ cls := "FearLocksModel", name := "likedMost", desc := "(II)I" } : Jvm.MethodName) prog_14_method_61_code (7 : Nat) (Option.some Jvm.ClassFile.FieldType.int)) ∈ fx_TB := fx_mem 1509 (by decide +kernel) rfl
theorem tb_1414 : (Jvm.Cond.methodLink "FearLocksModel" (314 : Nat) ({ cls := "FearLocksModel", name := "feelsDoor", desc := "(III)V" } : Jvm.MethodName)) ∈ fx_TB := fx_mem 1510 (by decide +kernel) rfl
theorem tb_1415 : (Jvm.Cond.privateMethod ({ cls := "FearLocksModel", name := "feelsDoor", desc := "(III)V" } : Jvm.MethodName)) ∈ fx_TB := fx_mem 1511 (by decide +kernel) rfl
theorem tb_1416 : (Jvm.Cond.instanceMethod ({ cls := "FearLocksModel", name := "feelsDoor", desc := "(III)V" } : Jvm.MethodName)) ∈ fx_TB := fx_mem 1512 (by decide +kernel) rfl
theorem tb_1417 : (Jvm.Cond.code ({ cls := "FearLocksModel", name := "feelsDoor", desc := "(III)V" } : Jvm.MethodName) prog_14_method_60_code (4 : Nat) (Option.none : Option Jvm.ClassFile.FieldType)) ∈ fx_TB := fx_mem 1513 (by decide +kernel) rfl
theorem tb_1418 : (Jvm.Cond.methodLink "FearLocksModel" (318 : Nat) ({ cls := "FearLocksModel", name := "byLaw", desc := "(II)I" } : Jvm.MethodName)) ∈ fx_TB := fx_mem 1514 (by decide +kernel) rfl
theorem tb_1419 : (Jvm.Cond.privateMethod ({ cls := "FearLocksModel", name := "byLaw", desc := "(II)I" } : Jvm.MethodName)) ∈ fx_TB := fx_mem 1515 (by decide +kernel) rfl
theorem tb_1420 : (Jvm.Cond.instanceMethod ({ cls := "FearLocksModel", name := "byLaw", desc := "(II)I" } : Jvm.MethodName)) ∈ fx_TB := fx_mem 1516 (by decide +kernel) rfl
theorem tb_1421 : (Jvm.Cond.code ({ cls := "FearLocksModel", name := "byLaw", desc := "(II)I" } : Jvm.MethodName) prog_14_method_45_code (5 : Nat) (Option.some Jvm.ClassFile.FieldType.int)) ∈ fx_TB := fx_mem 1517 (by decide +kernel) rfl
theorem tb_1422 : (Jvm.Cond.methodLink "FearLocksModel" (334 : Nat) ({ cls := "FearLocksModel", name := "triesDoor", desc := "(III)V" } : Jvm.MethodName)) ∈ fx_TB := fx_mem 1518 (by decide +kernel) rfl
theorem tb_1423 : (Jvm.Cond.privateMethod ({ cls := "FearLocksModel", name := "triesDoor", desc := "(III)V" } : Jvm.MethodName)) ∈ fx_TB := fx_mem 1519 (by decide +kernel) rfl
theorem tb_1424 : (Jvm.Cond.instanceMethod ({ cls := "FearLocksModel", name := "triesDoor", desc := "(III)V" } : Jvm.MethodName)) ∈ fx_TB := fx_mem 1520 (by decide +kernel) rfl
theorem tb_1425 : (Jvm.Cond.code ({ cls := "FearLocksModel", name := "triesDoor", desc := "(III)V" } : Jvm.MethodName) prog_14_method_62_code (6 : Nat) (Option.none : Option Jvm.ClassFile.FieldType)) ∈ fx_TB := fx_mem 1521 (by decide +kernel) rfl
theorem tb_1426 : (Jvm.Cond.methodLink "FearLocksModel" (146 : Nat) ({ cls := "FearLocksModel", name := "unlocks", desc := "(II)Z" } : Jvm.MethodName)) ∈ fx_TB := fx_mem 1522 (by decide +kernel) rfl
theorem tb_1427 : (Jvm.Cond.privateMethod ({ cls := "FearLocksModel", name := "unlocks", desc := "(II)Z" } : Jvm.MethodName)) ∈ fx_TB := fx_mem 1523 (by decide +kernel) rfl
theorem tb_1428 : (Jvm.Cond.instanceMethod ({ cls := "FearLocksModel", name := "unlocks", desc := "(II)Z" } : Jvm.MethodName)) ∈ fx_TB := fx_mem 1524 (by decide +kernel) rfl
theorem tb_1429 : (Jvm.Cond.code ({ cls := "FearLocksModel", name := "unlocks", desc := "(II)Z" } : Jvm.MethodName) prog_14_method_15_code (3 : Nat) (Option.some Jvm.ClassFile.FieldType.boolean)) ∈ fx_TB := fx_mem 1525 (by decide +kernel) rfl
theorem tb_1430 : (Jvm.Cond.methodLink "FearLocksModel" (139 : Nat) ({ cls := "FearLocksModel", name := "fearOf", desc := "(I)I" } : Jvm.MethodName)) ∈ fx_TB := fx_mem 1526 (by decide +kernel) rfl
theorem tb_1431 : (Jvm.Cond.privateMethod ({ cls := "FearLocksModel", name := "fearOf", desc := "(I)I" } : Jvm.MethodName)) ∈ fx_TB := fx_mem 1527 (by decide +kernel) rfl
theorem tb_1432 : (Jvm.Cond.instanceMethod ({ cls := "FearLocksModel", name := "fearOf", desc := "(I)I" } : Jvm.MethodName)) ∈ fx_TB := fx_mem 1528 (by decide +kernel) rfl
theorem tb_1433 : (Jvm.Cond.code ({ cls := "FearLocksModel", name := "fearOf", desc := "(I)I" } : Jvm.MethodName) prog_14_method_14_code (6 : Nat) (Option.some Jvm.ClassFile.FieldType.int)) ∈ fx_TB := fx_mem 1529 (by decide +kernel) rfl
theorem tb_1434 : (Jvm.Cond.methodLink "FearLocksModel" (343 : Nat) ({ cls := "FearLocksModel", name := "catches", desc := "()V" } : Jvm.MethodName)) ∈ fx_TB := fx_mem 1530 (by decide +kernel) rfl
theorem tb_1435 : (Jvm.Cond.privateMethod ({ cls := "FearLocksModel", name := "catches", desc := "()V" } : Jvm.MethodName)) ∈ fx_TB := fx_mem 1531 (by decide +kernel) rfl
theorem tb_1436 : (Jvm.Cond.instanceMethod ({ cls := "FearLocksModel", name := "catches", desc := "()V" } : Jvm.MethodName)) ∈ fx_TB := fx_mem 1532 (by decide +kernel) rfl
theorem tb_1437 : (Jvm.Cond.code ({ cls := "FearLocksModel", name := "catches", desc := "()V" } : Jvm.MethodName) prog_14_method_65_code (5 : Nat) (Option.none : Option Jvm.ClassFile.FieldType)) ∈ fx_TB := fx_mem 1533 (by decide +kernel) rfl
theorem tb_1438 : (Jvm.Cond.methodLink "FearLocksModel" (337 : Nat) ({ cls := "FearLocksModel", name := "caughtBy", desc := "(II)I" } : Jvm.MethodName)) ∈ fx_TB := fx_mem 1534 (by decide +kernel) rfl
theorem tb_1439 : (Jvm.Cond.privateMethod ({ cls := "FearLocksModel", name := "caughtBy", desc := "(II)I" } : Jvm.MethodName)) ∈ fx_TB := fx_mem 1535 (by decide +kernel) rfl
theorem tb_1440 : (Jvm.Cond.instanceMethod ({ cls := "FearLocksModel", name := "caughtBy", desc := "(II)I" } : Jvm.MethodName)) ∈ fx_TB := fx_mem 1536 (by decide +kernel) rfl
theorem tb_1441 : (Jvm.Cond.code ({ cls := "FearLocksModel", name := "caughtBy", desc := "(II)I" } : Jvm.MethodName) prog_14_method_64_code (3 : Nat) (Option.some Jvm.ClassFile.FieldType.int)) ∈ fx_TB := fx_mem 1537 (by decide +kernel) rfl
theorem tb_1442 : (Jvm.Cond.methodLink "FearLocksLaw" (39 : Nat) ({ cls := "FearLocksModel", name := "tried", desc := "(II)I" } : Jvm.MethodName)) ∈ fx_TB := fx_mem 1538 (by decide +kernel) rfl
theorem tb_1443 : (Jvm.Cond.instanceMethod ({ cls := "FearLocksModel", name := "tried", desc := "(II)I" } : Jvm.MethodName)) ∈ fx_TB := fx_mem 1539 (by decide +kernel) rfl
theorem tb_1444 : (Jvm.Cond.selects "FearLocksModel" ({ cls := "FearLocksModel", name := "tried", desc := "(II)I" } : Jvm.MethodName) ({ cls := "FearLocksModel", name := "tried", desc := "(II)I" } : Jvm.MethodName)) ∈ fx_TB := fx_mem 1540 (by decide +kernel) rfl
theorem tb_1445 : (Jvm.Cond.code ({ cls := "FearLocksModel", name := "tried", desc := "(II)I" } : Jvm.MethodName) prog_14_method_70_code (4 : Nat) (Option.some Jvm.ClassFile.FieldType.int)) ∈ fx_TB := fx_mem 1541 (by decide +kernel) rfl
theorem tb_1446 : (Jvm.Cond.methodLink "FearLocksModel" (352 : Nat) ({ cls := "FearLocksModel", name := "orNone", desc := "(I)I" } : Jvm.MethodName)) ∈ fx_TB := fx_mem 1542 (by decide +kernel) rfl
theorem tb_1447 : (Jvm.Cond.static ({ cls := "FearLocksModel", name := "orNone", desc := "(I)I" } : Jvm.MethodName)) ∈ fx_TB := fx_mem 1543 (by decide +kernel) rfl
theorem tb_1448 : (Jvm.Cond.code ({ cls := "FearLocksModel", name := "orNone", desc := "(I)I" } : Jvm.MethodName) prog_14_method_69_code (1 : Nat) (Option.some Jvm.ClassFile.FieldType.int)) ∈ fx_TB := fx_mem 1544 (by decide +kernel) rfl
theorem tb_1449 : (Jvm.Cond.methodLink "FearLocksLaw" (43 : Nat) ({ cls := "FearLocksModel", name := "personIs", desc := "(II)I" } : Jvm.MethodName)) ∈ fx_TB := fx_mem 1545 (by decide +kernel) rfl
theorem tb_1450 : (Jvm.Cond.instanceMethod ({ cls := "FearLocksModel", name := "personIs", desc := "(II)I" } : Jvm.MethodName)) ∈ fx_TB := fx_mem 1546 (by decide +kernel) rfl
theorem tb_1451 : (Jvm.Cond.selects "FearLocksModel" ({ cls := "FearLocksModel", name := "personIs", desc := "(II)I" } : Jvm.MethodName) ({ cls := "FearLocksModel", name := "personIs", desc := "(II)I" } : Jvm.MethodName)) ∈ fx_TB := fx_mem 1547 (by decide +kernel) rfl
theorem tb_1452 : (Jvm.Cond.code ({ cls := "FearLocksModel", name := "personIs", desc := "(II)I" } : Jvm.MethodName) prog_14_method_72_code (3 : Nat) (Option.some Jvm.ClassFile.FieldType.int)) ∈ fx_TB := fx_mem 1548 (by decide +kernel) rfl
theorem tb_1453 : (Jvm.Cond.methodLink "FearLocksModel" (355 : Nat) ({ cls := "FearLocksModel", name := "doorsOf", desc := "(I)I" } : Jvm.MethodName)) ∈ fx_TB := fx_mem 1549 (by decide +kernel) rfl
theorem tb_1454 : (Jvm.Cond.privateMethod ({ cls := "FearLocksModel", name := "doorsOf", desc := "(I)I" } : Jvm.MethodName)) ∈ fx_TB := fx_mem 1550 (by decide +kernel) rfl
theorem tb_1455 : (Jvm.Cond.instanceMethod ({ cls := "FearLocksModel", name := "doorsOf", desc := "(I)I" } : Jvm.MethodName)) ∈ fx_TB := fx_mem 1551 (by decide +kernel) rfl
theorem tb_1456 : (Jvm.Cond.code ({ cls := "FearLocksModel", name := "doorsOf", desc := "(I)I" } : Jvm.MethodName) prog_14_method_16_code (4 : Nat) (Option.some Jvm.ClassFile.FieldType.int)) ∈ fx_TB := fx_mem 1552 (by decide +kernel) rfl
theorem tb_1457 : (Jvm.Cond.methodLink "FearLocksModel" (358 : Nat) ({ cls := "FearLocksModel", name := "dreadSum", desc := "(I)I" } : Jvm.MethodName)) ∈ fx_TB := fx_mem 1553 (by decide +kernel) rfl
theorem tb_1458 : (Jvm.Cond.privateMethod ({ cls := "FearLocksModel", name := "dreadSum", desc := "(I)I" } : Jvm.MethodName)) ∈ fx_TB := fx_mem 1554 (by decide +kernel) rfl
theorem tb_1459 : (Jvm.Cond.instanceMethod ({ cls := "FearLocksModel", name := "dreadSum", desc := "(I)I" } : Jvm.MethodName)) ∈ fx_TB := fx_mem 1555 (by decide +kernel) rfl
theorem tb_1460 : (Jvm.Cond.code ({ cls := "FearLocksModel", name := "dreadSum", desc := "(I)I" } : Jvm.MethodName) prog_14_method_71_code (4 : Nat) (Option.some Jvm.ClassFile.FieldType.int)) ∈ fx_TB := fx_mem 1556 (by decide +kernel) rfl
theorem tb_1461 : (Jvm.Cond.methodLink "FearLocksLaw" (47 : Nat) ({ cls := "FearLocksModel", name := "doorIs", desc := "(II)I" } : Jvm.MethodName)) ∈ fx_TB := fx_mem 1557 (by decide +kernel) rfl
theorem tb_1462 : (Jvm.Cond.instanceMethod ({ cls := "FearLocksModel", name := "doorIs", desc := "(II)I" } : Jvm.MethodName)) ∈ fx_TB := fx_mem 1558 (by decide +kernel) rfl
theorem tb_1463 : (Jvm.Cond.selects "FearLocksModel" ({ cls := "FearLocksModel", name := "doorIs", desc := "(II)I" } : Jvm.MethodName) ({ cls := "FearLocksModel", name := "doorIs", desc := "(II)I" } : Jvm.MethodName)) ∈ fx_TB := fx_mem 1559 (by decide +kernel) rfl
theorem tb_1464 : (Jvm.Cond.code ({ cls := "FearLocksModel", name := "doorIs", desc := "(II)I" } : Jvm.MethodName) prog_14_method_73_code (3 : Nat) (Option.some Jvm.ClassFile.FieldType.int)) ∈ fx_TB := fx_mem 1560 (by decide +kernel) rfl
theorem tb_1465 : (Jvm.Cond.methodLink "FearLocksModel" (361 : Nat) ({ cls := "FearLocksModel", name := "whoUnlocks", desc := "(I)I" } : Jvm.MethodName)) ∈ fx_TB := fx_mem 1561 (by decide +kernel) rfl
theorem tb_1466 : (Jvm.Cond.privateMethod ({ cls := "FearLocksModel", name := "whoUnlocks", desc := "(I)I" } : Jvm.MethodName)) ∈ fx_TB := fx_mem 1562 (by decide +kernel) rfl
theorem tb_1467 : (Jvm.Cond.instanceMethod ({ cls := "FearLocksModel", name := "whoUnlocks", desc := "(I)I" } : Jvm.MethodName)) ∈ fx_TB := fx_mem 1563 (by decide +kernel) rfl
theorem tb_1468 : (Jvm.Cond.code ({ cls := "FearLocksModel", name := "whoUnlocks", desc := "(I)I" } : Jvm.MethodName) prog_14_method_17_code (4 : Nat) (Option.some Jvm.ClassFile.FieldType.int)) ∈ fx_TB := fx_mem 1564 (by decide +kernel) rfl
theorem tb_1469 : (Jvm.Cond.methodLink "FearLocksLaw" (51 : Nat) ({ cls := "FearLocksModel", name := "taught", desc := "(II)I" } : Jvm.MethodName)) ∈ fx_TB := fx_mem 1565 (by decide +kernel) rfl
theorem tb_1470 : (Jvm.Cond.instanceMethod ({ cls := "FearLocksModel", name := "taught", desc := "(II)I" } : Jvm.MethodName)) ∈ fx_TB := fx_mem 1566 (by decide +kernel) rfl
theorem tb_1471 : (Jvm.Cond.selects "FearLocksModel" ({ cls := "FearLocksModel", name := "taught", desc := "(II)I" } : Jvm.MethodName) ({ cls := "FearLocksModel", name := "taught", desc := "(II)I" } : Jvm.MethodName)) ∈ fx_TB := fx_mem 1567 (by decide +kernel) rfl
theorem tb_1472 : (Jvm.Cond.code ({ cls := "FearLocksModel", name := "taught", desc := "(II)I" } : Jvm.MethodName) prog_14_method_74_code (7 : Nat) (Option.some Jvm.ClassFile.FieldType.int)) ∈ fx_TB := fx_mem 1568 (by decide +kernel) rfl
theorem tb_1473 : (Jvm.Cond.constant "FearLocksModel" (364 : Nat) (1000000 : Int32)) ∈ fx_TB := fx_mem 1569 (by decide +kernel) rfl
theorem tb_1474 : (Jvm.Cond.methodLink "FearLocksModel" (365 : Nat) ({ cls := "FearLocksModel", name := "size", desc := "(I)I" } : Jvm.MethodName)) ∈ fx_TB := fx_mem 1570 (by decide +kernel) rfl
theorem tb_1475 : (Jvm.Cond.static ({ cls := "FearLocksModel", name := "size", desc := "(I)I" } : Jvm.MethodName)) ∈ fx_TB := fx_mem 1571 (by decide +kernel) rfl
theorem tb_1476 : (Jvm.Cond.code ({ cls := "FearLocksModel", name := "size", desc := "(I)I" } : Jvm.MethodName) prog_14_method_5_code (1 : Nat) (Option.some Jvm.ClassFile.FieldType.int)) ∈ fx_TB := fx_mem 1572 (by decide +kernel) rfl
theorem tb_1477 : (Jvm.Cond.methodLink "FearLocksLaw" (55 : Nat) ({ cls := "FearLocksModel", name := "crew", desc := "(I)I" } : Jvm.MethodName)) ∈ fx_TB := fx_mem 1573 (by decide +kernel) rfl
theorem tb_1478 : (Jvm.Cond.instanceMethod ({ cls := "FearLocksModel", name := "crew", desc := "(I)I" } : Jvm.MethodName)) ∈ fx_TB := fx_mem 1574 (by decide +kernel) rfl
theorem tb_1479 : (Jvm.Cond.selects "FearLocksModel" ({ cls := "FearLocksModel", name := "crew", desc := "(I)I" } : Jvm.MethodName) ({ cls := "FearLocksModel", name := "crew", desc := "(I)I" } : Jvm.MethodName)) ∈ fx_TB := fx_mem 1575 (by decide +kernel) rfl
theorem tb_1480 : (Jvm.Cond.code ({ cls := "FearLocksModel", name := "crew", desc := "(I)I" } : Jvm.MethodName) prog_14_method_77_code (4 : Nat) (Option.some Jvm.ClassFile.FieldType.int)) ∈ fx_TB := fx_mem 1576 (by decide +kernel) rfl
theorem tb_1481 : (Jvm.Cond.methodLink "FearLocksModel" (368 : Nat) ({ cls := "FearLocksModel", name := "laysWho", desc := "()V" } : Jvm.MethodName)) ∈ fx_TB := fx_mem 1577 (by decide +kernel) rfl
theorem tb_1482 : (Jvm.Cond.privateMethod ({ cls := "FearLocksModel", name := "laysWho", desc := "()V" } : Jvm.MethodName)) ∈ fx_TB := fx_mem 1578 (by decide +kernel) rfl
theorem tb_1483 : (Jvm.Cond.instanceMethod ({ cls := "FearLocksModel", name := "laysWho", desc := "()V" } : Jvm.MethodName)) ∈ fx_TB := fx_mem 1579 (by decide +kernel) rfl
theorem tb_1484 : (Jvm.Cond.code ({ cls := "FearLocksModel", name := "laysWho", desc := "()V" } : Jvm.MethodName) prog_14_method_75_code (2 : Nat) (Option.none : Option Jvm.ClassFile.FieldType)) ∈ fx_TB := fx_mem 1580 (by decide +kernel) rfl
theorem tb_1485 : (Jvm.Cond.methodLink "FearLocksModel" (371 : Nat) ({ cls := "FearLocksModel", name := "isCrew", desc := "(I)Z" } : Jvm.MethodName)) ∈ fx_TB := fx_mem 1581 (by decide +kernel) rfl
theorem tb_1486 : (Jvm.Cond.privateMethod ({ cls := "FearLocksModel", name := "isCrew", desc := "(I)Z" } : Jvm.MethodName)) ∈ fx_TB := fx_mem 1582 (by decide +kernel) rfl
theorem tb_1487 : (Jvm.Cond.instanceMethod ({ cls := "FearLocksModel", name := "isCrew", desc := "(I)Z" } : Jvm.MethodName)) ∈ fx_TB := fx_mem 1583 (by decide +kernel) rfl
theorem tb_1488 : (Jvm.Cond.code ({ cls := "FearLocksModel", name := "isCrew", desc := "(I)Z" } : Jvm.MethodName) prog_14_method_76_code (3 : Nat) (Option.some Jvm.ClassFile.FieldType.boolean)) ∈ fx_TB := fx_mem 1584 (by decide +kernel) rfl
theorem tb_1489 : (Jvm.Cond.methodLink "FearLocksLaw" (60 : Nat) ({ cls := "FearLocksModel", name := "lodgings", desc := "()I" } : Jvm.MethodName)) ∈ fx_TB := fx_mem 1585 (by decide +kernel) rfl
theorem tb_1490 : (Jvm.Cond.instanceMethod ({ cls := "FearLocksModel", name := "lodgings", desc := "()I" } : Jvm.MethodName)) ∈ fx_TB := fx_mem 1586 (by decide +kernel) rfl
theorem tb_1491 : (Jvm.Cond.selects "FearLocksModel" ({ cls := "FearLocksModel", name := "lodgings", desc := "()I" } : Jvm.MethodName) ({ cls := "FearLocksModel", name := "lodgings", desc := "()I" } : Jvm.MethodName)) ∈ fx_TB := fx_mem 1587 (by decide +kernel) rfl
theorem tb_1492 : (Jvm.Cond.code ({ cls := "FearLocksModel", name := "lodgings", desc := "()I" } : Jvm.MethodName) prog_14_method_78_code (5 : Nat) (Option.some Jvm.ClassFile.FieldType.int)) ∈ fx_TB := fx_mem 1588 (by decide +kernel) rfl
theorem tb_1493 : (Jvm.Cond.methodLink "FearLocksLaw" (64 : Nat) ({ cls := "FearLocksModel", name := "couples", desc := "(I)I" } : Jvm.MethodName)) ∈ fx_TB := fx_mem 1589 (by decide +kernel) rfl
theorem tb_1494 : (Jvm.Cond.instanceMethod ({ cls := "FearLocksModel", name := "couples", desc := "(I)I" } : Jvm.MethodName)) ∈ fx_TB := fx_mem 1590 (by decide +kernel) rfl
theorem tb_1495 : (Jvm.Cond.selects "FearLocksModel" ({ cls := "FearLocksModel", name := "couples", desc := "(I)I" } : Jvm.MethodName) ({ cls := "FearLocksModel", name := "couples", desc := "(I)I" } : Jvm.MethodName)) ∈ fx_TB := fx_mem 1591 (by decide +kernel) rfl
theorem tb_1496 : (Jvm.Cond.code ({ cls := "FearLocksModel", name := "couples", desc := "(I)I" } : Jvm.MethodName) prog_14_method_80_code (5 : Nat) (Option.some Jvm.ClassFile.FieldType.int)) ∈ fx_TB := fx_mem 1592 (by decide +kernel) rfl
theorem tb_1497 : (Jvm.Cond.methodLink "FearLocksModel" (374 : Nat) ({ cls := "FearLocksModel", name := "areCouple", desc := "(III)Z" } : Jvm.MethodName)) ∈ fx_TB := fx_mem 1593 (by decide +kernel) rfl
theorem tb_1498 : (Jvm.Cond.privateMethod ({ cls := "FearLocksModel", name := "areCouple", desc := "(III)Z" } : Jvm.MethodName)) ∈ fx_TB := fx_mem 1594 (by decide +kernel) rfl
theorem tb_1499 : (Jvm.Cond.instanceMethod ({ cls := "FearLocksModel", name := "areCouple", desc := "(III)Z" } : Jvm.MethodName)) ∈ fx_TB := fx_mem 1595 (by decide +kernel) rfl
theorem tb_1500 : (Jvm.Cond.code ({ cls := "FearLocksModel", name := "areCouple", desc := "(III)Z" } : Jvm.MethodName) prog_14_method_79_code (5 : Nat) (Option.some Jvm.ClassFile.FieldType.boolean)) ∈ fx_TB := fx_mem 1596 (by decide +kernel) rfl
theorem tb_1501 : (Jvm.Cond.methodLink "FearLocksModel" (377 : Nat) ({ cls := "FearLocksModel", name := "lowest", desc := "(I)I" } : Jvm.MethodName)) ∈ fx_TB := fx_mem 1597 (by decide +kernel) rfl
theorem tb_1502 : (Jvm.Cond.static ({ cls := "FearLocksModel", name := "lowest", desc := "(I)I" } : Jvm.MethodName)) ∈ fx_TB := fx_mem 1598 (by decide +kernel) rfl
theorem tb_1503 : (Jvm.Cond.code ({ cls := "FearLocksModel", name := "lowest", desc := "(I)I" } : Jvm.MethodName) prog_14_method_81_code (2 : Nat) (Option.some Jvm.ClassFile.FieldType.int)) ∈ fx_TB := fx_mem 1599 (by decide +kernel) rfl
theorem tb_1504 : (Jvm.Cond.methodLink "FearLocksLaw" (69 : Nat) ({ cls := "FearLocksModel", name := "fashion", desc := "(III)I" } : Jvm.MethodName)) ∈ fx_TB := fx_mem 1600 (by decide +kernel) rfl
theorem tb_1505 : (Jvm.Cond.instanceMethod ({ cls := "FearLocksModel", name := "fashion", desc := "(III)I" } : Jvm.MethodName)) ∈ fx_TB := fx_mem 1601 (by decide +kernel) rfl
theorem tb_1506 : (Jvm.Cond.selects "FearLocksModel" ({ cls := "FearLocksModel", name := "fashion", desc := "(III)I" } : Jvm.MethodName) ({ cls := "FearLocksModel", name := "fashion", desc := "(III)I" } : Jvm.MethodName)) ∈ fx_TB := fx_mem 1602 (by decide +kernel) rfl
theorem tb_1507 : (Jvm.Cond.code ({ cls := "FearLocksModel", name := "fashion", desc := "(III)I" } : Jvm.MethodName) prog_14_method_83_code (8 : Nat) (Option.some Jvm.ClassFile.FieldType.int)) ∈ fx_TB := fx_mem 1603 (by decide +kernel) rfl
theorem tb_1508 : (Jvm.Cond.methodLink "FearLocksModel" (380 : Nat) ({ cls := "FearLocksModel", name := "firstWith", desc := "(I)I" } : Jvm.MethodName)) ∈ fx_TB := fx_mem 1604 (by decide +kernel) rfl
theorem tb_1509 : (Jvm.Cond.privateMethod ({ cls := "FearLocksModel", name := "firstWith", desc := "(I)I" } : Jvm.MethodName)) ∈ fx_TB := fx_mem 1605 (by decide +kernel) rfl
theorem tb_1510 : (Jvm.Cond.instanceMethod ({ cls := "FearLocksModel", name := "firstWith", desc := "(I)I" } : Jvm.MethodName)) ∈ fx_TB := fx_mem 1606 (by decide +kernel) rfl
theorem tb_1511 : (Jvm.Cond.code ({ cls := "FearLocksModel", name := "firstWith", desc := "(I)I" } : Jvm.MethodName) prog_14_method_82_code (4 : Nat) (Option.some Jvm.ClassFile.FieldType.int)) ∈ fx_TB := fx_mem 1607 (by decide +kernel) rfl
theorem tb_1512 : (Jvm.Cond.methodLink "FearLocksLaw" (73 : Nat) ({ cls := "FearLocksModel", name := "fears", desc := "(I)I" } : Jvm.MethodName)) ∈ fx_TB := fx_mem 1608 (by decide +kernel) rfl
theorem tb_1513 : (Jvm.Cond.instanceMethod ({ cls := "FearLocksModel", name := "fears", desc := "(I)I" } : Jvm.MethodName)) ∈ fx_TB := fx_mem 1609 (by decide +kernel) rfl
theorem tb_1514 : (Jvm.Cond.selects "FearLocksModel" ({ cls := "FearLocksModel", name := "fears", desc := "(I)I" } : Jvm.MethodName) ({ cls := "FearLocksModel", name := "fears", desc := "(I)I" } : Jvm.MethodName)) ∈ fx_TB := fx_mem 1610 (by decide +kernel) rfl
theorem tb_1515 : (Jvm.Cond.code ({ cls := "FearLocksModel", name := "fears", desc := "(I)I" } : Jvm.MethodName) prog_14_method_84_code (5 : Nat) (Option.some Jvm.ClassFile.FieldType.int)) ∈ fx_TB := fx_mem 1611 (by decide +kernel) rfl
theorem tb_1516 : (Jvm.Cond.methodLink "FearLocksLaw" (77 : Nat) ({ cls := "FearLocksModel", name := "unlike", desc := "(II)I" } : Jvm.MethodName)) ∈ fx_TB := fx_mem 1612 (by decide +kernel) rfl
theorem tb_1517 : (Jvm.Cond.instanceMethod ({ cls := "FearLocksModel", name := "unlike", desc := "(II)I" } : Jvm.MethodName)) ∈ fx_TB := fx_mem 1613 (by decide +kernel) rfl
theorem tb_1518 : (Jvm.Cond.selects "FearLocksModel" ({ cls := "FearLocksModel", name := "unlike", desc := "(II)I" } : Jvm.MethodName) ({ cls := "FearLocksModel", name := "unlike", desc := "(II)I" } : Jvm.MethodName)) ∈ fx_TB := fx_mem 1614 (by decide +kernel) rfl
theorem tb_1519 : (Jvm.Cond.code ({ cls := "FearLocksModel", name := "unlike", desc := "(II)I" } : Jvm.MethodName) prog_14_method_86_code (3 : Nat) (Option.some Jvm.ClassFile.FieldType.int)) ∈ fx_TB := fx_mem 1615 (by decide +kernel) rfl
theorem tb_1520 : (Jvm.Cond.methodLink "FearLocksModel" (383 : Nat) ({ cls := "FearLocksModel", name := "unlikeBy", desc := "(II)I" } : Jvm.MethodName)) ∈ fx_TB := fx_mem 1616 (by decide +kernel) rfl
theorem tb_1521 : (Jvm.Cond.privateMethod ({ cls := "FearLocksModel", name := "unlikeBy", desc := "(II)I" } : Jvm.MethodName)) ∈ fx_TB := fx_mem 1617 (by decide +kernel) rfl
theorem tb_1522 : (Jvm.Cond.instanceMethod ({ cls := "FearLocksModel", name := "unlikeBy", desc := "(II)I" } : Jvm.MethodName)) ∈ fx_TB := fx_mem 1618 (by decide +kernel) rfl
theorem tb_1523 : (Jvm.Cond.code ({ cls := "FearLocksModel", name := "unlikeBy", desc := "(II)I" } : Jvm.MethodName) prog_14_method_85_code (5 : Nat) (Option.some Jvm.ClassFile.FieldType.int)) ∈ fx_TB := fx_mem 1619 (by decide +kernel) rfl
theorem tb_1524 : (Jvm.Cond.methodLink "FearLocksLaw" (81 : Nat) ({ cls := "FearLocksModel", name := "mostLike", desc := "(I)I" } : Jvm.MethodName)) ∈ fx_TB := fx_mem 1620 (by decide +kernel) rfl
theorem tb_1525 : (Jvm.Cond.instanceMethod ({ cls := "FearLocksModel", name := "mostLike", desc := "(I)I" } : Jvm.MethodName)) ∈ fx_TB := fx_mem 1621 (by decide +kernel) rfl
theorem tb_1526 : (Jvm.Cond.selects "FearLocksModel" ({ cls := "FearLocksModel", name := "mostLike", desc := "(I)I" } : Jvm.MethodName) ({ cls := "FearLocksModel", name := "mostLike", desc := "(I)I" } : Jvm.MethodName)) ∈ fx_TB := fx_mem 1622 (by decide +kernel) rfl
theorem tb_1527 : (Jvm.Cond.code ({ cls := "FearLocksModel", name := "mostLike", desc := "(I)I" } : Jvm.MethodName) prog_14_method_87_code (4 : Nat) (Option.some Jvm.ClassFile.FieldType.int)) ∈ fx_TB := fx_mem 1623 (by decide +kernel) rfl
theorem tb_1528 : (Jvm.Cond.methodLink "FearLocksLaw" (85 : Nat) ({ cls := "FearLocksModel", name := "circles", desc := "(II)I" } : Jvm.MethodName)) ∈ fx_TB := fx_mem 1624 (by decide +kernel) rfl
theorem tb_1529 : (Jvm.Cond.instanceMethod ({ cls := "FearLocksModel", name := "circles", desc := "(II)I" } : Jvm.MethodName)) ∈ fx_TB := fx_mem 1625 (by decide +kernel) rfl
theorem tb_1530 : (Jvm.Cond.selects "FearLocksModel" ({ cls := "FearLocksModel", name := "circles", desc := "(II)I" } : Jvm.MethodName) ({ cls := "FearLocksModel", name := "circles", desc := "(II)I" } : Jvm.MethodName)) ∈ fx_TB := fx_mem 1626 (by decide +kernel) rfl
theorem tb_1531 : (Jvm.Cond.code ({ cls := "FearLocksModel", name := "circles", desc := "(II)I" } : Jvm.MethodName) prog_14_method_89_code (6 : Nat) (Option.some Jvm.ClassFile.FieldType.int)) ∈ fx_TB := fx_mem 1627 (by decide +kernel) rfl
theorem tb_1532 : (Jvm.Cond.methodLink "FearLocksModel" (386 : Nat) ({ cls := "FearLocksModel", name := "circleOf", desc := "(II)I" } : Jvm.MethodName)) ∈ fx_TB := fx_mem 1628 (by decide +kernel) rfl
theorem tb_1533 : (Jvm.Cond.privateMethod ({ cls := "FearLocksModel", name := "circleOf", desc := "(II)I" } : Jvm.MethodName)) ∈ fx_TB := fx_mem 1629 (by decide +kernel) rfl
theorem tb_1534 : (Jvm.Cond.instanceMethod ({ cls := "FearLocksModel", name := "circleOf", desc := "(II)I" } : Jvm.MethodName)) ∈ fx_TB := fx_mem 1630 (by decide +kernel) rfl
theorem tb_1535 : (Jvm.Cond.code ({ cls := "FearLocksModel", name := "circleOf", desc := "(II)I" } : Jvm.MethodName) prog_14_method_88_code (7 : Nat) (Option.some Jvm.ClassFile.FieldType.int)) ∈ fx_TB := fx_mem 1631 (by decide +kernel) rfl
theorem tb_1536 : (Jvm.Cond.methodLink "FearLocksLaw" (89 : Nat) ({ cls := "FearLocksModel", name := "keystones", desc := "()I" } : Jvm.MethodName)) ∈ fx_TB := fx_mem 1632 (by decide +kernel) rfl
theorem tb_1537 : (Jvm.Cond.instanceMethod ({ cls := "FearLocksModel", name := "keystones", desc := "()I" } : Jvm.MethodName)) ∈ fx_TB := fx_mem 1633 (by decide +kernel) rfl
theorem tb_1538 : (Jvm.Cond.selects "FearLocksModel" ({ cls := "FearLocksModel", name := "keystones", desc := "()I" } : Jvm.MethodName) ({ cls := "FearLocksModel", name := "keystones", desc := "()I" } : Jvm.MethodName)) ∈ fx_TB := fx_mem 1634 (by decide +kernel) rfl
theorem tb_1539 : (Jvm.Cond.code ({ cls := "FearLocksModel", name := "keystones", desc := "()I" } : Jvm.MethodName) prog_14_method_92_code (3 : Nat) (Option.some Jvm.ClassFile.FieldType.int)) ∈ fx_TB := fx_mem 1635 (by decide +kernel) rfl
theorem tb_1540 : (Jvm.Cond.methodLink "FearLocksModel" (392 : Nat) ({ cls := "FearLocksModel", name := "isKeystone", desc := "(I)Z" } : Jvm.MethodName)) ∈ fx_TB := fx_mem 1636 (by decide +kernel) rfl
theorem tb_1541 : (Jvm.Cond.privateMethod ({ cls := "FearLocksModel", name := "isKeystone", desc := "(I)Z" } : Jvm.MethodName)) ∈ fx_TB := fx_mem 1637 (by decide +kernel) rfl
theorem tb_1542 : (Jvm.Cond.instanceMethod ({ cls := "FearLocksModel", name := "isKeystone", desc := "(I)Z" } : Jvm.MethodName)) ∈ fx_TB := fx_mem 1638 (by decide +kernel) rfl
theorem tb_1543 : (Jvm.Cond.code ({ cls := "FearLocksModel", name := "isKeystone", desc := "(I)Z" } : Jvm.MethodName) prog_14_method_91_code (3 : Nat) (Option.some Jvm.ClassFile.FieldType.boolean)) ∈ fx_TB := fx_mem 1639 (by decide +kernel) rfl
theorem tb_1544 : (Jvm.Cond.methodLink "FearLocksModel" (389 : Nat) ({ cls := "FearLocksModel", name := "groupOf", desc := "(II)I" } : Jvm.MethodName)) ∈ fx_TB := fx_mem 1640 (by decide +kernel) rfl
theorem tb_1545 : (Jvm.Cond.privateMethod ({ cls := "FearLocksModel", name := "groupOf", desc := "(II)I" } : Jvm.MethodName)) ∈ fx_TB := fx_mem 1641 (by decide +kernel) rfl
theorem tb_1546 : (Jvm.Cond.instanceMethod ({ cls := "FearLocksModel", name := "groupOf", desc := "(II)I" } : Jvm.MethodName)) ∈ fx_TB := fx_mem 1642 (by decide +kernel) rfl
theorem tb_1547 : (Jvm.Cond.code ({ cls := "FearLocksModel", name := "groupOf", desc := "(II)I" } : Jvm.MethodName) prog_14_method_90_code (6 : Nat) (Option.some Jvm.ClassFile.FieldType.int)) ∈ fx_TB := fx_mem 1643 (by decide +kernel) rfl
theorem tb_1548 : (Jvm.Cond.methodLink "FearLocksLaw" (93 : Nat) ({ cls := "FearLocksModel", name := "steps", desc := "(II)I" } : Jvm.MethodName)) ∈ fx_TB := fx_mem 1644 (by decide +kernel) rfl
theorem tb_1549 : (Jvm.Cond.instanceMethod ({ cls := "FearLocksModel", name := "steps", desc := "(II)I" } : Jvm.MethodName)) ∈ fx_TB := fx_mem 1645 (by decide +kernel) rfl
theorem tb_1550 : (Jvm.Cond.selects "FearLocksModel" ({ cls := "FearLocksModel", name := "steps", desc := "(II)I" } : Jvm.MethodName) ({ cls := "FearLocksModel", name := "steps", desc := "(II)I" } : Jvm.MethodName)) ∈ fx_TB := fx_mem 1646 (by decide +kernel) rfl
theorem tb_1551 : (Jvm.Cond.code ({ cls := "FearLocksModel", name := "steps", desc := "(II)I" } : Jvm.MethodName) prog_14_method_93_code (7 : Nat) (Option.some Jvm.ClassFile.FieldType.int)) ∈ fx_TB := fx_mem 1647 (by decide +kernel) rfl
theorem tb_1552 : (Jvm.Cond.methodLink "FearLocksLaw" (97 : Nat) ({ cls := "FearLocksModel", name := "guess", desc := "(II)I" } : Jvm.MethodName)) ∈ fx_TB := fx_mem 1648 (by decide +kernel) rfl
theorem tb_1553 : (Jvm.Cond.instanceMethod ({ cls := "FearLocksModel", name := "guess", desc := "(II)I" } : Jvm.MethodName)) ∈ fx_TB := fx_mem 1649 (by decide +kernel) rfl
theorem tb_1554 : (Jvm.Cond.selects "FearLocksModel" ({ cls := "FearLocksModel", name := "guess", desc := "(II)I" } : Jvm.MethodName) ({ cls := "FearLocksModel", name := "guess", desc := "(II)I" } : Jvm.MethodName)) ∈ fx_TB := fx_mem 1650 (by decide +kernel) rfl
theorem tb_1555 : (Jvm.Cond.code ({ cls := "FearLocksModel", name := "guess", desc := "(II)I" } : Jvm.MethodName) prog_14_method_95_code (5 : Nat) (Option.some Jvm.ClassFile.FieldType.int)) ∈ fx_TB := fx_mem 1651 (by decide +kernel) rfl
theorem tb_1556 : (Jvm.Cond.methodLink "FearLocksModel" (401 : Nat) ({ cls := "FearLocksModel", name := "octet", desc := "(I)I" } : Jvm.MethodName)) ∈ fx_TB := fx_mem 1652 (by decide +kernel) rfl
theorem tb_1557 : (Jvm.Cond.privateMethod ({ cls := "FearLocksModel", name := "octet", desc := "(I)I" } : Jvm.MethodName)) ∈ fx_TB := fx_mem 1653 (by decide +kernel) rfl
theorem tb_1558 : (Jvm.Cond.instanceMethod ({ cls := "FearLocksModel", name := "octet", desc := "(I)I" } : Jvm.MethodName)) ∈ fx_TB := fx_mem 1654 (by decide +kernel) rfl
theorem tb_1559 : (Jvm.Cond.code ({ cls := "FearLocksModel", name := "octet", desc := "(I)I" } : Jvm.MethodName) prog_14_method_20_code (2 : Nat) (Option.some Jvm.ClassFile.FieldType.int)) ∈ fx_TB := fx_mem 1655 (by decide +kernel) rfl
theorem tb_1560 : (Jvm.Cond.methodLink "FearLocksModel" (404 : Nat) ({ cls := "FearLocksModel", name := "bounds", desc := "(II)Z" } : Jvm.MethodName)) ∈ fx_TB := fx_mem 1656 (by decide +kernel) rfl
theorem tb_1561 : (Jvm.Cond.privateMethod ({ cls := "FearLocksModel", name := "bounds", desc := "(II)Z" } : Jvm.MethodName)) ∈ fx_TB := fx_mem 1657 (by decide +kernel) rfl
theorem tb_1562 : (Jvm.Cond.instanceMethod ({ cls := "FearLocksModel", name := "bounds", desc := "(II)Z" } : Jvm.MethodName)) ∈ fx_TB := fx_mem 1658 (by decide +kernel) rfl
theorem tb_1563 : (Jvm.Cond.code ({ cls := "FearLocksModel", name := "bounds", desc := "(II)Z" } : Jvm.MethodName) prog_14_method_94_code (6 : Nat) (Option.some Jvm.ClassFile.FieldType.boolean)) ∈ fx_TB := fx_mem 1659 (by decide +kernel) rfl
theorem tb_1564 : (Jvm.Cond.methodLink "FearLocksLaw" (101 : Nat) ({ cls := "FearLocksModel", name := "sentNext", desc := "(II)I" } : Jvm.MethodName)) ∈ fx_TB := fx_mem 1660 (by decide +kernel) rfl
theorem tb_1565 : (Jvm.Cond.instanceMethod ({ cls := "FearLocksModel", name := "sentNext", desc := "(II)I" } : Jvm.MethodName)) ∈ fx_TB := fx_mem 1661 (by decide +kernel) rfl
theorem tb_1566 : (Jvm.Cond.selects "FearLocksModel" ({ cls := "FearLocksModel", name := "sentNext", desc := "(II)I" } : Jvm.MethodName) ({ cls := "FearLocksModel", name := "sentNext", desc := "(II)I" } : Jvm.MethodName)) ∈ fx_TB := fx_mem 1662 (by decide +kernel) rfl
theorem tb_1567 : (Jvm.Cond.code ({ cls := "FearLocksModel", name := "sentNext", desc := "(II)I" } : Jvm.MethodName) prog_14_method_97_code (5 : Nat) (Option.some Jvm.ClassFile.FieldType.int)) ∈ fx_TB := fx_mem 1663 (by decide +kernel) rfl
theorem tb_1568 : (Jvm.Cond.methodLink "FearLocksModel" (407 : Nat) ({ cls := "FearLocksModel", name := "leaves", desc := "(II)I" } : Jvm.MethodName)) ∈ fx_TB := fx_mem 1664 (by decide +kernel) rfl
theorem tb_1569 : (Jvm.Cond.privateMethod ({ cls := "FearLocksModel", name := "leaves", desc := "(II)I" } : Jvm.MethodName)) ∈ fx_TB := fx_mem 1665 (by decide +kernel) rfl
theorem tb_1570 : (Jvm.Cond.instanceMethod ({ cls := "FearLocksModel", name := "leaves", desc := "(II)I" } : Jvm.MethodName)) ∈ fx_TB := fx_mem 1666 (by decide +kernel) rfl
theorem tb_1571 : (Jvm.Cond.code ({ cls := "FearLocksModel", name := "leaves", desc := "(II)I" } : Jvm.MethodName) prog_14_method_96_code (4 : Nat) (Option.some Jvm.ClassFile.FieldType.int)) ∈ fx_TB := fx_mem 1667 (by decide +kernel) rfl
theorem tb_1572 : (Jvm.Cond.methodLink "FearLocksLaw" (105 : Nat) ({ cls := "FearLocksModel", name := "guards", desc := "(I)I" } : Jvm.MethodName)) ∈ fx_TB := fx_mem 1668 (by decide +kernel) rfl
theorem tb_1573 : (Jvm.Cond.instanceMethod ({ cls := "FearLocksModel", name := "guards", desc := "(I)I" } : Jvm.MethodName)) ∈ fx_TB := fx_mem 1669 (by decide +kernel) rfl
theorem tb_1574 : (Jvm.Cond.selects "FearLocksModel" ({ cls := "FearLocksModel", name := "guards", desc := "(I)I" } : Jvm.MethodName) ({ cls := "FearLocksModel", name := "guards", desc := "(I)I" } : Jvm.MethodName)) ∈ fx_TB := fx_mem 1670 (by decide +kernel) rfl
theorem tb_1575 : (Jvm.Cond.code ({ cls := "FearLocksModel", name := "guards", desc := "(I)I" } : Jvm.MethodName) prog_14_method_101_code (5 : Nat) (Option.some Jvm.ClassFile.FieldType.int)) ∈ fx_TB := fx_mem 1671 (by decide +kernel) rfl
theorem tb_1576 : (Jvm.Cond.methodLink "FearLocksModel" (413 : Nat) ({ cls := "FearLocksModel", name := "canStand", desc := "(I)Z" } : Jvm.MethodName)) ∈ fx_TB := fx_mem 1672 (by decide +kernel) rfl
theorem tb_1577 : (Jvm.Cond.privateMethod ({ cls := "FearLocksModel", name := "canStand", desc := "(I)Z" } : Jvm.MethodName)) ∈ fx_TB := fx_mem 1673 (by decide +kernel) rfl
theorem tb_1578 : (Jvm.Cond.instanceMethod ({ cls := "FearLocksModel", name := "canStand", desc := "(I)Z" } : Jvm.MethodName)) ∈ fx_TB := fx_mem 1674 (by decide +kernel) rfl
theorem tb_1579 : (Jvm.Cond.code ({ cls := "FearLocksModel", name := "canStand", desc := "(I)Z" } : Jvm.MethodName) prog_14_method_100_code (4 : Nat) (Option.some Jvm.ClassFile.FieldType.boolean)) ∈ fx_TB := fx_mem 1675 (by decide +kernel) rfl
theorem tb_1580 : (Jvm.Cond.methodLink "FearLocksModel" (416 : Nat) ({ cls := "FearLocksModel", name := "nextOrder", desc := "(I)Z" } : Jvm.MethodName)) ∈ fx_TB := fx_mem 1676 (by decide +kernel) rfl
theorem tb_1581 : (Jvm.Cond.privateMethod ({ cls := "FearLocksModel", name := "nextOrder", desc := "(I)Z" } : Jvm.MethodName)) ∈ fx_TB := fx_mem 1677 (by decide +kernel) rfl
theorem tb_1582 : (Jvm.Cond.instanceMethod ({ cls := "FearLocksModel", name := "nextOrder", desc := "(I)Z" } : Jvm.MethodName)) ∈ fx_TB := fx_mem 1678 (by decide +kernel) rfl
theorem tb_1583 : (Jvm.Cond.code ({ cls := "FearLocksModel", name := "nextOrder", desc := "(I)Z" } : Jvm.MethodName) prog_14_method_99_code (6 : Nat) (Option.some Jvm.ClassFile.FieldType.boolean)) ∈ fx_TB := fx_mem 1679 (by decide +kernel) rfl
theorem tb_1584 : (Jvm.Cond.methodLink "FearLocksModel" (410 : Nat) ({ cls := "FearLocksModel", name := "changesOrder", desc := "(II)V" } : Jvm.MethodName)) ∈ fx_TB := fx_mem 1680 (by decide +kernel) rfl
theorem tb_1585 : (Jvm.Cond.privateMethod ({ cls := "FearLocksModel", name := "changesOrder", desc := "(II)V" } : Jvm.MethodName)) ∈ fx_TB := fx_mem 1681 (by decide +kernel) rfl
theorem tb_1586 : (Jvm.Cond.instanceMethod ({ cls := "FearLocksModel", name := "changesOrder", desc := "(II)V" } : Jvm.MethodName)) ∈ fx_TB := fx_mem 1682 (by decide +kernel) rfl
theorem tb_1587 : (Jvm.Cond.code ({ cls := "FearLocksModel", name := "changesOrder", desc := "(II)V" } : Jvm.MethodName) prog_14_method_98_code (4 : Nat) (Option.none : Option Jvm.ClassFile.FieldType)) ∈ fx_TB := fx_mem 1683 (by decide +kernel) rfl
theorem tb_1588 : (Jvm.Cond.methodLink "FearLocksLaw" (110 : Nat) ({ cls := "FearLocksModel", name := "word", desc := "(III)J" } : Jvm.MethodName)) ∈ fx_TB := fx_mem 1684 (by decide +kernel) rfl
theorem tb_1589 : (Jvm.Cond.instanceMethod ({ cls := "FearLocksModel", name := "word", desc := "(III)J" } : Jvm.MethodName)) ∈ fx_TB := fx_mem 1685 (by decide +kernel) rfl
theorem tb_1590 : (Jvm.Cond.selects "FearLocksModel" ({ cls := "FearLocksModel", name := "word", desc := "(III)J" } : Jvm.MethodName) ({ cls := "FearLocksModel", name := "word", desc := "(III)J" } : Jvm.MethodName)) ∈ fx_TB := fx_mem 1686 (by decide +kernel) rfl
theorem tb_1591 : (Jvm.Cond.code ({ cls := "FearLocksModel", name := "word", desc := "(III)J" } : Jvm.MethodName) prog_14_method_102_code (7 : Nat) (Option.some Jvm.ClassFile.FieldType.long)) ∈ fx_TB := fx_mem 1687 (by decide +kernel) rfl
theorem tb_1592 : (Jvm.Cond.constantLong "FearLocksModel" (419 : Nat) (-1 : Int64)) ∈ fx_TB := fx_mem 1688 (by decide +kernel) rfl
theorem tb_1593 : (Jvm.Cond.methodLink "FearLocksLaw" (114 : Nat) ({ cls := "FearLocksModel", name := "rooms", desc := "(II)I" } : Jvm.MethodName)) ∈ fx_TB := fx_mem 1689 (by decide +kernel) rfl
theorem tb_1594 : (Jvm.Cond.instanceMethod ({ cls := "FearLocksModel", name := "rooms", desc := "(II)I" } : Jvm.MethodName)) ∈ fx_TB := fx_mem 1690 (by decide +kernel) rfl
theorem tb_1595 : (Jvm.Cond.selects "FearLocksModel" ({ cls := "FearLocksModel", name := "rooms", desc := "(II)I" } : Jvm.MethodName) ({ cls := "FearLocksModel", name := "rooms", desc := "(II)I" } : Jvm.MethodName)) ∈ fx_TB := fx_mem 1691 (by decide +kernel) rfl
theorem tb_1596 : (Jvm.Cond.code ({ cls := "FearLocksModel", name := "rooms", desc := "(II)I" } : Jvm.MethodName) prog_14_method_103_code (5 : Nat) (Option.some Jvm.ClassFile.FieldType.int)) ∈ fx_TB := fx_mem 1692 (by decide +kernel) rfl
theorem tb_1597 : (Jvm.Cond.methodLink "FearLocksModel" (421 : Nat) ({ cls := "FearLocksModel", name := "sleeps", desc := "(III)I" } : Jvm.MethodName)) ∈ fx_TB := fx_mem 1693 (by decide +kernel) rfl
theorem tb_1598 : (Jvm.Cond.privateMethod ({ cls := "FearLocksModel", name := "sleeps", desc := "(III)I" } : Jvm.MethodName)) ∈ fx_TB := fx_mem 1694 (by decide +kernel) rfl
theorem tb_1599 : (Jvm.Cond.instanceMethod ({ cls := "FearLocksModel", name := "sleeps", desc := "(III)I" } : Jvm.MethodName)) ∈ fx_TB := fx_mem 1695 (by decide +kernel) rfl
theorem tb_1600 : (Jvm.Cond.code ({ cls := "FearLocksModel", name := "sleeps", desc := "(III)I" } : Jvm.MethodName) prog_14_method_104_code (7 : Nat) (Option.some Jvm.ClassFile.FieldType.int)) ∈ fx_TB := fx_mem 1696 (by decide +kernel) rfl
theorem tb_1601 : (Jvm.Cond.methodLink "FearLocksLaw" (119 : Nat) ({ cls := "FearLocksModel", name := "seed", desc := "(I)Z" } : Jvm.MethodName)) ∈ fx_TB := fx_mem 1697 (by decide +kernel) rfl
theorem tb_1602 : (Jvm.Cond.instanceMethod ({ cls := "FearLocksModel", name := "seed", desc := "(I)Z" } : Jvm.MethodName)) ∈ fx_TB := fx_mem 1698 (by decide +kernel) rfl
theorem tb_1603 : (Jvm.Cond.selects "FearLocksModel" ({ cls := "FearLocksModel", name := "seed", desc := "(I)Z" } : Jvm.MethodName) ({ cls := "FearLocksModel", name := "seed", desc := "(I)Z" } : Jvm.MethodName)) ∈ fx_TB := fx_mem 1699 (by decide +kernel) rfl
theorem tb_1604 : (Jvm.Cond.code ({ cls := "FearLocksModel", name := "seed", desc := "(I)Z" } : Jvm.MethodName) prog_14_method_105_code (2 : Nat) (Option.some Jvm.ClassFile.FieldType.boolean)) ∈ fx_TB := fx_mem 1700 (by decide +kernel) rfl
theorem tb_1605 : (Jvm.Cond.methodLink "FearLocksLaw" (123 : Nat) ({ cls := "FearLocksModel", name := "keep", desc := "()I" } : Jvm.MethodName)) ∈ fx_TB := fx_mem 1701 (by decide +kernel) rfl
theorem tb_1606 : (Jvm.Cond.instanceMethod ({ cls := "FearLocksModel", name := "keep", desc := "()I" } : Jvm.MethodName)) ∈ fx_TB := fx_mem 1702 (by decide +kernel) rfl
theorem tb_1607 : (Jvm.Cond.selects "FearLocksModel" ({ cls := "FearLocksModel", name := "keep", desc := "()I" } : Jvm.MethodName) ({ cls := "FearLocksModel", name := "keep", desc := "()I" } : Jvm.MethodName)) ∈ fx_TB := fx_mem 1703 (by decide +kernel) rfl
theorem tb_1608 : (Jvm.Cond.code ({ cls := "FearLocksModel", name := "keep", desc := "()I" } : Jvm.MethodName) prog_14_method_106_code (1 : Nat) (Option.some Jvm.ClassFile.FieldType.int)) ∈ fx_TB := fx_mem 1704 (by decide +kernel) rfl
theorem tb_1609 : (Jvm.Cond.methodLink "FearLocksLaw" (128 : Nat) ({ cls := "FearLocksModel", name := "undo", desc := "()Z" } : Jvm.MethodName)) ∈ fx_TB := fx_mem 1705 (by decide +kernel) rfl
theorem tb_1610 : (Jvm.Cond.instanceMethod ({ cls := "FearLocksModel", name := "undo", desc := "()Z" } : Jvm.MethodName)) ∈ fx_TB := fx_mem 1706 (by decide +kernel) rfl
theorem tb_1611 : (Jvm.Cond.selects "FearLocksModel" ({ cls := "FearLocksModel", name := "undo", desc := "()Z" } : Jvm.MethodName) ({ cls := "FearLocksModel", name := "undo", desc := "()Z" } : Jvm.MethodName)) ∈ fx_TB := fx_mem 1707 (by decide +kernel) rfl
theorem tb_1612 : (Jvm.Cond.code ({ cls := "FearLocksModel", name := "undo", desc := "()Z" } : Jvm.MethodName) prog_14_method_107_code (1 : Nat) (Option.some Jvm.ClassFile.FieldType.boolean)) ∈ fx_TB := fx_mem 1708 (by decide +kernel) rfl
theorem tb_1613 : (Jvm.Cond.methodLink "FearLocksLaw" (132 : Nat) ({ cls := "FearLocksModel", name := "check", desc := "(I)I" } : Jvm.MethodName)) ∈ fx_TB := fx_mem 1709 (by decide +kernel) rfl
theorem tb_1614 : (Jvm.Cond.instanceMethod ({ cls := "FearLocksModel", name := "check", desc := "(I)I" } : Jvm.MethodName)) ∈ fx_TB := fx_mem 1710 (by decide +kernel) rfl
theorem tb_1615 : (Jvm.Cond.selects "FearLocksModel" ({ cls := "FearLocksModel", name := "check", desc := "(I)I" } : Jvm.MethodName) ({ cls := "FearLocksModel", name := "check", desc := "(I)I" } : Jvm.MethodName)) ∈ fx_TB := fx_mem 1711 (by decide +kernel) rfl
theorem tb_1616 : (Jvm.Cond.code ({ cls := "FearLocksModel", name := "check", desc := "(I)I" } : Jvm.MethodName) prog_14_method_108_code (3 : Nat) (Option.some Jvm.ClassFile.FieldType.int)) ∈ fx_TB := fx_mem 1712 (by decide +kernel) rfl
theorem tb_1617 : (Jvm.Cond.methodLink "FearLocksLaw" (136 : Nat) ({ cls := "FearLocksModel", name := "count", desc := "(I)I" } : Jvm.MethodName)) ∈ fx_TB := fx_mem 1713 (by decide +kernel) rfl
theorem tb_1618 : (Jvm.Cond.instanceMethod ({ cls := "FearLocksModel", name := "count", desc := "(I)I" } : Jvm.MethodName)) ∈ fx_TB := fx_mem 1714 (by decide +kernel) rfl
theorem tb_1619 : (Jvm.Cond.selects "FearLocksModel" ({ cls := "FearLocksModel", name := "count", desc := "(I)I" } : Jvm.MethodName) ({ cls := "FearLocksModel", name := "count", desc := "(I)I" } : Jvm.MethodName)) ∈ fx_TB := fx_mem 1715 (by decide +kernel) rfl
theorem tb_1620 : (Jvm.Cond.code ({ cls := "FearLocksModel", name := "count", desc := "(I)I" } : Jvm.MethodName) prog_14_method_111_code (2 : Nat) (Option.some Jvm.ClassFile.FieldType.int)) ∈ fx_TB := fx_mem 1716 (by decide +kernel) rfl
theorem tb_1621 : (Jvm.Cond.methodLink "FearLocksModel" (428 : Nat) ({ cls := "FearLocksModel", name := "twos", desc := "()I" } : Jvm.MethodName)) ∈ fx_TB := fx_mem 1717 (by decide +kernel) rfl
theorem tb_1622 : (Jvm.Cond.privateMethod ({ cls := "FearLocksModel", name := "twos", desc := "()I" } : Jvm.MethodName)) ∈ fx_TB := fx_mem 1718 (by decide +kernel) rfl
theorem tb_1623 : (Jvm.Cond.instanceMethod ({ cls := "FearLocksModel", name := "twos", desc := "()I" } : Jvm.MethodName)) ∈ fx_TB := fx_mem 1719 (by decide +kernel) rfl
theorem tb_1624 : (Jvm.Cond.code ({ cls := "FearLocksModel", name := "twos", desc := "()I" } : Jvm.MethodName) prog_14_method_109_code (3 : Nat) (Option.some Jvm.ClassFile.FieldType.int)) ∈ fx_TB := fx_mem 1720 (by decide +kernel) rfl
theorem tb_1625 : (Jvm.Cond.methodLink "FearLocksModel" (431 : Nat) ({ cls := "FearLocksModel", name := "openedOfAll", desc := "()I" } : Jvm.MethodName)) ∈ fx_TB := fx_mem 1721 (by decide +kernel) rfl
theorem tb_1626 : (Jvm.Cond.privateMethod ({ cls := "FearLocksModel", name := "openedOfAll", desc := "()I" } : Jvm.MethodName)) ∈ fx_TB := fx_mem 1722 (by decide +kernel) rfl
theorem tb_1627 : (Jvm.Cond.instanceMethod ({ cls := "FearLocksModel", name := "openedOfAll", desc := "()I" } : Jvm.MethodName)) ∈ fx_TB := fx_mem 1723 (by decide +kernel) rfl
theorem tb_1628 : (Jvm.Cond.code ({ cls := "FearLocksModel", name := "openedOfAll", desc := "()I" } : Jvm.MethodName) prog_14_method_110_code (3 : Nat) (Option.some Jvm.ClassFile.FieldType.int)) ∈ fx_TB := fx_mem 1724 (by decide +kernel) rfl
theorem tb_1629 : (Jvm.Cond.fieldLink "java/lang/String" (9 : Nat) "java/lang/String" "value" "[B") ∈ fx_TB := fx_mem 1725 (by decide +kernel) rfl
theorem tb_1630 : (Jvm.Cond.fieldLink "java/lang/String" (15 : Nat) "java/lang/String" "coder" "B") ∈ fx_TB := fx_mem 1726 (by decide +kernel) rfl
