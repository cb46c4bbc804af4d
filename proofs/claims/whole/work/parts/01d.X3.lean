theorem dX3_init_0 : decode cX3_init 0 = .ok (.aload_n 0, 1) := by decide +kernel
theorem dX3_init_1 : decode cX3_init 1 = .ok (.invokespecial 3, 3) := by decide +kernel
theorem dX3_init_4 : decode cX3_init 4 = .ok (.aload_n 0, 1) := by decide +kernel
theorem dX3_init_5 : decode cX3_init 5 = .ok (.iconst 0, 1) := by decide +kernel
theorem dX3_init_6 : decode cX3_init 6 = .ok (.putfield 9, 3) := by decide +kernel
theorem dX3_init_9 : decode cX3_init 9 = .ok (.aload_n 0, 1) := by decide +kernel
theorem dX3_init_10 : decode cX3_init 10 = .ok (.sipush 9999, 3) := by decide +kernel
theorem dX3_init_13 : decode cX3_init 13 = .ok (.putfield 15, 3) := by decide +kernel
theorem dX3_init_16 : decode cX3_init 16 = .ok (.aload_n 0, 1) := by decide +kernel
theorem dX3_init_17 : decode cX3_init 17 = .ok (.sipush 9999, 3) := by decide +kernel
theorem dX3_init_20 : decode cX3_init 20 = .ok (.putfield 18, 3) := by decide +kernel
theorem dX3_init_23 : decode cX3_init 23 = .ok (.aload_n 0, 1) := by decide +kernel
theorem dX3_init_24 : decode cX3_init 24 = .ok (.sipush 9999, 3) := by decide +kernel
theorem dX3_init_27 : decode cX3_init 27 = .ok (.putfield 21, 3) := by decide +kernel
theorem dX3_init_30 : decode cX3_init 30 = .ok (.aload_n 0, 1) := by decide +kernel
theorem dX3_init_31 : decode cX3_init 31 = .ok (.iconst 0, 1) := by decide +kernel
theorem dX3_init_32 : decode cX3_init 32 = .ok (.putfield 24, 3) := by decide +kernel
theorem dX3_init_35 : decode cX3_init 35 = .ok (.aload_n 0, 1) := by decide +kernel
theorem dX3_init_36 : decode cX3_init 36 = .ok (.iconst 0, 1) := by decide +kernel
theorem dX3_init_37 : decode cX3_init 37 = .ok (.putfield 27, 3) := by decide +kernel
theorem dX3_init_40 : decode cX3_init 40 = .ok (.aload_n 0, 1) := by decide +kernel
theorem dX3_init_41 : decode cX3_init 41 = .ok (.iconst 0, 1) := by decide +kernel
theorem dX3_init_42 : decode cX3_init 42 = .ok (.putfield 30, 3) := by decide +kernel
theorem dX3_init_45 : decode cX3_init 45 = .ok (.aload_n 0, 1) := by decide +kernel
theorem dX3_init_46 : decode cX3_init 46 = .ok (.bipush 6, 2) := by decide +kernel
theorem dX3_init_48 : decode cX3_init 48 = .ok (.newarray .int, 2) := by decide +kernel
theorem dX3_init_50 : decode cX3_init 50 = .ok (.putfield 33, 3) := by decide +kernel
theorem dX3_init_53 : decode cX3_init 53 = .ok (.aload_n 0, 1) := by decide +kernel
theorem dX3_init_54 : decode cX3_init 54 = .ok (.bipush 120, 2) := by decide +kernel
theorem dX3_init_56 : decode cX3_init 56 = .ok (.newarray .int, 2) := by decide +kernel
theorem dX3_init_58 : decode cX3_init 58 = .ok (.putfield 37, 3) := by decide +kernel
theorem dX3_init_61 : decode cX3_init 61 = .ok (.return_, 1) := by decide +kernel
theorem dX3_setTerms_0 : decode cX3_setTerms 0 = .ok (.aload_n 0, 1) := by decide +kernel
theorem dX3_setTerms_1 : decode cX3_setTerms 1 = .ok (.iload_n 1, 1) := by decide +kernel
theorem dX3_setTerms_2 : decode cX3_setTerms 2 = .ok (.putfield 9, 3) := by decide +kernel
theorem dX3_setTerms_5 : decode cX3_setTerms 5 = .ok (.aload_n 0, 1) := by decide +kernel
theorem dX3_setTerms_6 : decode cX3_setTerms 6 = .ok (.iload_n 2, 1) := by decide +kernel
theorem dX3_setTerms_7 : decode cX3_setTerms 7 = .ok (.putfield 15, 3) := by decide +kernel
theorem dX3_setTerms_10 : decode cX3_setTerms 10 = .ok (.aload_n 0, 1) := by decide +kernel
theorem dX3_setTerms_11 : decode cX3_setTerms 11 = .ok (.iload_n 3, 1) := by decide +kernel
theorem dX3_setTerms_12 : decode cX3_setTerms 12 = .ok (.putfield 18, 3) := by decide +kernel
theorem dX3_setTerms_15 : decode cX3_setTerms 15 = .ok (.return_, 1) := by decide +kernel
theorem dX3_setLayer_0 : decode cX3_setLayer 0 = .ok (.aload_n 0, 1) := by decide +kernel
theorem dX3_setLayer_1 : decode cX3_setLayer 1 = .ok (.iload_n 1, 1) := by decide +kernel
theorem dX3_setLayer_2 : decode cX3_setLayer 2 = .ok (.putfield 21, 3) := by decide +kernel
theorem dX3_setLayer_5 : decode cX3_setLayer 5 = .ok (.aload_n 0, 1) := by decide +kernel
theorem dX3_setLayer_6 : decode cX3_setLayer 6 = .ok (.iload_n 2, 1) := by decide +kernel
theorem dX3_setLayer_7 : decode cX3_setLayer 7 = .ok (.putfield 24, 3) := by decide +kernel
theorem dX3_setLayer_10 : decode cX3_setLayer 10 = .ok (.aload_n 0, 1) := by decide +kernel
theorem dX3_setLayer_11 : decode cX3_setLayer 11 = .ok (.iload_n 3, 1) := by decide +kernel
theorem dX3_setLayer_12 : decode cX3_setLayer 12 = .ok (.putfield 27, 3) := by decide +kernel
theorem dX3_setLayer_15 : decode cX3_setLayer 15 = .ok (.aload_n 0, 1) := by decide +kernel
theorem dX3_setLayer_16 : decode cX3_setLayer 16 = .ok (.iload 4, 2) := by decide +kernel
theorem dX3_setLayer_18 : decode cX3_setLayer 18 = .ok (.putfield 30, 3) := by decide +kernel
theorem dX3_setLayer_21 : decode cX3_setLayer 21 = .ok (.return_, 1) := by decide +kernel
theorem dX3_payable_0 : decode cX3_payable 0 = .ok (.aload_n 0, 1) := by decide +kernel
theorem dX3_payable_1 : decode cX3_payable 1 = .ok (.getfield 18, 3) := by decide +kernel
theorem dX3_payable_4 : decode cX3_payable 4 = .ok (.aload_n 0, 1) := by decide +kernel
theorem dX3_payable_5 : decode cX3_payable 5 = .ok (.getfield 33, 3) := by decide +kernel
theorem dX3_payable_8 : decode cX3_payable 8 = .ok (.iload_n 1, 1) := by decide +kernel
theorem dX3_payable_9 : decode cX3_payable 9 = .ok (.iaload, 1) := by decide +kernel
theorem dX3_payable_10 : decode cX3_payable 10 = .ok (.isub, 1) := by decide +kernel
theorem dX3_payable_11 : decode cX3_payable 11 = .ok (.istore_n 3, 1) := by decide +kernel
theorem dX3_payable_12 : decode cX3_payable 12 = .ok (.iload_n 2, 1) := by decide +kernel
theorem dX3_payable_13 : decode cX3_payable 13 = .ok (.aload_n 0, 1) := by decide +kernel
theorem dX3_payable_14 : decode cX3_payable 14 = .ok (.getfield 9, 3) := by decide +kernel
theorem dX3_payable_17 : decode cX3_payable 17 = .ok (.isub, 1) := by decide +kernel
theorem dX3_payable_18 : decode cX3_payable 18 = .ok (.iconst 0, 1) := by decide +kernel
theorem dX3_payable_19 : decode cX3_payable 19 = .ok (.invokestatic 40, 3) := by decide +kernel
theorem dX3_payable_22 : decode cX3_payable 22 = .ok (.aload_n 0, 1) := by decide +kernel
theorem dX3_payable_23 : decode cX3_payable 23 = .ok (.getfield 15, 3) := by decide +kernel
theorem dX3_payable_26 : decode cX3_payable 26 = .ok (.iload_n 3, 1) := by decide +kernel
theorem dX3_payable_27 : decode cX3_payable 27 = .ok (.invokestatic 46, 3) := by decide +kernel
theorem dX3_payable_30 : decode cX3_payable 30 = .ok (.invokestatic 46, 3) := by decide +kernel
theorem dX3_payable_33 : decode cX3_payable 33 = .ok (.ireturn, 1) := by decide +kernel
theorem dX3_layerPartOf_0 : decode cX3_layerPartOf 0 = .ok (.aload_n 0, 1) := by decide +kernel
theorem dX3_layerPartOf_1 : decode cX3_layerPartOf 1 = .ok (.getfield 24, 3) := by decide +kernel
theorem dX3_layerPartOf_4 : decode cX3_layerPartOf 4 = .ok (.iconst 1, 1) := by decide +kernel
theorem dX3_layerPartOf_5 : decode cX3_layerPartOf 5 = .ok (.aload_n 0, 1) := by decide +kernel
theorem dX3_layerPartOf_6 : decode cX3_layerPartOf 6 = .ok (.getfield 27, 3) := by decide +kernel
theorem dX3_layerPartOf_9 : decode cX3_layerPartOf 9 = .ok (.iadd, 1) := by decide +kernel
theorem dX3_layerPartOf_10 : decode cX3_layerPartOf 10 = .ok (.imul, 1) := by decide +kernel
theorem dX3_layerPartOf_11 : decode cX3_layerPartOf 11 = .ok (.aload_n 0, 1) := by decide +kernel
theorem dX3_layerPartOf_12 : decode cX3_layerPartOf 12 = .ok (.getfield 49, 3) := by decide +kernel
theorem dX3_layerPartOf_15 : decode cX3_layerPartOf 15 = .ok (.isub, 1) := by decide +kernel
theorem dX3_layerPartOf_16 : decode cX3_layerPartOf 16 = .ok (.istore_n 2, 1) := by decide +kernel
theorem dX3_layerPartOf_17 : decode cX3_layerPartOf 17 = .ok (.iload_n 1, 1) := by decide +kernel
theorem dX3_layerPartOf_18 : decode cX3_layerPartOf 18 = .ok (.aload_n 0, 1) := by decide +kernel
theorem dX3_layerPartOf_19 : decode cX3_layerPartOf 19 = .ok (.getfield 21, 3) := by decide +kernel
theorem dX3_layerPartOf_22 : decode cX3_layerPartOf 22 = .ok (.isub, 1) := by decide +kernel
theorem dX3_layerPartOf_23 : decode cX3_layerPartOf 23 = .ok (.iconst 0, 1) := by decide +kernel
theorem dX3_layerPartOf_24 : decode cX3_layerPartOf 24 = .ok (.invokestatic 40, 3) := by decide +kernel
theorem dX3_layerPartOf_27 : decode cX3_layerPartOf 27 = .ok (.aload_n 0, 1) := by decide +kernel
theorem dX3_layerPartOf_28 : decode cX3_layerPartOf 28 = .ok (.getfield 24, 3) := by decide +kernel
theorem dX3_layerPartOf_31 : decode cX3_layerPartOf 31 = .ok (.iload_n 2, 1) := by decide +kernel
theorem dX3_layerPartOf_32 : decode cX3_layerPartOf 32 = .ok (.invokestatic 46, 3) := by decide +kernel
theorem dX3_layerPartOf_35 : decode cX3_layerPartOf 35 = .ok (.invokestatic 46, 3) := by decide +kernel
theorem dX3_layerPartOf_38 : decode cX3_layerPartOf 38 = .ok (.ireturn, 1) := by decide +kernel
theorem dX3_renewedOf_0 : decode cX3_renewedOf 0 = .ok (.iload_n 1, 1) := by decide +kernel
theorem dX3_renewedOf_1 : decode cX3_renewedOf 1 = .ok (.aload_n 0, 1) := by decide +kernel
theorem dX3_renewedOf_2 : decode cX3_renewedOf 2 = .ok (.getfield 24, 3) := by decide +kernel
theorem dX3_renewedOf_5 : decode cX3_renewedOf 5 = .ok (.aload_n 0, 1) := by decide +kernel
theorem dX3_renewedOf_6 : decode cX3_renewedOf 6 = .ok (.getfield 27, 3) := by decide +kernel
theorem dX3_renewedOf_9 : decode cX3_renewedOf 9 = .ok (.imul, 1) := by decide +kernel
theorem dX3_renewedOf_10 : decode cX3_renewedOf 10 = .ok (.aload_n 0, 1) := by decide +kernel
theorem dX3_renewedOf_11 : decode cX3_renewedOf 11 = .ok (.getfield 52, 3) := by decide +kernel
theorem dX3_renewedOf_14 : decode cX3_renewedOf 14 = .ok (.isub, 1) := by decide +kernel
theorem dX3_renewedOf_15 : decode cX3_renewedOf 15 = .ok (.invokestatic 46, 3) := by decide +kernel
theorem dX3_renewedOf_18 : decode cX3_renewedOf 18 = .ok (.ireturn, 1) := by decide +kernel
theorem dX3_keep_0 : decode cX3_keep 0 = .ok (.aload_n 0, 1) := by decide +kernel
theorem dX3_keep_1 : decode cX3_keep 1 = .ok (.getfield 55, 3) := by decide +kernel
theorem dX3_keep_4 : decode cX3_keep 4 = .ok (.bipush 6, 2) := by decide +kernel
theorem dX3_keep_6 : decode cX3_keep 6 = .ok (.imul, 1) := by decide +kernel
theorem dX3_keep_7 : decode cX3_keep 7 = .ok (.istore 7, 2) := by decide +kernel
theorem dX3_keep_9 : decode cX3_keep 9 = .ok (.aload_n 0, 1) := by decide +kernel
theorem dX3_keep_10 : decode cX3_keep 10 = .ok (.getfield 37, 3) := by decide +kernel
theorem dX3_keep_13 : decode cX3_keep 13 = .ok (.iload 7, 2) := by decide +kernel
theorem dX3_keep_15 : decode cX3_keep 15 = .ok (.iload_n 1, 1) := by decide +kernel
theorem dX3_keep_16 : decode cX3_keep 16 = .ok (.iastore, 1) := by decide +kernel
theorem dX3_keep_17 : decode cX3_keep 17 = .ok (.aload_n 0, 1) := by decide +kernel
theorem dX3_keep_18 : decode cX3_keep 18 = .ok (.getfield 37, 3) := by decide +kernel
theorem dX3_keep_21 : decode cX3_keep 21 = .ok (.iload 7, 2) := by decide +kernel
theorem dX3_keep_23 : decode cX3_keep 23 = .ok (.iconst 1, 1) := by decide +kernel
theorem dX3_keep_24 : decode cX3_keep 24 = .ok (.iadd, 1) := by decide +kernel
theorem dX3_keep_25 : decode cX3_keep 25 = .ok (.iload_n 2, 1) := by decide +kernel
theorem dX3_keep_26 : decode cX3_keep 26 = .ok (.iastore, 1) := by decide +kernel
theorem dX3_keep_27 : decode cX3_keep 27 = .ok (.aload_n 0, 1) := by decide +kernel
theorem dX3_keep_28 : decode cX3_keep 28 = .ok (.getfield 37, 3) := by decide +kernel
theorem dX3_keep_31 : decode cX3_keep 31 = .ok (.iload 7, 2) := by decide +kernel
theorem dX3_keep_33 : decode cX3_keep 33 = .ok (.iconst 2, 1) := by decide +kernel
theorem dX3_keep_34 : decode cX3_keep 34 = .ok (.iadd, 1) := by decide +kernel
theorem dX3_keep_35 : decode cX3_keep 35 = .ok (.iload_n 3, 1) := by decide +kernel
theorem dX3_keep_36 : decode cX3_keep 36 = .ok (.iastore, 1) := by decide +kernel
theorem dX3_keep_37 : decode cX3_keep 37 = .ok (.aload_n 0, 1) := by decide +kernel
theorem dX3_keep_38 : decode cX3_keep 38 = .ok (.getfield 37, 3) := by decide +kernel
theorem dX3_keep_41 : decode cX3_keep 41 = .ok (.iload 7, 2) := by decide +kernel
theorem dX3_keep_43 : decode cX3_keep 43 = .ok (.iconst 3, 1) := by decide +kernel
theorem dX3_keep_44 : decode cX3_keep 44 = .ok (.iadd, 1) := by decide +kernel
theorem dX3_keep_45 : decode cX3_keep 45 = .ok (.iload 4, 2) := by decide +kernel
theorem dX3_keep_47 : decode cX3_keep 47 = .ok (.iastore, 1) := by decide +kernel
theorem dX3_keep_48 : decode cX3_keep 48 = .ok (.aload_n 0, 1) := by decide +kernel
theorem dX3_keep_49 : decode cX3_keep 49 = .ok (.getfield 37, 3) := by decide +kernel
theorem dX3_keep_52 : decode cX3_keep 52 = .ok (.iload 7, 2) := by decide +kernel
theorem dX3_keep_54 : decode cX3_keep 54 = .ok (.iconst 4, 1) := by decide +kernel
theorem dX3_keep_55 : decode cX3_keep 55 = .ok (.iadd, 1) := by decide +kernel
theorem dX3_keep_56 : decode cX3_keep 56 = .ok (.iload 5, 2) := by decide +kernel
theorem dX3_keep_58 : decode cX3_keep 58 = .ok (.iastore, 1) := by decide +kernel
theorem dX3_keep_59 : decode cX3_keep 59 = .ok (.aload_n 0, 1) := by decide +kernel
theorem dX3_keep_60 : decode cX3_keep 60 = .ok (.getfield 37, 3) := by decide +kernel
theorem dX3_keep_63 : decode cX3_keep 63 = .ok (.iload 7, 2) := by decide +kernel
theorem dX3_keep_65 : decode cX3_keep 65 = .ok (.iconst 5, 1) := by decide +kernel
theorem dX3_keep_66 : decode cX3_keep 66 = .ok (.iadd, 1) := by decide +kernel
theorem dX3_keep_67 : decode cX3_keep 67 = .ok (.iload 6, 2) := by decide +kernel
theorem dX3_keep_69 : decode cX3_keep 69 = .ok (.iastore, 1) := by decide +kernel
theorem dX3_keep_70 : decode cX3_keep 70 = .ok (.aload_n 0, 1) := by decide +kernel
theorem dX3_keep_71 : decode cX3_keep 71 = .ok (.dup, 1) := by decide +kernel
theorem dX3_keep_72 : decode cX3_keep 72 = .ok (.getfield 55, 3) := by decide +kernel
theorem dX3_keep_75 : decode cX3_keep 75 = .ok (.iconst 1, 1) := by decide +kernel
theorem dX3_keep_76 : decode cX3_keep 76 = .ok (.iadd, 1) := by decide +kernel
theorem dX3_keep_77 : decode cX3_keep 77 = .ok (.putfield 55, 3) := by decide +kernel
theorem dX3_keep_80 : decode cX3_keep 80 = .ok (.aload_n 0, 1) := by decide +kernel
theorem dX3_keep_81 : decode cX3_keep 81 = .ok (.getfield 33, 3) := by decide +kernel
theorem dX3_keep_84 : decode cX3_keep 84 = .ok (.iload_n 1, 1) := by decide +kernel
theorem dX3_keep_85 : decode cX3_keep 85 = .ok (.dup2, 1) := by decide +kernel
theorem dX3_keep_86 : decode cX3_keep 86 = .ok (.iaload, 1) := by decide +kernel
theorem dX3_keep_87 : decode cX3_keep 87 = .ok (.iload_n 3, 1) := by decide +kernel
theorem dX3_keep_88 : decode cX3_keep 88 = .ok (.iadd, 1) := by decide +kernel
theorem dX3_keep_89 : decode cX3_keep 89 = .ok (.iastore, 1) := by decide +kernel
theorem dX3_keep_90 : decode cX3_keep 90 = .ok (.aload_n 0, 1) := by decide +kernel
theorem dX3_keep_91 : decode cX3_keep 91 = .ok (.dup, 1) := by decide +kernel
theorem dX3_keep_92 : decode cX3_keep 92 = .ok (.getfield 49, 3) := by decide +kernel
theorem dX3_keep_95 : decode cX3_keep 95 = .ok (.iload 5, 2) := by decide +kernel
theorem dX3_keep_97 : decode cX3_keep 97 = .ok (.iadd, 1) := by decide +kernel
theorem dX3_keep_98 : decode cX3_keep 98 = .ok (.putfield 49, 3) := by decide +kernel
theorem dX3_keep_101 : decode cX3_keep 101 = .ok (.aload_n 0, 1) := by decide +kernel
theorem dX3_keep_102 : decode cX3_keep 102 = .ok (.dup, 1) := by decide +kernel
theorem dX3_keep_103 : decode cX3_keep 103 = .ok (.getfield 52, 3) := by decide +kernel
theorem dX3_keep_106 : decode cX3_keep 106 = .ok (.iload 6, 2) := by decide +kernel
theorem dX3_keep_108 : decode cX3_keep 108 = .ok (.iadd, 1) := by decide +kernel
theorem dX3_keep_109 : decode cX3_keep 109 = .ok (.putfield 52, 3) := by decide +kernel
theorem dX3_keep_112 : decode cX3_keep 112 = .ok (.return_, 1) := by decide +kernel
