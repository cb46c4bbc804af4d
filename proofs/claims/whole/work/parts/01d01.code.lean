theorem dX2_premiumBefore_88 : decode cX2_premiumBefore 88 = .ok (.iinc 7 1, 3) := by decide +kernel
theorem dX2_premiumBefore_91 : decode cX2_premiumBefore 91 = .ok (.goto (-54), 3) := by decide +kernel
theorem dX2_premiumBefore_94 : decode cX2_premiumBefore 94 = .ok (.iload 6, 2) := by decide +kernel
theorem dX2_premiumBefore_96 : decode cX2_premiumBefore 96 = .ok (.sipush 1000, 3) := by decide +kernel
theorem dX2_premiumBefore_99 : decode cX2_premiumBefore 99 = .ok (.idiv, 1) := by decide +kernel
theorem dX2_premiumBefore_100 : decode cX2_premiumBefore 100 = .ok (.ireturn, 1) := by decide +kernel
theorem dX2_nextToldDay_0 : decode cX2_nextToldDay 0 = .ok (.aload_n 0, 1) := by decide +kernel
theorem dX2_nextToldDay_1 : decode cX2_nextToldDay 1 = .ok (.getfield 15, 3) := by decide +kernel
theorem dX2_nextToldDay_4 : decode cX2_nextToldDay 4 = .ok (.iload_n 1, 1) := by decide +kernel
theorem dX2_nextToldDay_5 : decode cX2_nextToldDay 5 = .ok (.iaload, 1) := by decide +kernel
theorem dX2_nextToldDay_6 : decode cX2_nextToldDay 6 = .ok (.istore 4, 2) := by decide +kernel
theorem dX2_nextToldDay_8 : decode cX2_nextToldDay 8 = .ok (.aload_n 0, 1) := by decide +kernel
theorem dX2_nextToldDay_9 : decode cX2_nextToldDay 9 = .ok (.getfield 18, 3) := by decide +kernel
theorem dX2_nextToldDay_12 : decode cX2_nextToldDay 12 = .ok (.iload_n 1, 1) := by decide +kernel
theorem dX2_nextToldDay_13 : decode cX2_nextToldDay 13 = .ok (.iaload, 1) := by decide +kernel
theorem dX2_nextToldDay_14 : decode cX2_nextToldDay 14 = .ok (.iconst 1, 1) := by decide +kernel
theorem dX2_nextToldDay_15 : decode cX2_nextToldDay 15 = .ok (.iadd, 1) := by decide +kernel
theorem dX2_nextToldDay_16 : decode cX2_nextToldDay 16 = .ok (.istore 5, 2) := by decide +kernel
theorem dX2_nextToldDay_18 : decode cX2_nextToldDay 18 = .ok (.iload 5, 2) := by decide +kernel
theorem dX2_nextToldDay_20 : decode cX2_nextToldDay 20 = .ok (.iload_n 3, 1) := by decide +kernel
theorem dX2_nextToldDay_21 : decode cX2_nextToldDay 21 = .ok (.if_icmp .ge 45, 3) := by decide +kernel
theorem dX2_nextToldDay_24 : decode cX2_nextToldDay 24 = .ok (.aload_n 0, 1) := by decide +kernel
theorem dX2_nextToldDay_25 : decode cX2_nextToldDay 25 = .ok (.getfield 24, 3) := by decide +kernel
theorem dX2_nextToldDay_28 : decode cX2_nextToldDay 28 = .ok (.iload 5, 2) := by decide +kernel
theorem dX2_nextToldDay_30 : decode cX2_nextToldDay 30 = .ok (.iaload, 1) := by decide +kernel
theorem dX2_nextToldDay_31 : decode cX2_nextToldDay 31 = .ok (.iload_n 1, 1) := by decide +kernel
theorem dX2_nextToldDay_32 : decode cX2_nextToldDay 32 = .ok (.if_icmp .ne 28, 3) := by decide +kernel
theorem dX2_nextToldDay_35 : decode cX2_nextToldDay 35 = .ok (.aload_n 0, 1) := by decide +kernel
theorem dX2_nextToldDay_36 : decode cX2_nextToldDay 36 = .ok (.getfield 27, 3) := by decide +kernel
theorem dX2_nextToldDay_39 : decode cX2_nextToldDay 39 = .ok (.iload 5, 2) := by decide +kernel
theorem dX2_nextToldDay_41 : decode cX2_nextToldDay 41 = .ok (.iaload, 1) := by decide +kernel
theorem dX2_nextToldDay_42 : decode cX2_nextToldDay 42 = .ok (.iload_n 2, 1) := by decide +kernel
theorem dX2_nextToldDay_43 : decode cX2_nextToldDay 43 = .ok (.if_icmp .le 17, 3) := by decide +kernel
theorem dX2_nextToldDay_46 : decode cX2_nextToldDay 46 = .ok (.iload 4, 2) := by decide +kernel
theorem dX2_nextToldDay_48 : decode cX2_nextToldDay 48 = .ok (.aload_n 0, 1) := by decide +kernel
theorem dX2_nextToldDay_49 : decode cX2_nextToldDay 49 = .ok (.getfield 27, 3) := by decide +kernel
theorem dX2_nextToldDay_52 : decode cX2_nextToldDay 52 = .ok (.iload 5, 2) := by decide +kernel
theorem dX2_nextToldDay_54 : decode cX2_nextToldDay 54 = .ok (.iaload, 1) := by decide +kernel
theorem dX2_nextToldDay_55 : decode cX2_nextToldDay 55 = .ok (.invokestatic 47, 3) := by decide +kernel
theorem dX2_nextToldDay_58 : decode cX2_nextToldDay 58 = .ok (.istore 4, 2) := by decide +kernel
theorem dX2_nextToldDay_60 : decode cX2_nextToldDay 60 = .ok (.iinc 5 1, 3) := by decide +kernel
theorem dX2_nextToldDay_63 : decode cX2_nextToldDay 63 = .ok (.goto (-45), 3) := by decide +kernel
theorem dX2_nextToldDay_66 : decode cX2_nextToldDay 66 = .ok (.iload 4, 2) := by decide +kernel
theorem dX2_nextToldDay_68 : decode cX2_nextToldDay 68 = .ok (.ireturn, 1) := by decide +kernel
theorem dX3_init_0 : decode cX3_init 0 = .ok (.aload_n 0, 1) := by decide +kernel
theorem dX3_init_1 : decode cX3_init 1 = .ok (.invokespecial 3, 3) := by decide +kernel
theorem dX3_init_4 : decode cX3_init 4 = .ok (.aload_n 0, 1) := by decide +kernel
theorem dX3_init_5 : decode cX3_init 5 = .ok (.iconst 0, 1) := by decide +kernel
theorem dX3_init_6 : decode cX3_init 6 = .ok (.putfield 9, 3) := by decide +kernel
theorem dX3_init_9 : decode cX3_init 9 = .ok (.aload_n 0, 1) := by decide +kernel
theorem dX3_init_10 : decode cX3_init 10 = .ok (.sipush 9999, 3) := by decide +kernel
theorem dX3_init_13 : decode cX3_init 13 = .ok (.putfield 15, 3) := by decide +kernel
theorem dX3_init_16 : decode cX3_init 16 = .ok (.aload_n 0, 1) := by decide +kernel
theorem dX3_init_17 : decode cX3_init 17 = .ok (.sipush 9999, 3) := by decide +kernel
theorem dX3_init_20 : decode cX3_init 20 = .ok (.putfield 18, 3) := by decide +kernel
theorem dX3_init_23 : decode cX3_init 23 = .ok (.aload_n 0, 1) := by decide +kernel
theorem dX3_init_24 : decode cX3_init 24 = .ok (.sipush 9999, 3) := by decide +kernel
theorem dX3_init_27 : decode cX3_init 27 = .ok (.putfield 21, 3) := by decide +kernel
theorem dX3_init_30 : decode cX3_init 30 = .ok (.aload_n 0, 1) := by decide +kernel
theorem dX3_init_31 : decode cX3_init 31 = .ok (.iconst 0, 1) := by decide +kernel
theorem dX3_init_32 : decode cX3_init 32 = .ok (.putfield 24, 3) := by decide +kernel
theorem dX3_init_35 : decode cX3_init 35 = .ok (.aload_n 0, 1) := by decide +kernel
theorem dX3_init_36 : decode cX3_init 36 = .ok (.iconst 0, 1) := by decide +kernel
theorem dX3_init_37 : decode cX3_init 37 = .ok (.putfield 27, 3) := by decide +kernel
theorem dX3_init_40 : decode cX3_init 40 = .ok (.aload_n 0, 1) := by decide +kernel
theorem dX3_init_41 : decode cX3_init 41 = .ok (.iconst 0, 1) := by decide +kernel
theorem dX3_init_42 : decode cX3_init 42 = .ok (.putfield 30, 3) := by decide +kernel
theorem dX3_init_45 : decode cX3_init 45 = .ok (.aload_n 0, 1) := by decide +kernel
theorem dX3_init_46 : decode cX3_init 46 = .ok (.bipush 6, 2) := by decide +kernel
theorem dX3_init_48 : decode cX3_init 48 = .ok (.newarray .int, 2) := by decide +kernel
theorem dX3_init_50 : decode cX3_init 50 = .ok (.putfield 33, 3) := by decide +kernel
theorem dX3_init_53 : decode cX3_init 53 = .ok (.aload_n 0, 1) := by decide +kernel
theorem dX3_init_54 : decode cX3_init 54 = .ok (.bipush 120, 2) := by decide +kernel
theorem dX3_init_56 : decode cX3_init 56 = .ok (.newarray .int, 2) := by decide +kernel
theorem dX3_init_58 : decode cX3_init 58 = .ok (.putfield 37, 3) := by decide +kernel
theorem dX3_init_61 : decode cX3_init 61 = .ok (.return_, 1) := by decide +kernel
theorem dX3_setTerms_0 : decode cX3_setTerms 0 = .ok (.aload_n 0, 1) := by decide +kernel
theorem dX3_setTerms_1 : decode cX3_setTerms 1 = .ok (.iload_n 1, 1) := by decide +kernel
theorem dX3_setTerms_2 : decode cX3_setTerms 2 = .ok (.putfield 9, 3) := by decide +kernel
theorem dX3_setTerms_5 : decode cX3_setTerms 5 = .ok (.aload_n 0, 1) := by decide +kernel
theorem dX3_setTerms_6 : decode cX3_setTerms 6 = .ok (.iload_n 2, 1) := by decide +kernel
theorem dX3_setTerms_7 : decode cX3_setTerms 7 = .ok (.putfield 15, 3) := by decide +kernel
theorem dX3_setTerms_10 : decode cX3_setTerms 10 = .ok (.aload_n 0, 1) := by decide +kernel
theorem dX3_setTerms_11 : decode cX3_setTerms 11 = .ok (.iload_n 3, 1) := by decide +kernel
theorem dX3_setTerms_12 : decode cX3_setTerms 12 = .ok (.putfield 18, 3) := by decide +kernel
theorem dX3_setTerms_15 : decode cX3_setTerms 15 = .ok (.return_, 1) := by decide +kernel
theorem dX3_setLayer_0 : decode cX3_setLayer 0 = .ok (.aload_n 0, 1) := by decide +kernel
theorem dX3_setLayer_1 : decode cX3_setLayer 1 = .ok (.iload_n 1, 1) := by decide +kernel
theorem dX3_setLayer_2 : decode cX3_setLayer 2 = .ok (.putfield 21, 3) := by decide +kernel
theorem dX3_setLayer_5 : decode cX3_setLayer 5 = .ok (.aload_n 0, 1) := by decide +kernel
theorem dX3_setLayer_6 : decode cX3_setLayer 6 = .ok (.iload_n 2, 1) := by decide +kernel
theorem dX3_setLayer_7 : decode cX3_setLayer 7 = .ok (.putfield 24, 3) := by decide +kernel
theorem dX3_setLayer_10 : decode cX3_setLayer 10 = .ok (.aload_n 0, 1) := by decide +kernel
theorem dX3_setLayer_11 : decode cX3_setLayer 11 = .ok (.iload_n 3, 1) := by decide +kernel
theorem dX3_setLayer_12 : decode cX3_setLayer 12 = .ok (.putfield 27, 3) := by decide +kernel
theorem dX3_setLayer_15 : decode cX3_setLayer 15 = .ok (.aload_n 0, 1) := by decide +kernel
theorem dX3_setLayer_16 : decode cX3_setLayer 16 = .ok (.iload 4, 2) := by decide +kernel
theorem dX3_setLayer_18 : decode cX3_setLayer 18 = .ok (.putfield 30, 3) := by decide +kernel
theorem dX3_setLayer_21 : decode cX3_setLayer 21 = .ok (.return_, 1) := by decide +kernel
theorem dX3_payable_0 : decode cX3_payable 0 = .ok (.aload_n 0, 1) := by decide +kernel
theorem dX3_payable_1 : decode cX3_payable 1 = .ok (.getfield 18, 3) := by decide +kernel
theorem dX3_payable_4 : decode cX3_payable 4 = .ok (.aload_n 0, 1) := by decide +kernel
theorem dX3_payable_5 : decode cX3_payable 5 = .ok (.getfield 33, 3) := by decide +kernel
theorem dX3_payable_8 : decode cX3_payable 8 = .ok (.iload_n 1, 1) := by decide +kernel
theorem dX3_payable_9 : decode cX3_payable 9 = .ok (.iaload, 1) := by decide +kernel
theorem dX3_payable_10 : decode cX3_payable 10 = .ok (.isub, 1) := by decide +kernel
theorem dX3_payable_11 : decode cX3_payable 11 = .ok (.istore_n 3, 1) := by decide +kernel
theorem dX3_payable_12 : decode cX3_payable 12 = .ok (.iload_n 2, 1) := by decide +kernel
theorem dX3_payable_13 : decode cX3_payable 13 = .ok (.aload_n 0, 1) := by decide +kernel
theorem dX3_payable_14 : decode cX3_payable 14 = .ok (.getfield 9, 3) := by decide +kernel
theorem dX3_payable_17 : decode cX3_payable 17 = .ok (.isub, 1) := by decide +kernel
theorem dX3_payable_18 : decode cX3_payable 18 = .ok (.iconst 0, 1) := by decide +kernel
theorem dX3_payable_19 : decode cX3_payable 19 = .ok (.invokestatic 40, 3) := by decide +kernel
theorem dX3_payable_22 : decode cX3_payable 22 = .ok (.aload_n 0, 1) := by decide +kernel
theorem dX3_payable_23 : decode cX3_payable 23 = .ok (.getfield 15, 3) := by decide +kernel
theorem dX3_payable_26 : decode cX3_payable 26 = .ok (.iload_n 3, 1) := by decide +kernel
theorem dX3_payable_27 : decode cX3_payable 27 = .ok (.invokestatic 46, 3) := by decide +kernel
theorem dX3_payable_30 : decode cX3_payable 30 = .ok (.invokestatic 46, 3) := by decide +kernel
theorem dX3_payable_33 : decode cX3_payable 33 = .ok (.ireturn, 1) := by decide +kernel
theorem dX3_layerPartOf_0 : decode cX3_layerPartOf 0 = .ok (.aload_n 0, 1) := by decide +kernel
theorem dX3_layerPartOf_1 : decode cX3_layerPartOf 1 = .ok (.getfield 24, 3) := by decide +kernel
theorem dX3_layerPartOf_4 : decode cX3_layerPartOf 4 = .ok (.iconst 1, 1) := by decide +kernel
theorem dX3_layerPartOf_5 : decode cX3_layerPartOf 5 = .ok (.aload_n 0, 1) := by decide +kernel
theorem dX3_layerPartOf_6 : decode cX3_layerPartOf 6 = .ok (.getfield 27, 3) := by decide +kernel
theorem dX3_layerPartOf_9 : decode cX3_layerPartOf 9 = .ok (.iadd, 1) := by decide +kernel
theorem dX3_layerPartOf_10 : decode cX3_layerPartOf 10 = .ok (.imul, 1) := by decide +kernel
theorem dX3_layerPartOf_11 : decode cX3_layerPartOf 11 = .ok (.aload_n 0, 1) := by decide +kernel
theorem dX3_layerPartOf_12 : decode cX3_layerPartOf 12 = .ok (.getfield 49, 3) := by decide +kernel
theorem dX3_layerPartOf_15 : decode cX3_layerPartOf 15 = .ok (.isub, 1) := by decide +kernel
theorem dX3_layerPartOf_16 : decode cX3_layerPartOf 16 = .ok (.istore_n 2, 1) := by decide +kernel
theorem dX3_layerPartOf_17 : decode cX3_layerPartOf 17 = .ok (.iload_n 1, 1) := by decide +kernel
theorem dX3_layerPartOf_18 : decode cX3_layerPartOf 18 = .ok (.aload_n 0, 1) := by decide +kernel
theorem dX3_layerPartOf_19 : decode cX3_layerPartOf 19 = .ok (.getfield 21, 3) := by decide +kernel
theorem dX3_layerPartOf_22 : decode cX3_layerPartOf 22 = .ok (.isub, 1) := by decide +kernel
theorem dX3_layerPartOf_23 : decode cX3_layerPartOf 23 = .ok (.iconst 0, 1) := by decide +kernel
theorem dX3_layerPartOf_24 : decode cX3_layerPartOf 24 = .ok (.invokestatic 40, 3) := by decide +kernel
theorem dX3_layerPartOf_27 : decode cX3_layerPartOf 27 = .ok (.aload_n 0, 1) := by decide +kernel
theorem dX3_layerPartOf_28 : decode cX3_layerPartOf 28 = .ok (.getfield 24, 3) := by decide +kernel
theorem dX3_layerPartOf_31 : decode cX3_layerPartOf 31 = .ok (.iload_n 2, 1) := by decide +kernel
theorem dX3_layerPartOf_32 : decode cX3_layerPartOf 32 = .ok (.invokestatic 46, 3) := by decide +kernel
theorem dX3_layerPartOf_35 : decode cX3_layerPartOf 35 = .ok (.invokestatic 46, 3) := by decide +kernel
theorem dX3_layerPartOf_38 : decode cX3_layerPartOf 38 = .ok (.ireturn, 1) := by decide +kernel
theorem dX3_renewedOf_0 : decode cX3_renewedOf 0 = .ok (.iload_n 1, 1) := by decide +kernel
theorem dX3_renewedOf_1 : decode cX3_renewedOf 1 = .ok (.aload_n 0, 1) := by decide +kernel
theorem dX3_renewedOf_2 : decode cX3_renewedOf 2 = .ok (.getfield 24, 3) := by decide +kernel
theorem dX3_renewedOf_5 : decode cX3_renewedOf 5 = .ok (.aload_n 0, 1) := by decide +kernel
theorem dX3_renewedOf_6 : decode cX3_renewedOf 6 = .ok (.getfield 27, 3) := by decide +kernel
theorem dX3_renewedOf_9 : decode cX3_renewedOf 9 = .ok (.imul, 1) := by decide +kernel
theorem dX3_renewedOf_10 : decode cX3_renewedOf 10 = .ok (.aload_n 0, 1) := by decide +kernel
theorem dX3_renewedOf_11 : decode cX3_renewedOf 11 = .ok (.getfield 52, 3) := by decide +kernel
theorem dX3_renewedOf_14 : decode cX3_renewedOf 14 = .ok (.isub, 1) := by decide +kernel
theorem dX3_renewedOf_15 : decode cX3_renewedOf 15 = .ok (.invokestatic 46, 3) := by decide +kernel
theorem dX3_renewedOf_18 : decode cX3_renewedOf 18 = .ok (.ireturn, 1) := by decide +kernel
theorem dX3_keep_0 : decode cX3_keep 0 = .ok (.aload_n 0, 1) := by decide +kernel
theorem dX3_keep_1 : decode cX3_keep 1 = .ok (.getfield 55, 3) := by decide +kernel
theorem dX3_keep_4 : decode cX3_keep 4 = .ok (.bipush 6, 2) := by decide +kernel
theorem dX3_keep_6 : decode cX3_keep 6 = .ok (.imul, 1) := by decide +kernel
theorem dX3_keep_7 : decode cX3_keep 7 = .ok (.istore 7, 2) := by decide +kernel
theorem dX3_keep_9 : decode cX3_keep 9 = .ok (.aload_n 0, 1) := by decide +kernel
theorem dX3_keep_10 : decode cX3_keep 10 = .ok (.getfield 37, 3) := by decide +kernel
theorem dX3_keep_13 : decode cX3_keep 13 = .ok (.iload 7, 2) := by decide +kernel
theorem dX3_keep_15 : decode cX3_keep 15 = .ok (.iload_n 1, 1) := by decide +kernel
theorem dX3_keep_16 : decode cX3_keep 16 = .ok (.iastore, 1) := by decide +kernel
theorem dX3_keep_17 : decode cX3_keep 17 = .ok (.aload_n 0, 1) := by decide +kernel
theorem dX3_keep_18 : decode cX3_keep 18 = .ok (.getfield 37, 3) := by decide +kernel
theorem dX3_keep_21 : decode cX3_keep 21 = .ok (.iload 7, 2) := by decide +kernel
theorem dX3_keep_23 : decode cX3_keep 23 = .ok (.iconst 1, 1) := by decide +kernel
theorem dX3_keep_24 : decode cX3_keep 24 = .ok (.iadd, 1) := by decide +kernel
theorem dX3_keep_25 : decode cX3_keep 25 = .ok (.iload_n 2, 1) := by decide +kernel
theorem dX3_keep_26 : decode cX3_keep 26 = .ok (.iastore, 1) := by decide +kernel
theorem dX3_keep_27 : decode cX3_keep 27 = .ok (.aload_n 0, 1) := by decide +kernel
theorem dX3_keep_28 : decode cX3_keep 28 = .ok (.getfield 37, 3) := by decide +kernel
theorem dX3_keep_31 : decode cX3_keep 31 = .ok (.iload 7, 2) := by decide +kernel
theorem dX3_keep_33 : decode cX3_keep 33 = .ok (.iconst 2, 1) := by decide +kernel
theorem dX3_keep_34 : decode cX3_keep 34 = .ok (.iadd, 1) := by decide +kernel
theorem dX3_keep_35 : decode cX3_keep 35 = .ok (.iload_n 3, 1) := by decide +kernel
theorem dX3_keep_36 : decode cX3_keep 36 = .ok (.iastore, 1) := by decide +kernel
theorem dX3_keep_37 : decode cX3_keep 37 = .ok (.aload_n 0, 1) := by decide +kernel
theorem dX3_keep_38 : decode cX3_keep 38 = .ok (.getfield 37, 3) := by decide +kernel
theorem dX3_keep_41 : decode cX3_keep 41 = .ok (.iload 7, 2) := by decide +kernel
theorem dX3_keep_43 : decode cX3_keep 43 = .ok (.iconst 3, 1) := by decide +kernel
theorem dX3_keep_44 : decode cX3_keep 44 = .ok (.iadd, 1) := by decide +kernel
theorem dX3_keep_45 : decode cX3_keep 45 = .ok (.iload 4, 2) := by decide +kernel
theorem dX3_keep_47 : decode cX3_keep 47 = .ok (.iastore, 1) := by decide +kernel
theorem dX3_keep_48 : decode cX3_keep 48 = .ok (.aload_n 0, 1) := by decide +kernel
theorem dX3_keep_49 : decode cX3_keep 49 = .ok (.getfield 37, 3) := by decide +kernel
theorem dX3_keep_52 : decode cX3_keep 52 = .ok (.iload 7, 2) := by decide +kernel
theorem dX3_keep_54 : decode cX3_keep 54 = .ok (.iconst 4, 1) := by decide +kernel
theorem dX3_keep_55 : decode cX3_keep 55 = .ok (.iadd, 1) := by decide +kernel
theorem dX3_keep_56 : decode cX3_keep 56 = .ok (.iload 5, 2) := by decide +kernel
theorem dX3_keep_58 : decode cX3_keep 58 = .ok (.iastore, 1) := by decide +kernel
theorem dX3_keep_59 : decode cX3_keep 59 = .ok (.aload_n 0, 1) := by decide +kernel
theorem dX3_keep_60 : decode cX3_keep 60 = .ok (.getfield 37, 3) := by decide +kernel
theorem dX3_keep_63 : decode cX3_keep 63 = .ok (.iload 7, 2) := by decide +kernel
theorem dX3_keep_65 : decode cX3_keep 65 = .ok (.iconst 5, 1) := by decide +kernel
theorem dX3_keep_66 : decode cX3_keep 66 = .ok (.iadd, 1) := by decide +kernel
theorem dX3_keep_67 : decode cX3_keep 67 = .ok (.iload 6, 2) := by decide +kernel
theorem dX3_keep_69 : decode cX3_keep 69 = .ok (.iastore, 1) := by decide +kernel
theorem dX3_keep_70 : decode cX3_keep 70 = .ok (.aload_n 0, 1) := by decide +kernel
theorem dX3_keep_71 : decode cX3_keep 71 = .ok (.dup, 1) := by decide +kernel
theorem dX3_keep_72 : decode cX3_keep 72 = .ok (.getfield 55, 3) := by decide +kernel
theorem dX3_keep_75 : decode cX3_keep 75 = .ok (.iconst 1, 1) := by decide +kernel
theorem dX3_keep_76 : decode cX3_keep 76 = .ok (.iadd, 1) := by decide +kernel
theorem dX3_keep_77 : decode cX3_keep 77 = .ok (.putfield 55, 3) := by decide +kernel
theorem dX3_keep_80 : decode cX3_keep 80 = .ok (.aload_n 0, 1) := by decide +kernel
theorem dX3_keep_81 : decode cX3_keep 81 = .ok (.getfield 33, 3) := by decide +kernel
theorem dX3_keep_84 : decode cX3_keep 84 = .ok (.iload_n 1, 1) := by decide +kernel
theorem dX3_keep_85 : decode cX3_keep 85 = .ok (.dup2, 1) := by decide +kernel
theorem dX3_keep_86 : decode cX3_keep 86 = .ok (.iaload, 1) := by decide +kernel
theorem dX3_keep_87 : decode cX3_keep 87 = .ok (.iload_n 3, 1) := by decide +kernel
theorem dX3_keep_88 : decode cX3_keep 88 = .ok (.iadd, 1) := by decide +kernel
theorem dX3_keep_89 : decode cX3_keep 89 = .ok (.iastore, 1) := by decide +kernel
theorem dX3_keep_90 : decode cX3_keep 90 = .ok (.aload_n 0, 1) := by decide +kernel
theorem dX3_keep_91 : decode cX3_keep 91 = .ok (.dup, 1) := by decide +kernel
theorem dX3_keep_92 : decode cX3_keep 92 = .ok (.getfield 49, 3) := by decide +kernel
theorem dX3_keep_95 : decode cX3_keep 95 = .ok (.iload 5, 2) := by decide +kernel
theorem dX3_keep_97 : decode cX3_keep 97 = .ok (.iadd, 1) := by decide +kernel
theorem dX3_keep_98 : decode cX3_keep 98 = .ok (.putfield 49, 3) := by decide +kernel
theorem dX3_keep_101 : decode cX3_keep 101 = .ok (.aload_n 0, 1) := by decide +kernel
theorem dX3_keep_102 : decode cX3_keep 102 = .ok (.dup, 1) := by decide +kernel
theorem dX3_keep_103 : decode cX3_keep 103 = .ok (.getfield 52, 3) := by decide +kernel
theorem dX3_keep_106 : decode cX3_keep 106 = .ok (.iload 6, 2) := by decide +kernel
theorem dX3_keep_108 : decode cX3_keep 108 = .ok (.iadd, 1) := by decide +kernel
theorem dX3_keep_109 : decode cX3_keep 109 = .ok (.putfield 52, 3) := by decide +kernel
theorem dX3_keep_112 : decode cX3_keep 112 = .ok (.return_, 1) := by decide +kernel
set_option maxRecDepth 20000 in
theorem ggX4_init_X1_init : GoodIn wsX4_init wsX1_init := goodIn_r _ [21, 22, 2, 3, 23, 24, 25, 26, 27, 28, 58, 59, 60, 61, 62, 63] (by decide +kernel) (by decide +kernel)
set_option maxRecDepth 20000 in
theorem gX4_init_X1_init_n9 : GoodIn wsX4_init (wsX1_init) := ggX4_init_X1_init
set_option maxRecDepth 20000 in
theorem ggX4_init_X2_init : GoodIn wsX4_init wsX2_init := goodIn_r _ [30, 31, 2, 3, 23, 32, 33, 34, 35, 36, 37, 38, 39, 40, 69, 70, 71, 72, 73, 74, 75, 76, 77, 78, 79] (by decide +kernel) (by decide +kernel)
set_option maxRecDepth 20000 in
theorem gX4_init_X2_init_n18 : GoodIn wsX4_init (wsX2_init) := ggX4_init_X2_init
set_option maxRecDepth 20000 in
theorem ggX4_init_X3_init : GoodIn wsX4_init wsX3_init := goodIn_r _ [42, 43, 2, 3, 44, 45, 46, 47, 48, 49, 50, 23, 51, 52, 80, 81, 82, 83, 84, 85, 86, 87, 88, 89, 90, 91] (by decide +kernel) (by decide +kernel)
set_option maxRecDepth 20000 in
theorem gX4_init_X3_init_n27 : GoodIn wsX4_init (wsX3_init) := ggX4_init_X3_init
set_option maxRecDepth 20000 in
theorem ggX4_init_X0_init : GoodIn wsX4_init wsX0_init := goodIn_r _ [54, 55, 2, 3, 23, 56, 57, 92, 93, 94] (by decide +kernel) (by decide +kernel)
set_option maxRecDepth 20000 in
theorem gX4_init_X0_init_n34 : GoodIn wsX4_init (wsX0_init) := ggX4_init_X0_init
theorem dX4_init_0 : decode cX4_init 0 = .ok (.aload_n 0, 1) := by decide +kernel
theorem dX4_init_1 : decode cX4_init 1 = .ok (.invokespecial 1, 3) := by decide +kernel
theorem dX4_init_4 : decode cX4_init 4 = .ok (.aload_n 0, 1) := by decide +kernel
theorem dX4_init_5 : decode cX4_init 5 = .ok (.new 7, 3) := by decide +kernel
theorem dX4_init_8 : decode cX4_init 8 = .ok (.dup, 1) := by decide +kernel
theorem dX4_init_9 : decode cX4_init 9 = .ok (.invokespecial 9, 3) := by decide +kernel
theorem dX4_init_12 : decode cX4_init 12 = .ok (.putfield 10, 3) := by decide +kernel
theorem dX4_init_15 : decode cX4_init 15 = .ok (.aload_n 0, 1) := by decide +kernel
theorem dX4_init_16 : decode cX4_init 16 = .ok (.new 16, 3) := by decide +kernel
theorem dX4_init_19 : decode cX4_init 19 = .ok (.dup, 1) := by decide +kernel
theorem dX4_init_20 : decode cX4_init 20 = .ok (.aload_n 0, 1) := by decide +kernel
theorem dX4_init_21 : decode cX4_init 21 = .ok (.getfield 10, 3) := by decide +kernel
theorem dX4_init_24 : decode cX4_init 24 = .ok (.invokespecial 18, 3) := by decide +kernel
theorem dX4_init_27 : decode cX4_init 27 = .ok (.putfield 21, 3) := by decide +kernel
theorem dX4_init_30 : decode cX4_init 30 = .ok (.aload_n 0, 1) := by decide +kernel
theorem dX4_init_31 : decode cX4_init 31 = .ok (.new 25, 3) := by decide +kernel
theorem dX4_init_34 : decode cX4_init 34 = .ok (.dup, 1) := by decide +kernel
theorem dX4_init_35 : decode cX4_init 35 = .ok (.invokespecial 27, 3) := by decide +kernel
theorem dX4_init_38 : decode cX4_init 38 = .ok (.putfield 28, 3) := by decide +kernel
theorem dX4_init_41 : decode cX4_init 41 = .ok (.aload_n 0, 1) := by decide +kernel
theorem dX4_init_42 : decode cX4_init 42 = .ok (.new 32, 3) := by decide +kernel
theorem dX4_init_45 : decode cX4_init 45 = .ok (.dup, 1) := by decide +kernel
theorem dX4_init_46 : decode cX4_init 46 = .ok (.invokespecial 34, 3) := by decide +kernel
theorem dX4_init_49 : decode cX4_init 49 = .ok (.putfield 35, 3) := by decide +kernel
theorem dX4_init_52 : decode cX4_init 52 = .ok (.return_, 1) := by decide +kernel
set_option maxRecDepth 20000 in
theorem ggX4_row_X4_isPlanClosed : GoodIn wsX4_row wsX4_isPlanClosed := goodIn_r _ [10, 11, 28, 29, 30, 31, 32, 39, 40, 41, 42, 43, 44, 45, 46, 47, 48, 49] (by decide +kernel) (by decide +kernel)
set_option maxRecDepth 20000 in
theorem gX4_row_X4_isPlanClosed : GoodIn wsX4_row (wsV RX4 39 RX4 yX4_isPlanClosed wsX4_isPlanClosed) := goodIn_app (goodIn_of _ (by decide +kernel)) ggX4_row_X4_isPlanClosed
set_option maxRecDepth 20000 in
theorem ggX4_row_X4_isSpan : GoodIn wsX4_row wsX4_isSpan := goodIn_r _ [14] (by decide +kernel) (by decide +kernel)
set_option maxRecDepth 20000 in
theorem gX4_row_X4_isSpan : GoodIn wsX4_row (va_wsS RX4 50 yX4_isSpan wsX4_isSpan) := goodIn_app (goodIn_of _ (by decide +kernel)) ggX4_row_X4_isSpan
set_option maxRecDepth 20000 in
theorem ggX4_row_X4_isWithin : GoodIn wsX4_row wsX4_isWithin := goodIn_r _ [17] (by decide +kernel) (by decide +kernel)
set_option maxRecDepth 20000 in
theorem gX4_row_X4_isWithin : GoodIn wsX4_row (va_wsS RX4 54 yX4_isWithin wsX4_isWithin) := goodIn_app (goodIn_of _ (by decide +kernel)) ggX4_row_X4_isWithin
set_option maxRecDepth 20000 in
theorem ggX4_row_X1_add : GoodIn wsX4_row wsX1_add := goodIn_r _ [21, 22, 23, 24, 25, 26, 27, 33, 34, 35, 36, 37, 38] (by decide +kernel) (by decide +kernel)
set_option maxRecDepth 20000 in
theorem gX4_row_X1_add_n60 : GoodIn wsX4_row (wsX1_add) := ggX4_row_X1_add
theorem dX4_row_0 : decode cX4_row 0 = .ok (.aload_n 0, 1) := by decide +kernel
theorem dX4_row_1 : decode cX4_row 1 = .ok (.invokevirtual 39, 3) := by decide +kernel
theorem dX4_row_4 : decode cX4_row 4 = .ok (.ifCond .ne 15, 3) := by decide +kernel
theorem dX4_row_7 : decode cX4_row 7 = .ok (.aload_n 0, 1) := by decide +kernel
theorem dX4_row_8 : decode cX4_row 8 = .ok (.getfield 10, 3) := by decide +kernel
theorem dX4_row_11 : decode cX4_row 11 = .ok (.getfield 43, 3) := by decide +kernel
theorem dX4_row_14 : decode cX4_row 14 = .ok (.bipush 8, 2) := by decide +kernel
theorem dX4_row_16 : decode cX4_row 16 = .ok (.if_icmp .ne 11, 3) := by decide +kernel
theorem dX4_row_19 : decode cX4_row 19 = .ok (.new 47, 3) := by decide +kernel
theorem dX4_row_22 : decode cX4_row 22 = .ok (.dup, 1) := by decide +kernel
theorem dX4_row_23 : decode cX4_row 23 = .ok (.invokespecial 49, 3) := by decide +kernel
theorem dX4_row_26 : decode cX4_row 26 = .ok (.athrow, 1) := by decide +kernel
theorem dX4_row_27 : decode cX4_row 27 = .ok (.iload_n 1, 1) := by decide +kernel
theorem dX4_row_28 : decode cX4_row 28 = .ok (.iload_n 2, 1) := by decide +kernel
theorem dX4_row_29 : decode cX4_row 29 = .ok (.bipush 49, 2) := by decide +kernel
theorem dX4_row_31 : decode cX4_row 31 = .ok (.invokestatic 50, 3) := by decide +kernel
theorem dX4_row_34 : decode cX4_row 34 = .ok (.ifCond .eq 25, 3) := by decide +kernel
theorem dX4_row_37 : decode cX4_row 37 = .ok (.iload_n 3, 1) := by decide +kernel
theorem dX4_row_38 : decode cX4_row 38 = .ok (.iload 4, 2) := by decide +kernel
theorem dX4_row_40 : decode cX4_row 40 = .ok (.bipush 9, 2) := by decide +kernel
theorem dX4_row_42 : decode cX4_row 42 = .ok (.invokestatic 50, 3) := by decide +kernel
theorem dX4_row_45 : decode cX4_row 45 = .ok (.ifCond .eq 14, 3) := by decide +kernel
theorem dX4_row_48 : decode cX4_row 48 = .ok (.iconst 1, 1) := by decide +kernel
theorem dX4_row_49 : decode cX4_row 49 = .ok (.iload 5, 2) := by decide +kernel
theorem dX4_row_51 : decode cX4_row 51 = .ok (.bipush 99, 2) := by decide +kernel
theorem dX4_row_53 : decode cX4_row 53 = .ok (.invokestatic 54, 3) := by decide +kernel
theorem dX4_row_56 : decode cX4_row 56 = .ok (.ifCond .ne 11, 3) := by decide +kernel
theorem dX4_row_59 : decode cX4_row 59 = .ok (.new 57, 3) := by decide +kernel
theorem dX4_row_62 : decode cX4_row 62 = .ok (.dup, 1) := by decide +kernel
theorem dX4_row_63 : decode cX4_row 63 = .ok (.invokespecial 59, 3) := by decide +kernel
theorem dX4_row_66 : decode cX4_row 66 = .ok (.athrow, 1) := by decide +kernel
theorem dX4_row_67 : decode cX4_row 67 = .ok (.aload_n 0, 1) := by decide +kernel
theorem dX4_row_68 : decode cX4_row 68 = .ok (.getfield 10, 3) := by decide +kernel
theorem dX4_row_71 : decode cX4_row 71 = .ok (.iload_n 1, 1) := by decide +kernel
theorem dX4_row_72 : decode cX4_row 72 = .ok (.iload_n 2, 1) := by decide +kernel
theorem dX4_row_73 : decode cX4_row 73 = .ok (.iload_n 3, 1) := by decide +kernel
theorem dX4_row_74 : decode cX4_row 74 = .ok (.iload 4, 2) := by decide +kernel
theorem dX4_row_76 : decode cX4_row 76 = .ok (.iload 5, 2) := by decide +kernel
theorem dX4_row_78 : decode cX4_row 78 = .ok (.invokevirtual 60, 3) := by decide +kernel
theorem dX4_row_81 : decode cX4_row 81 = .ok (.ireturn, 1) := by decide +kernel
set_option maxRecDepth 20000 in
theorem ggX4_undo_X4_isPlanClosed : GoodIn wsX4_undo wsX4_isPlanClosed := goodIn_r _ [8, 9, 15, 16, 17, 18, 19, 26, 27, 28, 29, 30, 31, 32, 33, 34, 35, 36] (by decide +kernel) (by decide +kernel)
set_option maxRecDepth 20000 in
theorem gX4_undo_X4_isPlanClosed : GoodIn wsX4_undo (wsV RX4 39 RX4 yX4_isPlanClosed wsX4_isPlanClosed) := goodIn_app (goodIn_of _ (by decide +kernel)) ggX4_undo_X4_isPlanClosed
set_option maxRecDepth 20000 in
theorem ggX4_undo_X1_dropLatest : GoodIn wsX4_undo wsX1_dropLatest := goodIn_r _ [13, 14, 20, 21, 22, 23, 24, 25] (by decide +kernel) (by decide +kernel)
set_option maxRecDepth 20000 in
theorem gX4_undo_X1_dropLatest_n64 : GoodIn wsX4_undo (wsX1_dropLatest) := ggX4_undo_X1_dropLatest
theorem dX4_undo_0 : decode cX4_undo 0 = .ok (.aload_n 0, 1) := by decide +kernel
theorem dX4_undo_1 : decode cX4_undo 1 = .ok (.invokevirtual 39, 3) := by decide +kernel
theorem dX4_undo_4 : decode cX4_undo 4 = .ok (.ifCond .ne 13, 3) := by decide +kernel
theorem dX4_undo_7 : decode cX4_undo 7 = .ok (.aload_n 0, 1) := by decide +kernel
theorem dX4_undo_8 : decode cX4_undo 8 = .ok (.getfield 10, 3) := by decide +kernel
theorem dX4_undo_11 : decode cX4_undo 11 = .ok (.getfield 43, 3) := by decide +kernel
theorem dX4_undo_14 : decode cX4_undo 14 = .ok (.ifCond .ne 11, 3) := by decide +kernel
theorem dX4_undo_17 : decode cX4_undo 17 = .ok (.new 47, 3) := by decide +kernel
theorem dX4_undo_20 : decode cX4_undo 20 = .ok (.dup, 1) := by decide +kernel
theorem dX4_undo_21 : decode cX4_undo 21 = .ok (.invokespecial 49, 3) := by decide +kernel
theorem dX4_undo_24 : decode cX4_undo 24 = .ok (.athrow, 1) := by decide +kernel
theorem dX4_undo_25 : decode cX4_undo 25 = .ok (.aload_n 0, 1) := by decide +kernel
theorem dX4_undo_26 : decode cX4_undo 26 = .ok (.getfield 10, 3) := by decide +kernel
theorem dX4_undo_29 : decode cX4_undo 29 = .ok (.invokevirtual 64, 3) := by decide +kernel
theorem dX4_undo_32 : decode cX4_undo 32 = .ok (.return_, 1) := by decide +kernel
set_option maxRecDepth 20000 in
theorem ggX4_witness_X1_firstFault : GoodIn wsX4_witness wsX1_firstFault := goodIn_r _ [5, 6, 7, 8, 3, 9, 10, 11, 12, 13, 14, 15, 16, 17, 18, 24, 25, 26, 27, 28, 29] (by decide +kernel) (by decide +kernel)
set_option maxRecDepth 20000 in
theorem gX4_witness_X1_firstFault_n67 : GoodIn wsX4_witness (wsX1_firstFault) := ggX4_witness_X1_firstFault
theorem dX4_witness_0 : decode cX4_witness 0 = .ok (.aload_n 0, 1) := by decide +kernel
theorem dX4_witness_1 : decode cX4_witness 1 = .ok (.getfield 10, 3) := by decide +kernel
theorem dX4_witness_4 : decode cX4_witness 4 = .ok (.invokevirtual 67, 3) := by decide +kernel
theorem dX4_witness_7 : decode cX4_witness 7 = .ok (.ireturn, 1) := by decide +kernel
set_option maxRecDepth 20000 in
theorem ggX4_quota_X4_isWithin : GoodIn wsX4_quota wsX4_isWithin := goodIn_r _ [10] (by decide +kernel) (by decide +kernel)
set_option maxRecDepth 20000 in
theorem gX4_quota_X4_isWithin : GoodIn wsX4_quota (va_wsS RX4 54 yX4_isWithin wsX4_isWithin) := goodIn_app (goodIn_of _ (by decide +kernel)) ggX4_quota_X4_isWithin
theorem dX4_quota_0 : decode cX4_quota 0 = .ok (.aload_n 0, 1) := by decide +kernel
theorem dX4_quota_1 : decode cX4_quota 1 = .ok (.getfield 21, 3) := by decide +kernel
theorem dX4_quota_4 : decode cX4_quota 4 = .ok (.getfield 71, 3) := by decide +kernel
theorem dX4_quota_7 : decode cX4_quota 7 = .ok (.ifCond .le 11, 3) := by decide +kernel
theorem dX4_quota_10 : decode cX4_quota 10 = .ok (.new 47, 3) := by decide +kernel
theorem dX4_quota_13 : decode cX4_quota 13 = .ok (.dup, 1) := by decide +kernel
theorem dX4_quota_14 : decode cX4_quota 14 = .ok (.invokespecial 49, 3) := by decide +kernel
theorem dX4_quota_17 : decode cX4_quota 17 = .ok (.athrow, 1) := by decide +kernel
theorem dX4_quota_18 : decode cX4_quota 18 = .ok (.iconst 0, 1) := by decide +kernel
theorem dX4_quota_19 : decode cX4_quota 19 = .ok (.iload_n 1, 1) := by decide +kernel
theorem dX4_quota_20 : decode cX4_quota 20 = .ok (.bipush 90, 2) := by decide +kernel
theorem dX4_quota_22 : decode cX4_quota 22 = .ok (.invokestatic 54, 3) := by decide +kernel
theorem dX4_quota_25 : decode cX4_quota 25 = .ok (.ifCond .ne 11, 3) := by decide +kernel
theorem dX4_quota_28 : decode cX4_quota 28 = .ok (.new 57, 3) := by decide +kernel
theorem dX4_quota_31 : decode cX4_quota 31 = .ok (.dup, 1) := by decide +kernel
theorem dX4_quota_32 : decode cX4_quota 32 = .ok (.invokespecial 59, 3) := by decide +kernel
theorem dX4_quota_35 : decode cX4_quota 35 = .ok (.athrow, 1) := by decide +kernel
theorem dX4_quota_36 : decode cX4_quota 36 = .ok (.aload_n 0, 1) := by decide +kernel
theorem dX4_quota_37 : decode cX4_quota 37 = .ok (.iload_n 1, 1) := by decide +kernel
theorem dX4_quota_38 : decode cX4_quota 38 = .ok (.putfield 74, 3) := by decide +kernel
theorem dX4_quota_41 : decode cX4_quota 41 = .ok (.return_, 1) := by decide +kernel
set_option maxRecDepth 20000 in
theorem ggX4_terms_X4_isWithin : GoodIn wsX4_terms wsX4_isWithin := goodIn_r _ [9] (by decide +kernel) (by decide +kernel)
set_option maxRecDepth 20000 in
theorem gX4_terms_X4_isWithin : GoodIn wsX4_terms (va_wsS RX4 54 yX4_isWithin wsX4_isWithin) := goodIn_app (goodIn_of _ (by decide +kernel)) ggX4_terms_X4_isWithin
set_option maxRecDepth 20000 in
theorem ggX4_terms_X3_setTerms : GoodIn wsX4_terms wsX3_setTerms := goodIn_r _ [13, 14, 15, 16, 22, 23, 24, 25, 26, 27, 28, 29, 30, 31, 32, 33] (by decide +kernel) (by decide +kernel)
set_option maxRecDepth 20000 in
theorem gX4_terms_X3_setTerms_n78 : GoodIn wsX4_terms (wsX3_setTerms) := ggX4_terms_X3_setTerms
theorem dX4_terms_0 : decode cX4_terms 0 = .ok (.aload_n 0, 1) := by decide +kernel
theorem dX4_terms_1 : decode cX4_terms 1 = .ok (.getfield 28, 3) := by decide +kernel
theorem dX4_terms_4 : decode cX4_terms 4 = .ok (.getfield 77, 3) := by decide +kernel
theorem dX4_terms_7 : decode cX4_terms 7 = .ok (.ifCond .le 11, 3) := by decide +kernel
theorem dX4_terms_10 : decode cX4_terms 10 = .ok (.new 47, 3) := by decide +kernel
theorem dX4_terms_13 : decode cX4_terms 13 = .ok (.dup, 1) := by decide +kernel
theorem dX4_terms_14 : decode cX4_terms 14 = .ok (.invokespecial 49, 3) := by decide +kernel
theorem dX4_terms_17 : decode cX4_terms 17 = .ok (.athrow, 1) := by decide +kernel
theorem dX4_terms_18 : decode cX4_terms 18 = .ok (.iconst 0, 1) := by decide +kernel
theorem dX4_terms_19 : decode cX4_terms 19 = .ok (.iload_n 1, 1) := by decide +kernel
theorem dX4_terms_20 : decode cX4_terms 20 = .ok (.sipush 999, 3) := by decide +kernel
theorem dX4_terms_23 : decode cX4_terms 23 = .ok (.invokestatic 54, 3) := by decide +kernel
theorem dX4_terms_26 : decode cX4_terms 26 = .ok (.ifCond .eq 25, 3) := by decide +kernel
theorem dX4_terms_29 : decode cX4_terms 29 = .ok (.iconst 1, 1) := by decide +kernel
theorem dX4_terms_30 : decode cX4_terms 30 = .ok (.iload_n 2, 1) := by decide +kernel
theorem dX4_terms_31 : decode cX4_terms 31 = .ok (.sipush 9999, 3) := by decide +kernel
theorem dX4_terms_34 : decode cX4_terms 34 = .ok (.invokestatic 54, 3) := by decide +kernel
theorem dX4_terms_37 : decode cX4_terms 37 = .ok (.ifCond .eq 14, 3) := by decide +kernel
theorem dX4_terms_40 : decode cX4_terms 40 = .ok (.iconst 1, 1) := by decide +kernel
theorem dX4_terms_41 : decode cX4_terms 41 = .ok (.iload_n 3, 1) := by decide +kernel
theorem dX4_terms_42 : decode cX4_terms 42 = .ok (.sipush 9999, 3) := by decide +kernel
theorem dX4_terms_45 : decode cX4_terms 45 = .ok (.invokestatic 54, 3) := by decide +kernel
theorem dX4_terms_48 : decode cX4_terms 48 = .ok (.ifCond .ne 11, 3) := by decide +kernel
theorem dX4_terms_51 : decode cX4_terms 51 = .ok (.new 57, 3) := by decide +kernel
theorem dX4_terms_54 : decode cX4_terms 54 = .ok (.dup, 1) := by decide +kernel
theorem dX4_terms_55 : decode cX4_terms 55 = .ok (.invokespecial 59, 3) := by decide +kernel
theorem dX4_terms_58 : decode cX4_terms 58 = .ok (.athrow, 1) := by decide +kernel
theorem dX4_terms_59 : decode cX4_terms 59 = .ok (.aload_n 0, 1) := by decide +kernel
theorem dX4_terms_60 : decode cX4_terms 60 = .ok (.getfield 28, 3) := by decide +kernel
theorem dX4_terms_63 : decode cX4_terms 63 = .ok (.iload_n 1, 1) := by decide +kernel
theorem dX4_terms_64 : decode cX4_terms 64 = .ok (.iload_n 2, 1) := by decide +kernel
theorem dX4_terms_65 : decode cX4_terms 65 = .ok (.iload_n 3, 1) := by decide +kernel
theorem dX4_terms_66 : decode cX4_terms 66 = .ok (.invokevirtual 78, 3) := by decide +kernel
theorem dX4_terms_69 : decode cX4_terms 69 = .ok (.return_, 1) := by decide +kernel
set_option maxRecDepth 20000 in
theorem ggX4_layer_X4_isWithin : GoodIn wsX4_layer wsX4_isWithin := goodIn_r _ [9] (by decide +kernel) (by decide +kernel)
set_option maxRecDepth 20000 in
theorem gX4_layer_X4_isWithin : GoodIn wsX4_layer (va_wsS RX4 54 yX4_isWithin wsX4_isWithin) := goodIn_app (goodIn_of _ (by decide +kernel)) ggX4_layer_X4_isWithin
set_option maxRecDepth 20000 in
theorem ggX4_layer_X3_setLayer : GoodIn wsX4_layer wsX3_setLayer := goodIn_r _ [13, 14, 15, 16, 17, 23, 24, 25, 26, 27, 28, 29, 30, 31, 32, 33, 34] (by decide +kernel) (by decide +kernel)
set_option maxRecDepth 20000 in
theorem gX4_layer_X3_setLayer_n82 : GoodIn wsX4_layer (wsX3_setLayer) := ggX4_layer_X3_setLayer
theorem dX4_layer_0 : decode cX4_layer 0 = .ok (.aload_n 0, 1) := by decide +kernel
theorem dX4_layer_1 : decode cX4_layer 1 = .ok (.getfield 28, 3) := by decide +kernel
theorem dX4_layer_4 : decode cX4_layer 4 = .ok (.getfield 77, 3) := by decide +kernel
theorem dX4_layer_7 : decode cX4_layer 7 = .ok (.ifCond .le 11, 3) := by decide +kernel
theorem dX4_layer_10 : decode cX4_layer 10 = .ok (.new 47, 3) := by decide +kernel
theorem dX4_layer_13 : decode cX4_layer 13 = .ok (.dup, 1) := by decide +kernel
theorem dX4_layer_14 : decode cX4_layer 14 = .ok (.invokespecial 49, 3) := by decide +kernel
theorem dX4_layer_17 : decode cX4_layer 17 = .ok (.athrow, 1) := by decide +kernel
theorem dX4_layer_18 : decode cX4_layer 18 = .ok (.iconst 0, 1) := by decide +kernel
theorem dX4_layer_19 : decode cX4_layer 19 = .ok (.iload_n 1, 1) := by decide +kernel
theorem dX4_layer_20 : decode cX4_layer 20 = .ok (.sipush 9999, 3) := by decide +kernel
theorem dX4_layer_23 : decode cX4_layer 23 = .ok (.invokestatic 54, 3) := by decide +kernel
theorem dX4_layer_26 : decode cX4_layer 26 = .ok (.ifCond .eq 34, 3) := by decide +kernel
theorem dX4_layer_29 : decode cX4_layer 29 = .ok (.iconst 0, 1) := by decide +kernel
theorem dX4_layer_30 : decode cX4_layer 30 = .ok (.iload_n 2, 1) := by decide +kernel
theorem dX4_layer_31 : decode cX4_layer 31 = .ok (.sipush 9999, 3) := by decide +kernel
theorem dX4_layer_34 : decode cX4_layer 34 = .ok (.invokestatic 54, 3) := by decide +kernel
theorem dX4_layer_37 : decode cX4_layer 37 = .ok (.ifCond .eq 23, 3) := by decide +kernel
theorem dX4_layer_40 : decode cX4_layer 40 = .ok (.iconst 0, 1) := by decide +kernel
theorem dX4_layer_41 : decode cX4_layer 41 = .ok (.iload_n 3, 1) := by decide +kernel
theorem dX4_layer_42 : decode cX4_layer 42 = .ok (.iconst 3, 1) := by decide +kernel
theorem dX4_layer_43 : decode cX4_layer 43 = .ok (.invokestatic 54, 3) := by decide +kernel
theorem dX4_layer_46 : decode cX4_layer 46 = .ok (.ifCond .eq 14, 3) := by decide +kernel
theorem dX4_layer_49 : decode cX4_layer 49 = .ok (.iconst 0, 1) := by decide +kernel
theorem dX4_layer_50 : decode cX4_layer 50 = .ok (.iload 4, 2) := by decide +kernel
theorem dX4_layer_52 : decode cX4_layer 52 = .ok (.bipush 99, 2) := by decide +kernel
theorem dX4_layer_54 : decode cX4_layer 54 = .ok (.invokestatic 54, 3) := by decide +kernel
theorem dX4_layer_57 : decode cX4_layer 57 = .ok (.ifCond .ne 11, 3) := by decide +kernel
theorem dX4_layer_60 : decode cX4_layer 60 = .ok (.new 57, 3) := by decide +kernel
theorem dX4_layer_63 : decode cX4_layer 63 = .ok (.dup, 1) := by decide +kernel
theorem dX4_layer_64 : decode cX4_layer 64 = .ok (.invokespecial 59, 3) := by decide +kernel
theorem dX4_layer_67 : decode cX4_layer 67 = .ok (.athrow, 1) := by decide +kernel
theorem dX4_layer_68 : decode cX4_layer 68 = .ok (.aload_n 0, 1) := by decide +kernel
theorem dX4_layer_69 : decode cX4_layer 69 = .ok (.getfield 28, 3) := by decide +kernel
theorem dX4_layer_72 : decode cX4_layer 72 = .ok (.iload_n 1, 1) := by decide +kernel
theorem dX4_layer_73 : decode cX4_layer 73 = .ok (.iload_n 2, 1) := by decide +kernel
theorem dX4_layer_74 : decode cX4_layer 74 = .ok (.iload_n 3, 1) := by decide +kernel
theorem dX4_layer_75 : decode cX4_layer 75 = .ok (.iload 4, 2) := by decide +kernel
theorem dX4_layer_77 : decode cX4_layer 77 = .ok (.invokevirtual 82, 3) := by decide +kernel
theorem dX4_layer_80 : decode cX4_layer 80 = .ok (.return_, 1) := by decide +kernel
set_option maxRecDepth 20000 in
theorem ggX4_bind_X4_isPlanGood : GoodIn wsX4_bind wsX4_isPlanGood := goodIn_r _ [10, 11, 12, 13, 14, 9, 15, 5, 16, 17, 18, 19, 20, 21, 22, 23, 24, 25, 26, 27, 28, 29, 30, 31, 32, 129, 130, 131, 132, 133, 134, 135, 136, 137, 138, 139, 140, 141, 142, 143, 144, 145, 146, 147, 148, 149, 150] (by decide +kernel) (by decide +kernel)
set_option maxRecDepth 20000 in
theorem gX4_bind_X4_isPlanGood : GoodIn wsX4_bind (wsV RX4 86 RX4 yX4_isPlanGood wsX4_isPlanGood) := goodIn_app (goodIn_of _ (by decide +kernel)) ggX4_bind_X4_isPlanGood
set_option maxRecDepth 20000 in
theorem ggX4_bind_X2_isFull : GoodIn wsX4_bind wsX2_isFull := goodIn_r _ [36, 37, 134, 135, 136, 137, 138, 139, 140, 141, 142, 143, 144] (by decide +kernel) (by decide +kernel)
set_option maxRecDepth 20000 in
theorem gX4_bind_X2_isFull_n89 : GoodIn wsX4_bind (wsX2_isFull) := ggX4_bind_X2_isFull
set_option maxRecDepth 20000 in
theorem ggX4_bind_X4_isDay : GoodIn wsX4_bind wsX4_isDay := goodIn_r _ [40, 41, 42, 9, 43] (by decide +kernel) (by decide +kernel)
set_option maxRecDepth 20000 in
theorem gX4_bind_X4_isDay : GoodIn wsX4_bind (va_wsS RX4 92 yX4_isDay wsX4_isDay) := goodIn_app (goodIn_of _ (by decide +kernel)) ggX4_bind_X4_isDay
set_option maxRecDepth 20000 in
theorem ggX4_bind_X4_isWithin : GoodIn wsX4_bind wsX4_isWithin := goodIn_r _ [46] (by decide +kernel) (by decide +kernel)
set_option maxRecDepth 20000 in
theorem gX4_bind_X4_isWithin : GoodIn wsX4_bind (va_wsS RX4 54 yX4_isWithin wsX4_isWithin) := goodIn_app (goodIn_of _ (by decide +kernel)) ggX4_bind_X4_isWithin
set_option maxRecDepth 20000 in
theorem ggX4_bind_X4_isValueOf : GoodIn wsX4_bind wsX4_isValueOf := goodIn_r _ [49, 44, 45, 9, 46] (by decide +kernel) (by decide +kernel)
set_option maxRecDepth 20000 in
theorem gX4_bind_X4_isValueOf : GoodIn wsX4_bind (va_wsS RX4 96 yX4_isValueOf wsX4_isValueOf) := goodIn_app (goodIn_of _ (by decide +kernel)) ggX4_bind_X4_isValueOf
set_option maxRecDepth 20000 in
theorem ggX4_bind_X2_pencilBind : GoodIn wsX4_bind wsX2_pencilBind := goodIn_r _ [52, 53, 54, 55, 56, 57, 58, 59, 60, 37, 61, 62, 63, 64, 34, 65, 66, 67, 68, 69, 134, 135, 136, 137, 138, 139, 140, 141, 142, 143, 144] (by decide +kernel) (by decide +kernel)
set_option maxRecDepth 20000 in
theorem gX4_bind_X2_pencilBind_n100 : GoodIn wsX4_bind (wsX2_pencilBind) := ggX4_bind_X2_pencilBind
set_option maxRecDepth 20000 in
theorem ggX4_bind_X4_postPremium : GoodIn wsX4_bind wsX4_postPremium := goodIn_ca (goodIn_r _ [73, 74, 75, 5, 76, 77, 78, 34, 79, 80, 55, 56, 57, 58, 59, 53, 81, 82, 83, 84, 60, 85, 86, 87, 88, 66, 67, 89, 90, 91, 92, 93, 94, 95, 96, 97, 61, 68, 69, 45, 9, 46, 98, 17, 99, 100, 24, 101, 25, 26, 27, 28, 29, 30, 31, 32, 102, 103, 104, 105, 106, 107, 108, 109, 110, 111, 112, 113, 114, 115, 116, 117, 118, 119, 120, 121, 122, 123, 124, 125, 129, 130, 131, 132, 133, 134, 135, 136, 137, 138, 139, 140, 141, 142, 143, 144, 145, 146, 147, 148, 149, 150, 151, 152, 153] (by decide +kernel) (by decide +kernel)) (goodIn_sub (fun _ h => List.mem_cons_of_mem _ (List.mem_append_right _ h)) (by decide +kernel))
set_option maxRecDepth 20000 in
theorem gX4_bind_X4_postPremium : GoodIn wsX4_bind (wsV RX4 104 RX4 yX4_postPremium wsX4_postPremium) := goodIn_app (goodIn_of _ (by decide +kernel)) ggX4_bind_X4_postPremium
set_option maxRecDepth 20000 in
theorem ggX4_bind_X2_confirmBind : GoodIn wsX4_bind wsX2_confirmBind := goodIn_r _ [128, 54, 37, 134, 135, 136, 137, 138, 139, 140, 141, 142, 143, 144] (by decide +kernel) (by decide +kernel)
set_option maxRecDepth 20000 in
theorem gX4_bind_X2_confirmBind_n108 : GoodIn wsX4_bind (wsX2_confirmBind) := ggX4_bind_X2_confirmBind
theorem dX4_bind_0 : decode cX4_bind 0 = .ok (.aload_n 0, 1) := by decide +kernel
theorem dX4_bind_1 : decode cX4_bind 1 = .ok (.invokevirtual 86, 3) := by decide +kernel
theorem dX4_bind_4 : decode cX4_bind 4 = .ok (.ifCond .eq 25, 3) := by decide +kernel
theorem dX4_bind_7 : decode cX4_bind 7 = .ok (.aload_n 0, 1) := by decide +kernel
theorem dX4_bind_8 : decode cX4_bind 8 = .ok (.getfield 21, 3) := by decide +kernel
theorem dX4_bind_11 : decode cX4_bind 11 = .ok (.getfield 71, 3) := by decide +kernel
theorem dX4_bind_14 : decode cX4_bind 14 = .ok (.bipush 6, 2) := by decide +kernel
theorem dX4_bind_16 : decode cX4_bind 16 = .ok (.if_icmp .eq 13, 3) := by decide +kernel
theorem dX4_bind_19 : decode cX4_bind 19 = .ok (.aload_n 0, 1) := by decide +kernel
theorem dX4_bind_20 : decode cX4_bind 20 = .ok (.getfield 21, 3) := by decide +kernel
theorem dX4_bind_23 : decode cX4_bind 23 = .ok (.invokevirtual 89, 3) := by decide +kernel
theorem dX4_bind_26 : decode cX4_bind 26 = .ok (.ifCond .eq 11, 3) := by decide +kernel
theorem dX4_bind_29 : decode cX4_bind 29 = .ok (.new 47, 3) := by decide +kernel
theorem dX4_bind_32 : decode cX4_bind 32 = .ok (.dup, 1) := by decide +kernel
theorem dX4_bind_33 : decode cX4_bind 33 = .ok (.invokespecial 49, 3) := by decide +kernel
theorem dX4_bind_36 : decode cX4_bind 36 = .ok (.athrow, 1) := by decide +kernel
theorem dX4_bind_37 : decode cX4_bind 37 = .ok (.iload_n 1, 1) := by decide +kernel
theorem dX4_bind_38 : decode cX4_bind 38 = .ok (.invokestatic 92, 3) := by decide +kernel
theorem dX4_bind_41 : decode cX4_bind 41 = .ok (.ifCond .eq 40, 3) := by decide +kernel
theorem dX4_bind_44 : decode cX4_bind 44 = .ok (.iconst 1, 1) := by decide +kernel
theorem dX4_bind_45 : decode cX4_bind 45 = .ok (.iload_n 2, 1) := by decide +kernel
theorem dX4_bind_46 : decode cX4_bind 46 = .ok (.sipush 200, 3) := by decide +kernel
theorem dX4_bind_49 : decode cX4_bind 49 = .ok (.invokestatic 54, 3) := by decide +kernel
theorem dX4_bind_52 : decode cX4_bind 52 = .ok (.ifCond .eq 29, 3) := by decide +kernel
theorem dX4_bind_55 : decode cX4_bind 55 = .ok (.iconst 0, 1) := by decide +kernel
theorem dX4_bind_56 : decode cX4_bind 56 = .ok (.iload_n 3, 1) := by decide +kernel
theorem dX4_bind_57 : decode cX4_bind 57 = .ok (.invokestatic 96, 3) := by decide +kernel
theorem dX4_bind_60 : decode cX4_bind 60 = .ok (.ifCond .eq 21, 3) := by decide +kernel
theorem dX4_bind_63 : decode cX4_bind 63 = .ok (.iconst 1, 1) := by decide +kernel
theorem dX4_bind_64 : decode cX4_bind 64 = .ok (.iload 4, 2) := by decide +kernel
theorem dX4_bind_66 : decode cX4_bind 66 = .ok (.invokestatic 96, 3) := by decide +kernel
theorem dX4_bind_69 : decode cX4_bind 69 = .ok (.ifCond .eq 12, 3) := by decide +kernel
theorem dX4_bind_72 : decode cX4_bind 72 = .ok (.iconst 2, 1) := by decide +kernel
theorem dX4_bind_73 : decode cX4_bind 73 = .ok (.iload 5, 2) := by decide +kernel
theorem dX4_bind_75 : decode cX4_bind 75 = .ok (.invokestatic 96, 3) := by decide +kernel
theorem dX4_bind_78 : decode cX4_bind 78 = .ok (.ifCond .ne 11, 3) := by decide +kernel
theorem dX4_bind_81 : decode cX4_bind 81 = .ok (.new 57, 3) := by decide +kernel
theorem dX4_bind_84 : decode cX4_bind 84 = .ok (.dup, 1) := by decide +kernel
theorem dX4_bind_85 : decode cX4_bind 85 = .ok (.invokespecial 59, 3) := by decide +kernel
theorem dX4_bind_88 : decode cX4_bind 88 = .ok (.athrow, 1) := by decide +kernel
theorem dX4_bind_89 : decode cX4_bind 89 = .ok (.aload_n 0, 1) := by decide +kernel
theorem dX4_bind_90 : decode cX4_bind 90 = .ok (.getfield 21, 3) := by decide +kernel
theorem dX4_bind_93 : decode cX4_bind 93 = .ok (.getfield 71, 3) := by decide +kernel
theorem dX4_bind_96 : decode cX4_bind 96 = .ok (.istore 6, 2) := by decide +kernel
theorem dX4_bind_98 : decode cX4_bind 98 = .ok (.aload_n 0, 1) := by decide +kernel
theorem dX4_bind_99 : decode cX4_bind 99 = .ok (.getfield 21, 3) := by decide +kernel
theorem dX4_bind_102 : decode cX4_bind 102 = .ok (.iload_n 1, 1) := by decide +kernel
theorem dX4_bind_103 : decode cX4_bind 103 = .ok (.iload_n 2, 1) := by decide +kernel
theorem dX4_bind_104 : decode cX4_bind 104 = .ok (.iload_n 3, 1) := by decide +kernel
theorem dX4_bind_105 : decode cX4_bind 105 = .ok (.iload 4, 2) := by decide +kernel
theorem dX4_bind_107 : decode cX4_bind 107 = .ok (.iload 5, 2) := by decide +kernel
theorem dX4_bind_109 : decode cX4_bind 109 = .ok (.invokevirtual 100, 3) := by decide +kernel
theorem dX4_bind_112 : decode cX4_bind 112 = .ok (.aload_n 0, 1) := by decide +kernel
theorem dX4_bind_113 : decode cX4_bind 113 = .ok (.iload 6, 2) := by decide +kernel
theorem dX4_bind_115 : decode cX4_bind 115 = .ok (.iconst 0, 1) := by decide +kernel
theorem dX4_bind_116 : decode cX4_bind 116 = .ok (.invokevirtual 104, 3) := by decide +kernel
theorem dX4_bind_119 : decode cX4_bind 119 = .ok (.aload_n 0, 1) := by decide +kernel
theorem dX4_bind_120 : decode cX4_bind 120 = .ok (.getfield 21, 3) := by decide +kernel
theorem dX4_bind_123 : decode cX4_bind 123 = .ok (.invokevirtual 108, 3) := by decide +kernel
theorem dX4_bind_126 : decode cX4_bind 126 = .ok (.iload 6, 2) := by decide +kernel
theorem dX4_bind_128 : decode cX4_bind 128 = .ok (.ireturn, 1) := by decide +kernel
set_option maxRecDepth 20000 in
theorem ggX4_change_X4_isPolicy : GoodIn wsX4_change wsX4_isPolicy := goodIn_r _ [12, 7, 13, 14, 11, 15, 122, 123, 124, 125, 126, 127, 128, 129, 130, 131, 132, 133, 134, 135, 136, 137] (by decide +kernel) (by decide +kernel)
set_option maxRecDepth 20000 in
theorem gX4_change_X4_isPolicy : GoodIn wsX4_change (wsV RX4 111 RX4 yX4_isPolicy wsX4_isPolicy) := goodIn_app (goodIn_of _ (by decide +kernel)) ggX4_change_X4_isPolicy
set_option maxRecDepth 20000 in
theorem ggX4_change_X4_isWithin : GoodIn wsX4_change wsX4_isWithin := goodIn_r _ [18] (by decide +kernel) (by decide +kernel)
set_option maxRecDepth 20000 in
theorem gX4_change_X4_isWithin : GoodIn wsX4_change (va_wsS RX4 54 yX4_isWithin wsX4_isWithin) := goodIn_app (goodIn_of _ (by decide +kernel)) ggX4_change_X4_isWithin
set_option maxRecDepth 20000 in
theorem ggX4_change_X2_isInTerm : GoodIn wsX4_change wsX2_isInTerm := goodIn_r _ [22, 23, 24, 127, 128, 129, 130, 131, 132, 133, 134, 135, 136, 137] (by decide +kernel) (by decide +kernel)
set_option maxRecDepth 20000 in
theorem gX4_change_X2_isInTerm_n117 : GoodIn wsX4_change (wsX2_isInTerm) := ggX4_change_X2_isInTerm
set_option maxRecDepth 20000 in
theorem ggX4_change_X4_isValueOf : GoodIn wsX4_change wsX4_isValueOf := goodIn_r _ [27, 16, 17, 11, 18] (by decide +kernel) (by decide +kernel)
set_option maxRecDepth 20000 in
theorem gX4_change_X4_isValueOf : GoodIn wsX4_change (va_wsS RX4 96 yX4_isValueOf wsX4_isValueOf) := goodIn_app (goodIn_of _ (by decide +kernel)) ggX4_change_X4_isValueOf
set_option maxRecDepth 20000 in
theorem ggX4_change_X2_isInForce : GoodIn wsX4_change wsX2_isInForce := goodIn_r _ [30, 31, 32, 19, 21, 20, 22, 23, 24, 33, 34, 35, 36, 37, 38, 39, 40, 41, 42, 17, 11, 18, 127, 128, 129, 130, 131, 132, 133, 134, 135, 136, 137] (by decide +kernel) (by decide +kernel)
set_option maxRecDepth 20000 in
theorem gX4_change_X2_isInForce_n120 : GoodIn wsX4_change (wsX2_isInForce) := ggX4_change_X2_isInForce
set_option maxRecDepth 20000 in
theorem ggX4_change_X2_isFull : GoodIn wsX4_change wsX2_isFull := goodIn_r _ [45, 31, 127, 128, 129, 130, 131, 132, 133, 134, 135, 136, 137] (by decide +kernel) (by decide +kernel)
set_option maxRecDepth 20000 in
theorem gX4_change_X2_isFull_n89 : GoodIn wsX4_change (wsX2_isFull) := ggX4_change_X2_isFull
set_option maxRecDepth 20000 in
theorem ggX4_change_X4_book : GoodIn wsX4_change wsX4_book := goodIn_ca (goodIn_r _ [49, 7, 50, 20, 51, 52, 39, 31, 41, 40, 42, 53, 54, 55, 11, 56, 57, 58, 59, 60, 61, 62, 63, 24, 64, 65, 66, 67, 23, 68, 69, 70, 71, 38, 72, 73, 74, 75, 76, 77, 78, 79, 80, 33, 34, 35, 36, 37, 17, 18, 81, 82, 83, 84, 85, 86, 87, 88, 89, 90, 91, 92, 93, 94, 95, 96, 97, 98, 99, 100, 101, 102, 103, 104, 105, 106, 107, 108, 109, 110, 111, 112, 113, 114, 115, 116, 117, 118, 119, 120, 121, 122, 123, 124, 125, 126, 127, 128, 129, 130, 131, 132, 133, 134, 135, 136, 137, 138, 139, 140, 141, 142, 143, 144, 145, 146] (by decide +kernel) (by decide +kernel)) (goodIn_sub (fun _ h => List.mem_cons_of_mem _ (List.mem_append_right _ h)) (by decide +kernel))
set_option maxRecDepth 20000 in
theorem gX4_change_X4_book : GoodIn wsX4_change (wsV RX4 123 RX4 yX4_book wsX4_book) := goodIn_app (goodIn_of _ (by decide +kernel)) ggX4_change_X4_book
theorem dX4_change_0 : decode cX4_change 0 = .ok (.aload_n 0, 1) := by decide +kernel
theorem dX4_change_1 : decode cX4_change 1 = .ok (.iload_n 1, 1) := by decide +kernel
theorem dX4_change_2 : decode cX4_change 2 = .ok (.invokevirtual 111, 3) := by decide +kernel
theorem dX4_change_5 : decode cX4_change 5 = .ok (.ifCond .eq 12, 3) := by decide +kernel
theorem dX4_change_8 : decode cX4_change 8 = .ok (.iconst 0, 1) := by decide +kernel
theorem dX4_change_9 : decode cX4_change 9 = .ok (.iload_n 3, 1) := by decide +kernel
theorem dX4_change_10 : decode cX4_change 10 = .ok (.iconst 2, 1) := by decide +kernel
theorem dX4_change_11 : decode cX4_change 11 = .ok (.invokestatic 54, 3) := by decide +kernel
theorem dX4_change_14 : decode cX4_change 14 = .ok (.ifCond .ne 11, 3) := by decide +kernel
theorem dX4_change_17 : decode cX4_change 17 = .ok (.new 114, 3) := by decide +kernel
theorem dX4_change_20 : decode cX4_change 20 = .ok (.dup, 1) := by decide +kernel
theorem dX4_change_21 : decode cX4_change 21 = .ok (.invokespecial 116, 3) := by decide +kernel
theorem dX4_change_24 : decode cX4_change 24 = .ok (.athrow, 1) := by decide +kernel
theorem dX4_change_25 : decode cX4_change 25 = .ok (.aload_n 0, 1) := by decide +kernel
theorem dX4_change_26 : decode cX4_change 26 = .ok (.getfield 21, 3) := by decide +kernel
theorem dX4_change_29 : decode cX4_change 29 = .ok (.iload_n 1, 1) := by decide +kernel
theorem dX4_change_30 : decode cX4_change 30 = .ok (.iload_n 2, 1) := by decide +kernel
theorem dX4_change_31 : decode cX4_change 31 = .ok (.invokevirtual 117, 3) := by decide +kernel
theorem dX4_change_34 : decode cX4_change 34 = .ok (.ifCond .eq 12, 3) := by decide +kernel
theorem dX4_change_37 : decode cX4_change 37 = .ok (.iload_n 3, 1) := by decide +kernel
theorem dX4_change_38 : decode cX4_change 38 = .ok (.iload 4, 2) := by decide +kernel
theorem dX4_change_40 : decode cX4_change 40 = .ok (.invokestatic 96, 3) := by decide +kernel
theorem dX4_change_43 : decode cX4_change 43 = .ok (.ifCond .ne 11, 3) := by decide +kernel
theorem dX4_change_46 : decode cX4_change 46 = .ok (.new 57, 3) := by decide +kernel
theorem dX4_change_49 : decode cX4_change 49 = .ok (.dup, 1) := by decide +kernel
theorem dX4_change_50 : decode cX4_change 50 = .ok (.invokespecial 59, 3) := by decide +kernel
theorem dX4_change_53 : decode cX4_change 53 = .ok (.athrow, 1) := by decide +kernel
theorem dX4_change_54 : decode cX4_change 54 = .ok (.aload_n 0, 1) := by decide +kernel
theorem dX4_change_55 : decode cX4_change 55 = .ok (.getfield 21, 3) := by decide +kernel
theorem dX4_change_58 : decode cX4_change 58 = .ok (.iload_n 1, 1) := by decide +kernel
theorem dX4_change_59 : decode cX4_change 59 = .ok (.iload_n 2, 1) := by decide +kernel
theorem dX4_change_60 : decode cX4_change 60 = .ok (.invokevirtual 120, 3) := by decide +kernel
theorem dX4_change_63 : decode cX4_change 63 = .ok (.ifCond .eq 13, 3) := by decide +kernel
theorem dX4_change_66 : decode cX4_change 66 = .ok (.aload_n 0, 1) := by decide +kernel
theorem dX4_change_67 : decode cX4_change 67 = .ok (.getfield 21, 3) := by decide +kernel
theorem dX4_change_70 : decode cX4_change 70 = .ok (.invokevirtual 89, 3) := by decide +kernel
theorem dX4_change_73 : decode cX4_change 73 = .ok (.ifCond .eq 11, 3) := by decide +kernel
theorem dX4_change_76 : decode cX4_change 76 = .ok (.new 47, 3) := by decide +kernel
theorem dX4_change_79 : decode cX4_change 79 = .ok (.dup, 1) := by decide +kernel
theorem dX4_change_80 : decode cX4_change 80 = .ok (.invokespecial 49, 3) := by decide +kernel
theorem dX4_change_83 : decode cX4_change 83 = .ok (.athrow, 1) := by decide +kernel
theorem dX4_change_84 : decode cX4_change 84 = .ok (.aload_n 0, 1) := by decide +kernel
theorem dX4_change_85 : decode cX4_change 85 = .ok (.iload_n 1, 1) := by decide +kernel
theorem dX4_change_86 : decode cX4_change 86 = .ok (.iload_n 2, 1) := by decide +kernel
theorem dX4_change_87 : decode cX4_change 87 = .ok (.iload_n 3, 1) := by decide +kernel
theorem dX4_change_88 : decode cX4_change 88 = .ok (.iload 4, 2) := by decide +kernel
theorem dX4_change_90 : decode cX4_change 90 = .ok (.iconst 0, 1) := by decide +kernel
theorem dX4_change_91 : decode cX4_change 91 = .ok (.invokevirtual 123, 3) := by decide +kernel
theorem dX4_change_94 : decode cX4_change 94 = .ok (.ireturn, 1) := by decide +kernel
set_option maxRecDepth 20000 in
theorem ggX4_cancel_X4_isPolicy : GoodIn wsX4_cancel wsX4_isPolicy := goodIn_r _ [12, 7, 13, 14, 11, 15, 118, 119, 120, 121, 122, 123, 124, 125, 126, 127, 128, 129, 130, 131, 132, 133] (by decide +kernel) (by decide +kernel)
set_option maxRecDepth 20000 in
theorem gX4_cancel_X4_isPolicy : GoodIn wsX4_cancel (wsV RX4 111 RX4 yX4_isPolicy wsX4_isPolicy) := goodIn_app (goodIn_of _ (by decide +kernel)) ggX4_cancel_X4_isPolicy
set_option maxRecDepth 20000 in
theorem ggX4_cancel_X2_isInTerm : GoodIn wsX4_cancel wsX2_isInTerm := goodIn_r _ [19, 20, 21, 123, 124, 125, 126, 127, 128, 129, 130, 131, 132, 133] (by decide +kernel) (by decide +kernel)
set_option maxRecDepth 20000 in
theorem gX4_cancel_X2_isInTerm_n117 : GoodIn wsX4_cancel (wsX2_isInTerm) := ggX4_cancel_X2_isInTerm
set_option maxRecDepth 20000 in
theorem ggX4_cancel_X2_isInForce : GoodIn wsX4_cancel wsX2_isInForce := goodIn_r _ [24, 25, 26, 16, 18, 17, 19, 20, 21, 27, 28, 29, 30, 31, 32, 33, 34, 35, 36, 37, 11, 38, 123, 124, 125, 126, 127, 128, 129, 130, 131, 132, 133] (by decide +kernel) (by decide +kernel)
set_option maxRecDepth 20000 in
theorem gX4_cancel_X2_isInForce_n120 : GoodIn wsX4_cancel (wsX2_isInForce) := ggX4_cancel_X2_isInForce
set_option maxRecDepth 20000 in
theorem ggX4_cancel_X2_isFull : GoodIn wsX4_cancel wsX2_isFull := goodIn_r _ [41, 25, 123, 124, 125, 126, 127, 128, 129, 130, 131, 132, 133] (by decide +kernel) (by decide +kernel)
set_option maxRecDepth 20000 in
theorem gX4_cancel_X2_isFull_n89 : GoodIn wsX4_cancel (wsX2_isFull) := ggX4_cancel_X2_isFull
set_option maxRecDepth 20000 in
theorem ggX4_cancel_X4_book : GoodIn wsX4_cancel wsX4_book := goodIn_ca (goodIn_r _ [45, 7, 46, 17, 47, 48, 33, 25, 35, 34, 36, 49, 50, 51, 11, 52, 53, 54, 55, 56, 57, 58, 59, 21, 60, 61, 62, 63, 20, 64, 65, 66, 67, 32, 68, 69, 70, 71, 72, 73, 74, 75, 76, 27, 28, 29, 30, 31, 37, 38, 77, 78, 79, 80, 81, 82, 83, 84, 85, 86, 87, 88, 89, 90, 91, 92, 93, 94, 95, 96, 97, 98, 99, 100, 101, 102, 103, 104, 105, 106, 107, 108, 109, 110, 111, 112, 113, 114, 115, 116, 117, 118, 119, 120, 121, 122, 123, 124, 125, 126, 127, 128, 129, 130, 131, 132, 133, 134, 135, 136, 137, 138, 139, 140, 141, 142] (by decide +kernel) (by decide +kernel)) (goodIn_sub (fun _ h => List.mem_cons_of_mem _ (List.mem_append_right _ h)) (by decide +kernel))
set_option maxRecDepth 20000 in
theorem gX4_cancel_X4_book : GoodIn wsX4_cancel (wsV RX4 123 RX4 yX4_book wsX4_book) := goodIn_app (goodIn_of _ (by decide +kernel)) ggX4_cancel_X4_book
theorem dX4_cancel_0 : decode cX4_cancel 0 = .ok (.aload_n 0, 1) := by decide +kernel
theorem dX4_cancel_1 : decode cX4_cancel 1 = .ok (.iload_n 1, 1) := by decide +kernel
theorem dX4_cancel_2 : decode cX4_cancel 2 = .ok (.invokevirtual 111, 3) := by decide +kernel
theorem dX4_cancel_5 : decode cX4_cancel 5 = .ok (.ifCond .ne 11, 3) := by decide +kernel
theorem dX4_cancel_8 : decode cX4_cancel 8 = .ok (.new 114, 3) := by decide +kernel
theorem dX4_cancel_11 : decode cX4_cancel 11 = .ok (.dup, 1) := by decide +kernel
theorem dX4_cancel_12 : decode cX4_cancel 12 = .ok (.invokespecial 116, 3) := by decide +kernel
theorem dX4_cancel_15 : decode cX4_cancel 15 = .ok (.athrow, 1) := by decide +kernel
theorem dX4_cancel_16 : decode cX4_cancel 16 = .ok (.aload_n 0, 1) := by decide +kernel
theorem dX4_cancel_17 : decode cX4_cancel 17 = .ok (.getfield 21, 3) := by decide +kernel
theorem dX4_cancel_20 : decode cX4_cancel 20 = .ok (.iload_n 1, 1) := by decide +kernel
theorem dX4_cancel_21 : decode cX4_cancel 21 = .ok (.iload_n 2, 1) := by decide +kernel
theorem dX4_cancel_22 : decode cX4_cancel 22 = .ok (.invokevirtual 117, 3) := by decide +kernel
theorem dX4_cancel_25 : decode cX4_cancel 25 = .ok (.ifCond .ne 11, 3) := by decide +kernel
theorem dX4_cancel_28 : decode cX4_cancel 28 = .ok (.new 57, 3) := by decide +kernel
theorem dX4_cancel_31 : decode cX4_cancel 31 = .ok (.dup, 1) := by decide +kernel
theorem dX4_cancel_32 : decode cX4_cancel 32 = .ok (.invokespecial 59, 3) := by decide +kernel
theorem dX4_cancel_35 : decode cX4_cancel 35 = .ok (.athrow, 1) := by decide +kernel
theorem dX4_cancel_36 : decode cX4_cancel 36 = .ok (.aload_n 0, 1) := by decide +kernel
theorem dX4_cancel_37 : decode cX4_cancel 37 = .ok (.getfield 21, 3) := by decide +kernel
theorem dX4_cancel_40 : decode cX4_cancel 40 = .ok (.iload_n 1, 1) := by decide +kernel
theorem dX4_cancel_41 : decode cX4_cancel 41 = .ok (.iload_n 2, 1) := by decide +kernel
theorem dX4_cancel_42 : decode cX4_cancel 42 = .ok (.invokevirtual 120, 3) := by decide +kernel
theorem dX4_cancel_45 : decode cX4_cancel 45 = .ok (.ifCond .eq 13, 3) := by decide +kernel
theorem dX4_cancel_48 : decode cX4_cancel 48 = .ok (.aload_n 0, 1) := by decide +kernel
theorem dX4_cancel_49 : decode cX4_cancel 49 = .ok (.getfield 21, 3) := by decide +kernel
theorem dX4_cancel_52 : decode cX4_cancel 52 = .ok (.invokevirtual 89, 3) := by decide +kernel
theorem dX4_cancel_55 : decode cX4_cancel 55 = .ok (.ifCond .eq 11, 3) := by decide +kernel
theorem dX4_cancel_58 : decode cX4_cancel 58 = .ok (.new 47, 3) := by decide +kernel
theorem dX4_cancel_61 : decode cX4_cancel 61 = .ok (.dup, 1) := by decide +kernel
theorem dX4_cancel_62 : decode cX4_cancel 62 = .ok (.invokespecial 49, 3) := by decide +kernel
theorem dX4_cancel_65 : decode cX4_cancel 65 = .ok (.athrow, 1) := by decide +kernel
theorem dX4_cancel_66 : decode cX4_cancel 66 = .ok (.aload_n 0, 1) := by decide +kernel
theorem dX4_cancel_67 : decode cX4_cancel 67 = .ok (.iload_n 1, 1) := by decide +kernel
theorem dX4_cancel_68 : decode cX4_cancel 68 = .ok (.iload_n 2, 1) := by decide +kernel
theorem dX4_cancel_69 : decode cX4_cancel 69 = .ok (.iconst 3, 1) := by decide +kernel
theorem dX4_cancel_70 : decode cX4_cancel 70 = .ok (.iconst 0, 1) := by decide +kernel
theorem dX4_cancel_71 : decode cX4_cancel 71 = .ok (.iload_n 3, 1) := by decide +kernel
theorem dX4_cancel_72 : decode cX4_cancel 72 = .ok (.invokevirtual 123, 3) := by decide +kernel
theorem dX4_cancel_75 : decode cX4_cancel 75 = .ok (.ireturn, 1) := by decide +kernel
set_option maxRecDepth 20000 in
theorem ggX4_reinstate_X4_isPolicy : GoodIn wsX4_reinstate wsX4_isPolicy := goodIn_r _ [12, 7, 13, 14, 11, 15, 118, 119, 120, 121, 122, 123, 124, 125, 126, 127, 128, 129, 130, 131, 132, 133] (by decide +kernel) (by decide +kernel)
