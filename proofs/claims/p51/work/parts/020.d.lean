theorem dX0_degreeOf_0 : decode cX0_degreeOf 0 = .ok (.lload_n 0, 1) := by decide +kernel
theorem dX0_degreeOf_1 : decode cX0_degreeOf 1 = .ok (.lstore_n 2, 1) := by decide +kernel
theorem dX0_degreeOf_2 : decode cX0_degreeOf 2 = .ok (.lload_n 2, 1) := by decide +kernel
theorem dX0_degreeOf_3 : decode cX0_degreeOf 3 = .ok (.lload_n 2, 1) := by decide +kernel
theorem dX0_degreeOf_4 : decode cX0_degreeOf 4 = .ok (.iconst 1, 1) := by decide +kernel
theorem dX0_degreeOf_5 : decode cX0_degreeOf 5 = .ok (.lushr, 1) := by decide +kernel
theorem dX0_degreeOf_6 : decode cX0_degreeOf 6 = .ok (.lor, 1) := by decide +kernel
theorem dX0_degreeOf_7 : decode cX0_degreeOf 7 = .ok (.lstore_n 2, 1) := by decide +kernel
theorem dX0_degreeOf_8 : decode cX0_degreeOf 8 = .ok (.lload_n 2, 1) := by decide +kernel
theorem dX0_degreeOf_9 : decode cX0_degreeOf 9 = .ok (.lload_n 2, 1) := by decide +kernel
theorem dX0_degreeOf_10 : decode cX0_degreeOf 10 = .ok (.iconst 2, 1) := by decide +kernel
theorem dX0_degreeOf_11 : decode cX0_degreeOf 11 = .ok (.lushr, 1) := by decide +kernel
theorem dX0_degreeOf_12 : decode cX0_degreeOf 12 = .ok (.lor, 1) := by decide +kernel
theorem dX0_degreeOf_13 : decode cX0_degreeOf 13 = .ok (.lstore_n 2, 1) := by decide +kernel
theorem dX0_degreeOf_14 : decode cX0_degreeOf 14 = .ok (.lload_n 2, 1) := by decide +kernel
theorem dX0_degreeOf_15 : decode cX0_degreeOf 15 = .ok (.lload_n 2, 1) := by decide +kernel
theorem dX0_degreeOf_16 : decode cX0_degreeOf 16 = .ok (.iconst 4, 1) := by decide +kernel
theorem dX0_degreeOf_17 : decode cX0_degreeOf 17 = .ok (.lushr, 1) := by decide +kernel
theorem dX0_degreeOf_18 : decode cX0_degreeOf 18 = .ok (.lor, 1) := by decide +kernel
theorem dX0_degreeOf_19 : decode cX0_degreeOf 19 = .ok (.lstore_n 2, 1) := by decide +kernel
theorem dX0_degreeOf_20 : decode cX0_degreeOf 20 = .ok (.lload_n 2, 1) := by decide +kernel
theorem dX0_degreeOf_21 : decode cX0_degreeOf 21 = .ok (.lload_n 2, 1) := by decide +kernel
theorem dX0_degreeOf_22 : decode cX0_degreeOf 22 = .ok (.bipush 8, 2) := by decide +kernel
theorem dX0_degreeOf_24 : decode cX0_degreeOf 24 = .ok (.lushr, 1) := by decide +kernel
theorem dX0_degreeOf_25 : decode cX0_degreeOf 25 = .ok (.lor, 1) := by decide +kernel
theorem dX0_degreeOf_26 : decode cX0_degreeOf 26 = .ok (.lstore_n 2, 1) := by decide +kernel
theorem dX0_degreeOf_27 : decode cX0_degreeOf 27 = .ok (.lload_n 2, 1) := by decide +kernel
theorem dX0_degreeOf_28 : decode cX0_degreeOf 28 = .ok (.lload_n 2, 1) := by decide +kernel
theorem dX0_degreeOf_29 : decode cX0_degreeOf 29 = .ok (.bipush 16, 2) := by decide +kernel
theorem dX0_degreeOf_31 : decode cX0_degreeOf 31 = .ok (.lushr, 1) := by decide +kernel
theorem dX0_degreeOf_32 : decode cX0_degreeOf 32 = .ok (.lor, 1) := by decide +kernel
theorem dX0_degreeOf_33 : decode cX0_degreeOf 33 = .ok (.lstore_n 2, 1) := by decide +kernel
theorem dX0_degreeOf_34 : decode cX0_degreeOf 34 = .ok (.lload_n 2, 1) := by decide +kernel
theorem dX0_degreeOf_35 : decode cX0_degreeOf 35 = .ok (.lload_n 2, 1) := by decide +kernel
theorem dX0_degreeOf_36 : decode cX0_degreeOf 36 = .ok (.bipush 32, 2) := by decide +kernel
theorem dX0_degreeOf_38 : decode cX0_degreeOf 38 = .ok (.lushr, 1) := by decide +kernel
theorem dX0_degreeOf_39 : decode cX0_degreeOf 39 = .ok (.lor, 1) := by decide +kernel
theorem dX0_degreeOf_40 : decode cX0_degreeOf 40 = .ok (.lstore_n 2, 1) := by decide +kernel
theorem dX0_degreeOf_41 : decode cX0_degreeOf 41 = .ok (.lload_n 2, 1) := by decide +kernel
theorem dX0_degreeOf_42 : decode cX0_degreeOf 42 = .ok (.invokestatic 9, 3) := by decide +kernel
theorem dX0_degreeOf_45 : decode cX0_degreeOf 45 = .ok (.iconst 1, 1) := by decide +kernel
theorem dX0_degreeOf_46 : decode cX0_degreeOf 46 = .ok (.isub, 1) := by decide +kernel
theorem dX0_degreeOf_47 : decode cX0_degreeOf 47 = .ok (.ireturn, 1) := by decide +kernel
theorem dX0_onesOf_0 : decode cX0_onesOf 0 = .ok (.lload_n 0, 1) := by decide +kernel
theorem dX0_onesOf_1 : decode cX0_onesOf 1 = .ok (.invokestatic 9, 3) := by decide +kernel
theorem dX0_onesOf_4 : decode cX0_onesOf 4 = .ok (.ireturn, 1) := by decide +kernel
theorem dX0_lowestOf_0 : decode cX0_lowestOf 0 = .ok (.lload_n 0, 1) := by decide +kernel
theorem dX0_lowestOf_1 : decode cX0_lowestOf 1 = .ok (.lconst 0, 1) := by decide +kernel
theorem dX0_lowestOf_2 : decode cX0_lowestOf 2 = .ok (.lcmp, 1) := by decide +kernel
theorem dX0_lowestOf_3 : decode cX0_lowestOf 3 = .ok (.ifCond .ne 7, 3) := by decide +kernel
theorem dX0_lowestOf_6 : decode cX0_lowestOf 6 = .ok (.iconst (-1), 1) := by decide +kernel
theorem dX0_lowestOf_7 : decode cX0_lowestOf 7 = .ok (.goto 10, 3) := by decide +kernel
theorem dX0_lowestOf_10 : decode cX0_lowestOf 10 = .ok (.lload_n 0, 1) := by decide +kernel
theorem dX0_lowestOf_11 : decode cX0_lowestOf 11 = .ok (.lload_n 0, 1) := by decide +kernel
theorem dX0_lowestOf_12 : decode cX0_lowestOf 12 = .ok (.lneg, 1) := by decide +kernel
theorem dX0_lowestOf_13 : decode cX0_lowestOf 13 = .ok (.land, 1) := by decide +kernel
theorem dX0_lowestOf_14 : decode cX0_lowestOf 14 = .ok (.invokestatic 15, 3) := by decide +kernel
theorem dX0_lowestOf_17 : decode cX0_lowestOf 17 = .ok (.ireturn, 1) := by decide +kernel
theorem dX0_hasOne_0 : decode cX0_hasOne 0 = .ok (.lload_n 0, 1) := by decide +kernel
theorem dX0_hasOne_1 : decode cX0_hasOne 1 = .ok (.iload_n 2, 1) := by decide +kernel
theorem dX0_hasOne_2 : decode cX0_hasOne 2 = .ok (.lshr, 1) := by decide +kernel
theorem dX0_hasOne_3 : decode cX0_hasOne 3 = .ok (.lconst 1, 1) := by decide +kernel
theorem dX0_hasOne_4 : decode cX0_hasOne 4 = .ok (.land, 1) := by decide +kernel
theorem dX0_hasOne_5 : decode cX0_hasOne 5 = .ok (.lconst 1, 1) := by decide +kernel
theorem dX0_hasOne_6 : decode cX0_hasOne 6 = .ok (.lcmp, 1) := by decide +kernel
theorem dX0_hasOne_7 : decode cX0_hasOne 7 = .ok (.ifCond .ne 7, 3) := by decide +kernel
theorem dX0_hasOne_10 : decode cX0_hasOne 10 = .ok (.iconst 1, 1) := by decide +kernel
theorem dX0_hasOne_11 : decode cX0_hasOne 11 = .ok (.goto 4, 3) := by decide +kernel
theorem dX0_hasOne_14 : decode cX0_hasOne 14 = .ok (.iconst 0, 1) := by decide +kernel
theorem dX0_hasOne_15 : decode cX0_hasOne 15 = .ok (.ireturn, 1) := by decide +kernel
theorem dX0_turned_0 : decode cX0_turned 0 = .ok (.lconst 0, 1) := by decide +kernel
theorem dX0_turned_1 : decode cX0_turned 1 = .ok (.lstore_n 2, 1) := by decide +kernel
theorem dX0_turned_2 : decode cX0_turned 2 = .ok (.lload_n 0, 1) := by decide +kernel
theorem dX0_turned_3 : decode cX0_turned 3 = .ok (.invokestatic 15, 3) := by decide +kernel
theorem dX0_turned_6 : decode cX0_turned 6 = .ok (.istore 4, 2) := by decide +kernel
theorem dX0_turned_8 : decode cX0_turned 8 = .ok (.iconst 0, 1) := by decide +kernel
theorem dX0_turned_9 : decode cX0_turned 9 = .ok (.istore 5, 2) := by decide +kernel
theorem dX0_turned_11 : decode cX0_turned 11 = .ok (.iload 5, 2) := by decide +kernel
theorem dX0_turned_13 : decode cX0_turned 13 = .ok (.iload 4, 2) := by decide +kernel
theorem dX0_turned_15 : decode cX0_turned 15 = .ok (.if_icmp .gt 20, 3) := by decide +kernel
theorem dX0_turned_18 : decode cX0_turned 18 = .ok (.lload_n 2, 1) := by decide +kernel
theorem dX0_turned_19 : decode cX0_turned 19 = .ok (.iconst 1, 1) := by decide +kernel
theorem dX0_turned_20 : decode cX0_turned 20 = .ok (.lshl, 1) := by decide +kernel
theorem dX0_turned_21 : decode cX0_turned 21 = .ok (.lload_n 0, 1) := by decide +kernel
theorem dX0_turned_22 : decode cX0_turned 22 = .ok (.iload 5, 2) := by decide +kernel
theorem dX0_turned_24 : decode cX0_turned 24 = .ok (.lshr, 1) := by decide +kernel
theorem dX0_turned_25 : decode cX0_turned 25 = .ok (.lconst 1, 1) := by decide +kernel
theorem dX0_turned_26 : decode cX0_turned 26 = .ok (.land, 1) := by decide +kernel
theorem dX0_turned_27 : decode cX0_turned 27 = .ok (.lor, 1) := by decide +kernel
theorem dX0_turned_28 : decode cX0_turned 28 = .ok (.lstore_n 2, 1) := by decide +kernel
theorem dX0_turned_29 : decode cX0_turned 29 = .ok (.iinc 5 1, 3) := by decide +kernel
theorem dX0_turned_32 : decode cX0_turned 32 = .ok (.goto (-21), 3) := by decide +kernel
theorem dX0_turned_35 : decode cX0_turned 35 = .ok (.lload_n 2, 1) := by decide +kernel
theorem dX0_turned_36 : decode cX0_turned 36 = .ok (.lreturn, 1) := by decide +kernel
theorem dX0_haveProduct_0 : decode cX0_haveProduct 0 = .ok (.lload_n 0, 1) := by decide +kernel
theorem dX0_haveProduct_1 : decode cX0_haveProduct 1 = .ok (.lconst 0, 1) := by decide +kernel
theorem dX0_haveProduct_2 : decode cX0_haveProduct 2 = .ok (.lcmp, 1) := by decide +kernel
theorem dX0_haveProduct_3 : decode cX0_haveProduct 3 = .ok (.ifCond .eq 23, 3) := by decide +kernel
theorem dX0_haveProduct_6 : decode cX0_haveProduct 6 = .ok (.lload_n 2, 1) := by decide +kernel
theorem dX0_haveProduct_7 : decode cX0_haveProduct 7 = .ok (.lconst 0, 1) := by decide +kernel
theorem dX0_haveProduct_8 : decode cX0_haveProduct 8 = .ok (.lcmp, 1) := by decide +kernel
theorem dX0_haveProduct_9 : decode cX0_haveProduct 9 = .ok (.ifCond .eq 17, 3) := by decide +kernel
theorem dX0_haveProduct_12 : decode cX0_haveProduct 12 = .ok (.lload_n 0, 1) := by decide +kernel
theorem dX0_haveProduct_13 : decode cX0_haveProduct 13 = .ok (.invokestatic 15, 3) := by decide +kernel
theorem dX0_haveProduct_16 : decode cX0_haveProduct 16 = .ok (.lload_n 2, 1) := by decide +kernel
theorem dX0_haveProduct_17 : decode cX0_haveProduct 17 = .ok (.invokestatic 15, 3) := by decide +kernel
theorem dX0_haveProduct_20 : decode cX0_haveProduct 20 = .ok (.iadd, 1) := by decide +kernel
theorem dX0_haveProduct_21 : decode cX0_haveProduct 21 = .ok (.bipush 39, 2) := by decide +kernel
theorem dX0_haveProduct_23 : decode cX0_haveProduct 23 = .ok (.if_icmp .gt 7, 3) := by decide +kernel
theorem dX0_haveProduct_26 : decode cX0_haveProduct 26 = .ok (.iconst 1, 1) := by decide +kernel
theorem dX0_haveProduct_27 : decode cX0_haveProduct 27 = .ok (.goto 4, 3) := by decide +kernel
theorem dX0_haveProduct_30 : decode cX0_haveProduct 30 = .ok (.iconst 0, 1) := by decide +kernel
theorem dX0_haveProduct_31 : decode cX0_haveProduct 31 = .ok (.ireturn, 1) := by decide +kernel
theorem dX0_multiplied_0 : decode cX0_multiplied 0 = .ok (.lconst 0, 1) := by decide +kernel
theorem dX0_multiplied_1 : decode cX0_multiplied 1 = .ok (.lstore 4, 2) := by decide +kernel
theorem dX0_multiplied_3 : decode cX0_multiplied 3 = .ok (.lload_n 2, 1) := by decide +kernel
theorem dX0_multiplied_4 : decode cX0_multiplied 4 = .ok (.invokestatic 15, 3) := by decide +kernel
theorem dX0_multiplied_7 : decode cX0_multiplied 7 = .ok (.istore 6, 2) := by decide +kernel
theorem dX0_multiplied_9 : decode cX0_multiplied 9 = .ok (.iload 6, 2) := by decide +kernel
theorem dX0_multiplied_11 : decode cX0_multiplied 11 = .ok (.ifCond .lt 27, 3) := by decide +kernel
theorem dX0_multiplied_14 : decode cX0_multiplied 14 = .ok (.lload_n 2, 1) := by decide +kernel
theorem dX0_multiplied_15 : decode cX0_multiplied 15 = .ok (.iload 6, 2) := by decide +kernel
theorem dX0_multiplied_17 : decode cX0_multiplied 17 = .ok (.invokestatic 20, 3) := by decide +kernel
theorem dX0_multiplied_20 : decode cX0_multiplied 20 = .ok (.ifCond .eq 12, 3) := by decide +kernel
theorem dX0_multiplied_23 : decode cX0_multiplied 23 = .ok (.lload 4, 2) := by decide +kernel
theorem dX0_multiplied_25 : decode cX0_multiplied 25 = .ok (.lload_n 0, 1) := by decide +kernel
theorem dX0_multiplied_26 : decode cX0_multiplied 26 = .ok (.iload 6, 2) := by decide +kernel
theorem dX0_multiplied_28 : decode cX0_multiplied 28 = .ok (.lshl, 1) := by decide +kernel
theorem dX0_multiplied_29 : decode cX0_multiplied 29 = .ok (.lxor, 1) := by decide +kernel
theorem dX0_multiplied_30 : decode cX0_multiplied 30 = .ok (.lstore 4, 2) := by decide +kernel
theorem dX0_multiplied_32 : decode cX0_multiplied 32 = .ok (.iinc 6 (-1), 3) := by decide +kernel
theorem dX0_multiplied_35 : decode cX0_multiplied 35 = .ok (.goto (-26), 3) := by decide +kernel
theorem dX0_multiplied_38 : decode cX0_multiplied 38 = .ok (.lload 4, 2) := by decide +kernel
theorem dX0_multiplied_40 : decode cX0_multiplied 40 = .ok (.lreturn, 1) := by decide +kernel
theorem dX0_squared_0 : decode cX0_squared 0 = .ok (.lconst 0, 1) := by decide +kernel
theorem dX0_squared_1 : decode cX0_squared 1 = .ok (.lstore_n 2, 1) := by decide +kernel
theorem dX0_squared_2 : decode cX0_squared 2 = .ok (.lload_n 0, 1) := by decide +kernel
theorem dX0_squared_3 : decode cX0_squared 3 = .ok (.invokestatic 15, 3) := by decide +kernel
theorem dX0_squared_6 : decode cX0_squared 6 = .ok (.istore 4, 2) := by decide +kernel
theorem dX0_squared_8 : decode cX0_squared 8 = .ok (.iload 4, 2) := by decide +kernel
theorem dX0_squared_10 : decode cX0_squared 10 = .ok (.ifCond .lt 20, 3) := by decide +kernel
theorem dX0_squared_13 : decode cX0_squared 13 = .ok (.lload_n 2, 1) := by decide +kernel
theorem dX0_squared_14 : decode cX0_squared 14 = .ok (.iconst 2, 1) := by decide +kernel
theorem dX0_squared_15 : decode cX0_squared 15 = .ok (.lshl, 1) := by decide +kernel
theorem dX0_squared_16 : decode cX0_squared 16 = .ok (.lload_n 0, 1) := by decide +kernel
theorem dX0_squared_17 : decode cX0_squared 17 = .ok (.iload 4, 2) := by decide +kernel
theorem dX0_squared_19 : decode cX0_squared 19 = .ok (.lshr, 1) := by decide +kernel
theorem dX0_squared_20 : decode cX0_squared 20 = .ok (.lconst 1, 1) := by decide +kernel
theorem dX0_squared_21 : decode cX0_squared 21 = .ok (.land, 1) := by decide +kernel
theorem dX0_squared_22 : decode cX0_squared 22 = .ok (.lor, 1) := by decide +kernel
theorem dX0_squared_23 : decode cX0_squared 23 = .ok (.lstore_n 2, 1) := by decide +kernel
theorem dX0_squared_24 : decode cX0_squared 24 = .ok (.iinc 4 (-1), 3) := by decide +kernel
theorem dX0_squared_27 : decode cX0_squared 27 = .ok (.goto (-19), 3) := by decide +kernel
theorem dX0_squared_30 : decode cX0_squared 30 = .ok (.lload_n 2, 1) := by decide +kernel
theorem dX0_squared_31 : decode cX0_squared 31 = .ok (.lreturn, 1) := by decide +kernel
theorem dX0_quotient_0 : decode cX0_quotient 0 = .ok (.lload_n 2, 1) := by decide +kernel
theorem dX0_quotient_1 : decode cX0_quotient 1 = .ok (.lconst 0, 1) := by decide +kernel
theorem dX0_quotient_2 : decode cX0_quotient 2 = .ok (.lcmp, 1) := by decide +kernel
theorem dX0_quotient_3 : decode cX0_quotient 3 = .ok (.ifCond .ne 5, 3) := by decide +kernel
theorem dX0_quotient_6 : decode cX0_quotient 6 = .ok (.lconst 0, 1) := by decide +kernel
theorem dX0_quotient_7 : decode cX0_quotient 7 = .ok (.lreturn, 1) := by decide +kernel
theorem dX0_quotient_8 : decode cX0_quotient 8 = .ok (.lload_n 2, 1) := by decide +kernel
theorem dX0_quotient_9 : decode cX0_quotient 9 = .ok (.invokestatic 15, 3) := by decide +kernel
theorem dX0_quotient_12 : decode cX0_quotient 12 = .ok (.istore 4, 2) := by decide +kernel
theorem dX0_quotient_14 : decode cX0_quotient 14 = .ok (.lload_n 0, 1) := by decide +kernel
theorem dX0_quotient_15 : decode cX0_quotient 15 = .ok (.lstore 5, 2) := by decide +kernel
theorem dX0_quotient_17 : decode cX0_quotient 17 = .ok (.lconst 0, 1) := by decide +kernel
theorem dX0_quotient_18 : decode cX0_quotient 18 = .ok (.lstore 7, 2) := by decide +kernel
theorem dX0_quotient_20 : decode cX0_quotient 20 = .ok (.lload_n 0, 1) := by decide +kernel
theorem dX0_quotient_21 : decode cX0_quotient 21 = .ok (.invokestatic 15, 3) := by decide +kernel
theorem dX0_quotient_24 : decode cX0_quotient 24 = .ok (.iload 4, 2) := by decide +kernel
theorem dX0_quotient_26 : decode cX0_quotient 26 = .ok (.isub, 1) := by decide +kernel
theorem dX0_quotient_27 : decode cX0_quotient 27 = .ok (.istore 9, 2) := by decide +kernel
theorem dX0_quotient_29 : decode cX0_quotient 29 = .ok (.iload 9, 2) := by decide +kernel
theorem dX0_quotient_31 : decode cX0_quotient 31 = .ok (.ifCond .lt 40, 3) := by decide +kernel
theorem dX0_quotient_34 : decode cX0_quotient 34 = .ok (.lload 5, 2) := by decide +kernel
theorem dX0_quotient_36 : decode cX0_quotient 36 = .ok (.iload 9, 2) := by decide +kernel
theorem dX0_quotient_38 : decode cX0_quotient 38 = .ok (.iload 4, 2) := by decide +kernel
theorem dX0_quotient_40 : decode cX0_quotient 40 = .ok (.iadd, 1) := by decide +kernel
theorem dX0_quotient_41 : decode cX0_quotient 41 = .ok (.invokestatic 20, 3) := by decide +kernel
theorem dX0_quotient_44 : decode cX0_quotient 44 = .ok (.ifCond .eq 21, 3) := by decide +kernel
theorem dX0_quotient_47 : decode cX0_quotient 47 = .ok (.lload 5, 2) := by decide +kernel
theorem dX0_quotient_49 : decode cX0_quotient 49 = .ok (.lload_n 2, 1) := by decide +kernel
theorem dX0_quotient_50 : decode cX0_quotient 50 = .ok (.iload 9, 2) := by decide +kernel
theorem dX0_quotient_52 : decode cX0_quotient 52 = .ok (.lshl, 1) := by decide +kernel
theorem dX0_quotient_53 : decode cX0_quotient 53 = .ok (.lxor, 1) := by decide +kernel
theorem dX0_quotient_54 : decode cX0_quotient 54 = .ok (.lstore 5, 2) := by decide +kernel
theorem dX0_quotient_56 : decode cX0_quotient 56 = .ok (.lload 7, 2) := by decide +kernel
theorem dX0_quotient_58 : decode cX0_quotient 58 = .ok (.lconst 1, 1) := by decide +kernel
theorem dX0_quotient_59 : decode cX0_quotient 59 = .ok (.iload 9, 2) := by decide +kernel
theorem dX0_quotient_61 : decode cX0_quotient 61 = .ok (.lshl, 1) := by decide +kernel
theorem dX0_quotient_62 : decode cX0_quotient 62 = .ok (.lor, 1) := by decide +kernel
theorem dX0_quotient_63 : decode cX0_quotient 63 = .ok (.lstore 7, 2) := by decide +kernel
theorem dX0_quotient_65 : decode cX0_quotient 65 = .ok (.iinc 9 (-1), 3) := by decide +kernel
theorem dX0_quotient_68 : decode cX0_quotient 68 = .ok (.goto (-39), 3) := by decide +kernel
theorem dX0_quotient_71 : decode cX0_quotient 71 = .ok (.lload 7, 2) := by decide +kernel
theorem dX0_quotient_73 : decode cX0_quotient 73 = .ok (.lreturn, 1) := by decide +kernel
theorem dX0_rest_0 : decode cX0_rest 0 = .ok (.lload_n 2, 1) := by decide +kernel
theorem dX0_rest_1 : decode cX0_rest 1 = .ok (.lconst 0, 1) := by decide +kernel
theorem dX0_rest_2 : decode cX0_rest 2 = .ok (.lcmp, 1) := by decide +kernel
theorem dX0_rest_3 : decode cX0_rest 3 = .ok (.ifCond .ne 5, 3) := by decide +kernel
theorem dX0_rest_6 : decode cX0_rest 6 = .ok (.lload_n 0, 1) := by decide +kernel
theorem dX0_rest_7 : decode cX0_rest 7 = .ok (.lreturn, 1) := by decide +kernel
theorem dX0_rest_8 : decode cX0_rest 8 = .ok (.lload_n 2, 1) := by decide +kernel
theorem dX0_rest_9 : decode cX0_rest 9 = .ok (.invokestatic 15, 3) := by decide +kernel
theorem dX0_rest_12 : decode cX0_rest 12 = .ok (.istore 4, 2) := by decide +kernel
theorem dX0_rest_14 : decode cX0_rest 14 = .ok (.lload_n 0, 1) := by decide +kernel
theorem dX0_rest_15 : decode cX0_rest 15 = .ok (.lstore 5, 2) := by decide +kernel
theorem dX0_rest_17 : decode cX0_rest 17 = .ok (.lload_n 0, 1) := by decide +kernel
theorem dX0_rest_18 : decode cX0_rest 18 = .ok (.invokestatic 15, 3) := by decide +kernel
theorem dX0_rest_21 : decode cX0_rest 21 = .ok (.iload 4, 2) := by decide +kernel
theorem dX0_rest_23 : decode cX0_rest 23 = .ok (.isub, 1) := by decide +kernel
theorem dX0_rest_24 : decode cX0_rest 24 = .ok (.istore 7, 2) := by decide +kernel
theorem dX0_rest_26 : decode cX0_rest 26 = .ok (.iload 7, 2) := by decide +kernel
theorem dX0_rest_28 : decode cX0_rest 28 = .ok (.ifCond .lt 31, 3) := by decide +kernel
theorem dX0_rest_31 : decode cX0_rest 31 = .ok (.lload 5, 2) := by decide +kernel
theorem dX0_rest_33 : decode cX0_rest 33 = .ok (.iload 7, 2) := by decide +kernel
theorem dX0_rest_35 : decode cX0_rest 35 = .ok (.iload 4, 2) := by decide +kernel
theorem dX0_rest_37 : decode cX0_rest 37 = .ok (.iadd, 1) := by decide +kernel
theorem dX0_rest_38 : decode cX0_rest 38 = .ok (.invokestatic 20, 3) := by decide +kernel
theorem dX0_rest_41 : decode cX0_rest 41 = .ok (.ifCond .eq 12, 3) := by decide +kernel
theorem dX0_rest_44 : decode cX0_rest 44 = .ok (.lload 5, 2) := by decide +kernel
theorem dX0_rest_46 : decode cX0_rest 46 = .ok (.lload_n 2, 1) := by decide +kernel
theorem dX0_rest_47 : decode cX0_rest 47 = .ok (.iload 7, 2) := by decide +kernel
theorem dX0_rest_49 : decode cX0_rest 49 = .ok (.lshl, 1) := by decide +kernel
theorem dX0_rest_50 : decode cX0_rest 50 = .ok (.lxor, 1) := by decide +kernel
theorem dX0_rest_51 : decode cX0_rest 51 = .ok (.lstore 5, 2) := by decide +kernel
theorem dX0_rest_53 : decode cX0_rest 53 = .ok (.iinc 7 (-1), 3) := by decide +kernel
theorem dX0_rest_56 : decode cX0_rest 56 = .ok (.goto (-30), 3) := by decide +kernel
theorem dX0_rest_59 : decode cX0_rest 59 = .ok (.lload 5, 2) := by decide +kernel
theorem dX0_rest_61 : decode cX0_rest 61 = .ok (.lreturn, 1) := by decide +kernel
theorem dX0_goesInto_0 : decode cX0_goesInto 0 = .ok (.lload_n 2, 1) := by decide +kernel
theorem dX0_goesInto_1 : decode cX0_goesInto 1 = .ok (.lload_n 0, 1) := by decide +kernel
theorem dX0_goesInto_2 : decode cX0_goesInto 2 = .ok (.invokestatic 24, 3) := by decide +kernel
theorem dX0_goesInto_5 : decode cX0_goesInto 5 = .ok (.lconst 0, 1) := by decide +kernel
theorem dX0_goesInto_6 : decode cX0_goesInto 6 = .ok (.lcmp, 1) := by decide +kernel
theorem dX0_goesInto_7 : decode cX0_goesInto 7 = .ok (.ifCond .ne 7, 3) := by decide +kernel
theorem dX0_goesInto_10 : decode cX0_goesInto 10 = .ok (.iconst 1, 1) := by decide +kernel
theorem dX0_goesInto_11 : decode cX0_goesInto 11 = .ok (.goto 4, 3) := by decide +kernel
theorem dX0_goesInto_14 : decode cX0_goesInto 14 = .ok (.iconst 0, 1) := by decide +kernel
theorem dX0_goesInto_15 : decode cX0_goesInto 15 = .ok (.ireturn, 1) := by decide +kernel
theorem dX0_greatestBoth_0 : decode cX0_greatestBoth 0 = .ok (.lload_n 0, 1) := by decide +kernel
theorem dX0_greatestBoth_1 : decode cX0_greatestBoth 1 = .ok (.lstore 4, 2) := by decide +kernel
theorem dX0_greatestBoth_3 : decode cX0_greatestBoth 3 = .ok (.lload_n 2, 1) := by decide +kernel
theorem dX0_greatestBoth_4 : decode cX0_greatestBoth 4 = .ok (.lstore 6, 2) := by decide +kernel
theorem dX0_greatestBoth_6 : decode cX0_greatestBoth 6 = .ok (.iconst 0, 1) := by decide +kernel
theorem dX0_greatestBoth_7 : decode cX0_greatestBoth 7 = .ok (.istore 8, 2) := by decide +kernel
theorem dX0_greatestBoth_9 : decode cX0_greatestBoth 9 = .ok (.iload 8, 2) := by decide +kernel
theorem dX0_greatestBoth_11 : decode cX0_greatestBoth 11 = .ok (.sipush 1000, 3) := by decide +kernel
theorem dX0_greatestBoth_14 : decode cX0_greatestBoth 14 = .ok (.if_icmp .ge 33, 3) := by decide +kernel
theorem dX0_greatestBoth_17 : decode cX0_greatestBoth 17 = .ok (.lload 6, 2) := by decide +kernel
theorem dX0_greatestBoth_19 : decode cX0_greatestBoth 19 = .ok (.lconst 0, 1) := by decide +kernel
theorem dX0_greatestBoth_20 : decode cX0_greatestBoth 20 = .ok (.lcmp, 1) := by decide +kernel
theorem dX0_greatestBoth_21 : decode cX0_greatestBoth 21 = .ok (.ifCond .eq 26, 3) := by decide +kernel
theorem dX0_greatestBoth_24 : decode cX0_greatestBoth 24 = .ok (.lload 4, 2) := by decide +kernel
theorem dX0_greatestBoth_26 : decode cX0_greatestBoth 26 = .ok (.lload 6, 2) := by decide +kernel
theorem dX0_greatestBoth_28 : decode cX0_greatestBoth 28 = .ok (.invokestatic 24, 3) := by decide +kernel
theorem dX0_greatestBoth_31 : decode cX0_greatestBoth 31 = .ok (.lstore 9, 2) := by decide +kernel
theorem dX0_greatestBoth_33 : decode cX0_greatestBoth 33 = .ok (.lload 6, 2) := by decide +kernel
theorem dX0_greatestBoth_35 : decode cX0_greatestBoth 35 = .ok (.lstore 4, 2) := by decide +kernel
theorem dX0_greatestBoth_37 : decode cX0_greatestBoth 37 = .ok (.lload 9, 2) := by decide +kernel
theorem dX0_greatestBoth_39 : decode cX0_greatestBoth 39 = .ok (.lstore 6, 2) := by decide +kernel
theorem dX0_greatestBoth_41 : decode cX0_greatestBoth 41 = .ok (.iinc 8 1, 3) := by decide +kernel
theorem dX0_greatestBoth_44 : decode cX0_greatestBoth 44 = .ok (.goto (-35), 3) := by decide +kernel
theorem dX0_greatestBoth_47 : decode cX0_greatestBoth 47 = .ok (.lload 4, 2) := by decide +kernel
theorem dX0_greatestBoth_49 : decode cX0_greatestBoth 49 = .ok (.lreturn, 1) := by decide +kernel
theorem dX0_risenRest_0 : decode cX0_risenRest 0 = .ok (.ldc2_w 28, 3) := by decide +kernel
theorem dX0_risenRest_3 : decode cX0_risenRest 3 = .ok (.lload_n 1, 1) := by decide +kernel
theorem dX0_risenRest_4 : decode cX0_risenRest 4 = .ok (.invokestatic 24, 3) := by decide +kernel
theorem dX0_risenRest_7 : decode cX0_risenRest 7 = .ok (.lstore_n 3, 1) := by decide +kernel
theorem dX0_risenRest_8 : decode cX0_risenRest 8 = .ok (.iconst 0, 1) := by decide +kernel
theorem dX0_risenRest_9 : decode cX0_risenRest 9 = .ok (.istore 5, 2) := by decide +kernel
theorem dX0_risenRest_11 : decode cX0_risenRest 11 = .ok (.iload 5, 2) := by decide +kernel
theorem dX0_risenRest_13 : decode cX0_risenRest 13 = .ok (.iload_n 0, 1) := by decide +kernel
theorem dX0_risenRest_14 : decode cX0_risenRest 14 = .ok (.if_icmp .ge 18, 3) := by decide +kernel
theorem dX0_risenRest_17 : decode cX0_risenRest 17 = .ok (.lload_n 3, 1) := by decide +kernel
theorem dX0_risenRest_18 : decode cX0_risenRest 18 = .ok (.invokestatic 30, 3) := by decide +kernel
theorem dX0_risenRest_21 : decode cX0_risenRest 21 = .ok (.lload_n 1, 1) := by decide +kernel
theorem dX0_risenRest_22 : decode cX0_risenRest 22 = .ok (.invokestatic 24, 3) := by decide +kernel
theorem dX0_risenRest_25 : decode cX0_risenRest 25 = .ok (.lstore_n 3, 1) := by decide +kernel
theorem dX0_risenRest_26 : decode cX0_risenRest 26 = .ok (.iinc 5 1, 3) := by decide +kernel
theorem dX0_risenRest_29 : decode cX0_risenRest 29 = .ok (.goto (-18), 3) := by decide +kernel
theorem dX0_risenRest_32 : decode cX0_risenRest 32 = .ok (.lload_n 3, 1) := by decide +kernel
theorem dX0_risenRest_33 : decode cX0_risenRest 33 = .ok (.lreturn, 1) := by decide +kernel
theorem dX0_powerRest_0 : decode cX0_powerRest 0 = .ok (.lload_n 0, 1) := by decide +kernel
theorem dX0_powerRest_1 : decode cX0_powerRest 1 = .ok (.lload_n 3, 1) := by decide +kernel
theorem dX0_powerRest_2 : decode cX0_powerRest 2 = .ok (.invokestatic 24, 3) := by decide +kernel
theorem dX0_powerRest_5 : decode cX0_powerRest 5 = .ok (.lstore 5, 2) := by decide +kernel
theorem dX0_powerRest_7 : decode cX0_powerRest 7 = .ok (.lconst 1, 1) := by decide +kernel
theorem dX0_powerRest_8 : decode cX0_powerRest 8 = .ok (.lload_n 3, 1) := by decide +kernel
theorem dX0_powerRest_9 : decode cX0_powerRest 9 = .ok (.invokestatic 24, 3) := by decide +kernel
theorem dX0_powerRest_12 : decode cX0_powerRest 12 = .ok (.lstore 7, 2) := by decide +kernel
theorem dX0_powerRest_14 : decode cX0_powerRest 14 = .ok (.bipush 7, 2) := by decide +kernel
theorem dX0_powerRest_16 : decode cX0_powerRest 16 = .ok (.istore 9, 2) := by decide +kernel
theorem dX0_powerRest_18 : decode cX0_powerRest 18 = .ok (.iload 9, 2) := by decide +kernel
theorem dX0_powerRest_20 : decode cX0_powerRest 20 = .ok (.ifCond .lt 43, 3) := by decide +kernel
theorem dX0_powerRest_23 : decode cX0_powerRest 23 = .ok (.lload 7, 2) := by decide +kernel
theorem dX0_powerRest_25 : decode cX0_powerRest 25 = .ok (.invokestatic 30, 3) := by decide +kernel
theorem dX0_powerRest_28 : decode cX0_powerRest 28 = .ok (.lload_n 3, 1) := by decide +kernel
theorem dX0_powerRest_29 : decode cX0_powerRest 29 = .ok (.invokestatic 24, 3) := by decide +kernel
theorem dX0_powerRest_32 : decode cX0_powerRest 32 = .ok (.lstore 7, 2) := by decide +kernel
theorem dX0_powerRest_34 : decode cX0_powerRest 34 = .ok (.iload_n 2, 1) := by decide +kernel
theorem dX0_powerRest_35 : decode cX0_powerRest 35 = .ok (.iload 9, 2) := by decide +kernel
theorem dX0_powerRest_37 : decode cX0_powerRest 37 = .ok (.ishr, 1) := by decide +kernel
theorem dX0_powerRest_38 : decode cX0_powerRest 38 = .ok (.iconst 1, 1) := by decide +kernel
theorem dX0_powerRest_39 : decode cX0_powerRest 39 = .ok (.iand, 1) := by decide +kernel
theorem dX0_powerRest_40 : decode cX0_powerRest 40 = .ok (.iconst 1, 1) := by decide +kernel
theorem dX0_powerRest_41 : decode cX0_powerRest 41 = .ok (.if_icmp .ne 16, 3) := by decide +kernel
theorem dX0_powerRest_44 : decode cX0_powerRest 44 = .ok (.lload 7, 2) := by decide +kernel
theorem dX0_powerRest_46 : decode cX0_powerRest 46 = .ok (.lload 5, 2) := by decide +kernel
theorem dX0_powerRest_48 : decode cX0_powerRest 48 = .ok (.invokestatic 34, 3) := by decide +kernel
theorem dX0_powerRest_51 : decode cX0_powerRest 51 = .ok (.lload_n 3, 1) := by decide +kernel
theorem dX0_powerRest_52 : decode cX0_powerRest 52 = .ok (.invokestatic 24, 3) := by decide +kernel
theorem dX0_powerRest_55 : decode cX0_powerRest 55 = .ok (.lstore 7, 2) := by decide +kernel
theorem dX0_powerRest_57 : decode cX0_powerRest 57 = .ok (.iinc 9 (-1), 3) := by decide +kernel
theorem dX0_powerRest_60 : decode cX0_powerRest 60 = .ok (.goto (-42), 3) := by decide +kernel
theorem dX0_powerRest_63 : decode cX0_powerRest 63 = .ok (.lload 7, 2) := by decide +kernel
theorem dX0_powerRest_65 : decode cX0_powerRest 65 = .ok (.lreturn, 1) := by decide +kernel
theorem dX0_trace_0 : decode cX0_trace 0 = .ok (.lconst 1, 1) := by decide +kernel
theorem dX0_trace_1 : decode cX0_trace 1 = .ok (.iload_n 0, 1) := by decide +kernel
theorem dX0_trace_2 : decode cX0_trace 2 = .ok (.lshl, 1) := by decide +kernel
theorem dX0_trace_3 : decode cX0_trace 3 = .ok (.lload_n 2, 1) := by decide +kernel
theorem dX0_trace_4 : decode cX0_trace 4 = .ok (.invokestatic 24, 3) := by decide +kernel
theorem dX0_trace_7 : decode cX0_trace 7 = .ok (.lstore 4, 2) := by decide +kernel
theorem dX0_trace_9 : decode cX0_trace 9 = .ok (.lload 4, 2) := by decide +kernel
theorem dX0_trace_11 : decode cX0_trace 11 = .ok (.lstore 6, 2) := by decide +kernel
theorem dX0_trace_13 : decode cX0_trace 13 = .ok (.iconst 1, 1) := by decide +kernel
theorem dX0_trace_14 : decode cX0_trace 14 = .ok (.istore 8, 2) := by decide +kernel
theorem dX0_trace_16 : decode cX0_trace 16 = .ok (.iload 8, 2) := by decide +kernel
theorem dX0_trace_18 : decode cX0_trace 18 = .ok (.iload_n 1, 1) := by decide +kernel
theorem dX0_trace_19 : decode cX0_trace 19 = .ok (.if_icmp .ge 27, 3) := by decide +kernel
theorem dX0_trace_22 : decode cX0_trace 22 = .ok (.lload 4, 2) := by decide +kernel
theorem dX0_trace_24 : decode cX0_trace 24 = .ok (.invokestatic 30, 3) := by decide +kernel
theorem dX0_trace_27 : decode cX0_trace 27 = .ok (.lload_n 2, 1) := by decide +kernel
theorem dX0_trace_28 : decode cX0_trace 28 = .ok (.invokestatic 24, 3) := by decide +kernel
theorem dX0_trace_31 : decode cX0_trace 31 = .ok (.lstore 4, 2) := by decide +kernel
theorem dX0_trace_33 : decode cX0_trace 33 = .ok (.lload 6, 2) := by decide +kernel
theorem dX0_trace_35 : decode cX0_trace 35 = .ok (.lload 4, 2) := by decide +kernel
theorem dX0_trace_37 : decode cX0_trace 37 = .ok (.lxor, 1) := by decide +kernel
theorem dX0_trace_38 : decode cX0_trace 38 = .ok (.lstore 6, 2) := by decide +kernel
theorem dX0_trace_40 : decode cX0_trace 40 = .ok (.iinc 8 1, 3) := by decide +kernel
theorem dX0_trace_43 : decode cX0_trace 43 = .ok (.goto (-27), 3) := by decide +kernel
theorem dX0_trace_46 : decode cX0_trace 46 = .ok (.lload 6, 2) := by decide +kernel
theorem dX0_trace_48 : decode cX0_trace 48 = .ok (.lreturn, 1) := by decide +kernel
theorem dX0_checkOf_0 : decode cX0_checkOf 0 = .ok (.lload_n 0, 1) := by decide +kernel
theorem dX0_checkOf_1 : decode cX0_checkOf 1 = .ok (.lload_n 2, 1) := by decide +kernel
theorem dX0_checkOf_2 : decode cX0_checkOf 2 = .ok (.invokestatic 15, 3) := by decide +kernel
theorem dX0_checkOf_5 : decode cX0_checkOf 5 = .ok (.lshl, 1) := by decide +kernel
theorem dX0_checkOf_6 : decode cX0_checkOf 6 = .ok (.lload_n 2, 1) := by decide +kernel
theorem dX0_checkOf_7 : decode cX0_checkOf 7 = .ok (.invokestatic 24, 3) := by decide +kernel
theorem dX0_checkOf_10 : decode cX0_checkOf 10 = .ok (.lreturn, 1) := by decide +kernel
theorem dX0_textOf_0 : decode cX0_textOf 0 = .ok (.new 37, 3) := by decide +kernel
theorem dX0_textOf_3 : decode cX0_textOf 3 = .ok (.dup, 1) := by decide +kernel
theorem dX0_textOf_4 : decode cX0_textOf 4 = .ok (.invokespecial 39, 3) := by decide +kernel
theorem dX0_textOf_7 : decode cX0_textOf 7 = .ok (.astore_n 2, 1) := by decide +kernel
theorem dX0_textOf_8 : decode cX0_textOf 8 = .ok (.lload_n 0, 1) := by decide +kernel
theorem dX0_textOf_9 : decode cX0_textOf 9 = .ok (.invokestatic 15, 3) := by decide +kernel
theorem dX0_textOf_12 : decode cX0_textOf 12 = .ok (.istore_n 3, 1) := by decide +kernel
theorem dX0_textOf_13 : decode cX0_textOf 13 = .ok (.iload_n 3, 1) := by decide +kernel
theorem dX0_textOf_14 : decode cX0_textOf 14 = .ok (.ifCond .lt 37, 3) := by decide +kernel
theorem dX0_textOf_17 : decode cX0_textOf 17 = .ok (.lload_n 0, 1) := by decide +kernel
theorem dX0_textOf_18 : decode cX0_textOf 18 = .ok (.iload_n 3, 1) := by decide +kernel
theorem dX0_textOf_19 : decode cX0_textOf 19 = .ok (.invokestatic 20, 3) := by decide +kernel
theorem dX0_textOf_22 : decode cX0_textOf 22 = .ok (.ifCond .eq 23, 3) := by decide +kernel
theorem dX0_textOf_25 : decode cX0_textOf 25 = .ok (.aload_n 2, 1) := by decide +kernel
theorem dX0_textOf_26 : decode cX0_textOf 26 = .ok (.invokevirtual 40, 3) := by decide +kernel
theorem dX0_textOf_29 : decode cX0_textOf 29 = .ok (.ifCond .le 10, 3) := by decide +kernel
theorem dX0_textOf_32 : decode cX0_textOf 32 = .ok (.aload_n 2, 1) := by decide +kernel
theorem dX0_textOf_33 : decode cX0_textOf 33 = .ok (.bipush 32, 2) := by decide +kernel
theorem dX0_textOf_35 : decode cX0_textOf 35 = .ok (.invokevirtual 44, 3) := by decide +kernel
theorem dX0_textOf_38 : decode cX0_textOf 38 = .ok (.pop, 1) := by decide +kernel
theorem dX0_textOf_39 : decode cX0_textOf 39 = .ok (.aload_n 2, 1) := by decide +kernel
theorem dX0_textOf_40 : decode cX0_textOf 40 = .ok (.iload_n 3, 1) := by decide +kernel
theorem dX0_textOf_41 : decode cX0_textOf 41 = .ok (.invokevirtual 48, 3) := by decide +kernel
theorem dX0_textOf_44 : decode cX0_textOf 44 = .ok (.pop, 1) := by decide +kernel
theorem dX0_textOf_45 : decode cX0_textOf 45 = .ok (.iinc 3 (-1), 3) := by decide +kernel
theorem dX0_textOf_48 : decode cX0_textOf 48 = .ok (.goto (-35), 3) := by decide +kernel
theorem dX0_textOf_51 : decode cX0_textOf 51 = .ok (.aload_n 2, 1) := by decide +kernel
theorem dX0_textOf_52 : decode cX0_textOf 52 = .ok (.invokevirtual 51, 3) := by decide +kernel
theorem dX0_textOf_55 : decode cX0_textOf 55 = .ok (.areturn, 1) := by decide +kernel
theorem dX1_init_0 : decode cX1_init 0 = .ok (.aload_n 0, 1) := by decide +kernel
theorem dX1_init_1 : decode cX1_init 1 = .ok (.invokespecial 3, 3) := by decide +kernel
theorem dX1_init_4 : decode cX1_init 4 = .ok (.aload_n 0, 1) := by decide +kernel
theorem dX1_init_5 : decode cX1_init 5 = .ok (.new 9, 3) := by decide +kernel
theorem dX1_init_8 : decode cX1_init 8 = .ok (.dup, 1) := by decide +kernel
theorem dX1_init_9 : decode cX1_init 9 = .ok (.invokespecial 11, 3) := by decide +kernel
theorem dX1_init_12 : decode cX1_init 12 = .ok (.putfield 12, 3) := by decide +kernel
theorem dX1_init_15 : decode cX1_init 15 = .ok (.return_, 1) := by decide +kernel
theorem dX1_findByTrying_0 : decode cX1_findByTrying 0 = .ok (.aload_n 3, 1) := by decide +kernel
theorem dX1_findByTrying_1 : decode cX1_findByTrying 1 = .ok (.invokevirtual 18, 3) := by decide +kernel
theorem dX1_findByTrying_4 : decode cX1_findByTrying 4 = .ok (.lload_n 1, 1) := by decide +kernel
theorem dX1_findByTrying_5 : decode cX1_findByTrying 5 = .ok (.lstore 4, 2) := by decide +kernel
theorem dX1_findByTrying_7 : decode cX1_findByTrying 7 = .ok (.ldc2_w 21, 3) := by decide +kernel
theorem dX1_findByTrying_10 : decode cX1_findByTrying 10 = .ok (.lstore 6, 2) := by decide +kernel
theorem dX1_findByTrying_12 : decode cX1_findByTrying 12 = .ok (.iconst 0, 1) := by decide +kernel
theorem dX1_findByTrying_13 : decode cX1_findByTrying 13 = .ok (.istore 8, 2) := by decide +kernel
theorem dX1_findByTrying_15 : decode cX1_findByTrying 15 = .ok (.iload 8, 2) := by decide +kernel
theorem dX1_findByTrying_17 : decode cX1_findByTrying 17 = .ok (.sipush 10000, 3) := by decide +kernel
theorem dX1_findByTrying_20 : decode cX1_findByTrying 20 = .ok (.if_icmp .ge 70, 3) := by decide +kernel
theorem dX1_findByTrying_23 : decode cX1_findByTrying 23 = .ok (.lload 4, 2) := by decide +kernel
theorem dX1_findByTrying_25 : decode cX1_findByTrying 25 = .ok (.invokestatic 23, 3) := by decide +kernel
theorem dX1_findByTrying_28 : decode cX1_findByTrying 28 = .ok (.ifCond .le 62, 3) := by decide +kernel
theorem dX1_findByTrying_31 : decode cX1_findByTrying 31 = .ok (.iconst 2, 1) := by decide +kernel
theorem dX1_findByTrying_32 : decode cX1_findByTrying 32 = .ok (.lload 6, 2) := by decide +kernel
theorem dX1_findByTrying_34 : decode cX1_findByTrying 34 = .ok (.invokestatic 23, 3) := by decide +kernel
theorem dX1_findByTrying_37 : decode cX1_findByTrying 37 = .ok (.imul, 1) := by decide +kernel
theorem dX1_findByTrying_38 : decode cX1_findByTrying 38 = .ok (.lload 4, 2) := by decide +kernel
theorem dX1_findByTrying_40 : decode cX1_findByTrying 40 = .ok (.invokestatic 23, 3) := by decide +kernel
theorem dX1_findByTrying_43 : decode cX1_findByTrying 43 = .ok (.if_icmp .le 7, 3) := by decide +kernel
theorem dX1_findByTrying_46 : decode cX1_findByTrying 46 = .ok (.lload 4, 2) := by decide +kernel
theorem dX1_findByTrying_48 : decode cX1_findByTrying 48 = .ok (.lstore 6, 2) := by decide +kernel
theorem dX1_findByTrying_50 : decode cX1_findByTrying 50 = .ok (.lload 6, 2) := by decide +kernel
theorem dX1_findByTrying_52 : decode cX1_findByTrying 52 = .ok (.lload 4, 2) := by decide +kernel
theorem dX1_findByTrying_54 : decode cX1_findByTrying 54 = .ok (.invokestatic 29, 3) := by decide +kernel
theorem dX1_findByTrying_57 : decode cX1_findByTrying 57 = .ok (.ifCond .eq 21, 3) := by decide +kernel
theorem dX1_findByTrying_60 : decode cX1_findByTrying 60 = .ok (.aload_n 3, 1) := by decide +kernel
theorem dX1_findByTrying_61 : decode cX1_findByTrying 61 = .ok (.lload 6, 2) := by decide +kernel
theorem dX1_findByTrying_63 : decode cX1_findByTrying 63 = .ok (.invokevirtual 33, 3) := by decide +kernel
theorem dX1_findByTrying_66 : decode cX1_findByTrying 66 = .ok (.lload 4, 2) := by decide +kernel
theorem dX1_findByTrying_68 : decode cX1_findByTrying 68 = .ok (.lload 6, 2) := by decide +kernel
theorem dX1_findByTrying_70 : decode cX1_findByTrying 70 = .ok (.invokestatic 37, 3) := by decide +kernel
theorem dX1_findByTrying_73 : decode cX1_findByTrying 73 = .ok (.lstore 4, 2) := by decide +kernel
theorem dX1_findByTrying_75 : decode cX1_findByTrying 75 = .ok (.goto 9, 3) := by decide +kernel
theorem dX1_findByTrying_78 : decode cX1_findByTrying 78 = .ok (.lload 6, 2) := by decide +kernel
theorem dX1_findByTrying_80 : decode cX1_findByTrying 80 = .ok (.lconst 1, 1) := by decide +kernel
theorem dX1_findByTrying_81 : decode cX1_findByTrying 81 = .ok (.ladd, 1) := by decide +kernel
theorem dX1_findByTrying_82 : decode cX1_findByTrying 82 = .ok (.lstore 6, 2) := by decide +kernel
theorem dX1_findByTrying_84 : decode cX1_findByTrying 84 = .ok (.iinc 8 1, 3) := by decide +kernel
theorem dX1_findByTrying_87 : decode cX1_findByTrying 87 = .ok (.goto (-72), 3) := by decide +kernel
theorem dX1_findByTrying_90 : decode cX1_findByTrying 90 = .ok (.return_, 1) := by decide +kernel
theorem dX1_findByDegrees_0 : decode cX1_findByDegrees 0 = .ok (.aload_n 3, 1) := by decide +kernel
theorem dX1_findByDegrees_1 : decode cX1_findByDegrees 1 = .ok (.invokevirtual 18, 3) := by decide +kernel
theorem dX1_findByDegrees_4 : decode cX1_findByDegrees 4 = .ok (.lload_n 1, 1) := by decide +kernel
theorem dX1_findByDegrees_5 : decode cX1_findByDegrees 5 = .ok (.lstore 4, 2) := by decide +kernel
theorem dX1_findByDegrees_7 : decode cX1_findByDegrees 7 = .ok (.iconst 1, 1) := by decide +kernel
theorem dX1_findByDegrees_8 : decode cX1_findByDegrees 8 = .ok (.istore 6, 2) := by decide +kernel
theorem dX1_findByDegrees_10 : decode cX1_findByDegrees 10 = .ok (.iload 6, 2) := by decide +kernel
theorem dX1_findByDegrees_12 : decode cX1_findByDegrees 12 = .ok (.bipush 10, 2) := by decide +kernel
theorem dX1_findByDegrees_14 : decode cX1_findByDegrees 14 = .ok (.if_icmp .gt 81, 3) := by decide +kernel
theorem dX1_findByDegrees_17 : decode cX1_findByDegrees 17 = .ok (.lload 4, 2) := by decide +kernel
theorem dX1_findByDegrees_19 : decode cX1_findByDegrees 19 = .ok (.invokestatic 23, 3) := by decide +kernel
theorem dX1_findByDegrees_22 : decode cX1_findByDegrees 22 = .ok (.ifCond .le 73, 3) := by decide +kernel
theorem dX1_findByDegrees_25 : decode cX1_findByDegrees 25 = .ok (.lload 4, 2) := by decide +kernel
theorem dX1_findByDegrees_27 : decode cX1_findByDegrees 27 = .ok (.iload 6, 2) := by decide +kernel
theorem dX1_findByDegrees_29 : decode cX1_findByDegrees 29 = .ok (.lload 4, 2) := by decide +kernel
theorem dX1_findByDegrees_31 : decode cX1_findByDegrees 31 = .ok (.invokestatic 41, 3) := by decide +kernel
theorem dX1_findByDegrees_34 : decode cX1_findByDegrees 34 = .ok (.ldc2_w 21, 3) := by decide +kernel
theorem dX1_findByDegrees_37 : decode cX1_findByDegrees 37 = .ok (.lxor, 1) := by decide +kernel
theorem dX1_findByDegrees_38 : decode cX1_findByDegrees 38 = .ok (.invokestatic 45, 3) := by decide +kernel
theorem dX1_findByDegrees_41 : decode cX1_findByDegrees 41 = .ok (.lstore 7, 2) := by decide +kernel
theorem dX1_findByDegrees_43 : decode cX1_findByDegrees 43 = .ok (.aload_n 0, 1) := by decide +kernel
theorem dX1_findByDegrees_44 : decode cX1_findByDegrees 44 = .ok (.lload 7, 2) := by decide +kernel
theorem dX1_findByDegrees_46 : decode cX1_findByDegrees 46 = .ok (.iload 6, 2) := by decide +kernel
theorem dX1_findByDegrees_48 : decode cX1_findByDegrees 48 = .ok (.invokevirtual 48, 3) := by decide +kernel
theorem dX1_findByDegrees_51 : decode cX1_findByDegrees 51 = .ok (.iconst 0, 1) := by decide +kernel
theorem dX1_findByDegrees_52 : decode cX1_findByDegrees 52 = .ok (.istore 9, 2) := by decide +kernel
theorem dX1_findByDegrees_54 : decode cX1_findByDegrees 54 = .ok (.iload 9, 2) := by decide +kernel
theorem dX1_findByDegrees_56 : decode cX1_findByDegrees 56 = .ok (.aload_n 0, 1) := by decide +kernel
theorem dX1_findByDegrees_57 : decode cX1_findByDegrees 57 = .ok (.getfield 12, 3) := by decide +kernel
theorem dX1_findByDegrees_60 : decode cX1_findByDegrees 60 = .ok (.getfield 52, 3) := by decide +kernel
theorem dX1_findByDegrees_63 : decode cX1_findByDegrees 63 = .ok (.if_icmp .ge 26, 3) := by decide +kernel
theorem dX1_findByDegrees_66 : decode cX1_findByDegrees 66 = .ok (.lload 4, 2) := by decide +kernel
theorem dX1_findByDegrees_68 : decode cX1_findByDegrees 68 = .ok (.aload_n 0, 1) := by decide +kernel
theorem dX1_findByDegrees_69 : decode cX1_findByDegrees 69 = .ok (.getfield 12, 3) := by decide +kernel
theorem dX1_findByDegrees_72 : decode cX1_findByDegrees 72 = .ok (.iload 9, 2) := by decide +kernel
theorem dX1_findByDegrees_74 : decode cX1_findByDegrees 74 = .ok (.invokevirtual 56, 3) := by decide +kernel
theorem dX1_findByDegrees_77 : decode cX1_findByDegrees 77 = .ok (.aload_n 3, 1) := by decide +kernel
theorem dX1_findByDegrees_78 : decode cX1_findByDegrees 78 = .ok (.invokestatic 60, 3) := by decide +kernel
theorem dX1_findByDegrees_81 : decode cX1_findByDegrees 81 = .ok (.lstore 4, 2) := by decide +kernel
theorem dX1_findByDegrees_83 : decode cX1_findByDegrees 83 = .ok (.iinc 9 1, 3) := by decide +kernel
theorem dX1_findByDegrees_86 : decode cX1_findByDegrees 86 = .ok (.goto (-32), 3) := by decide +kernel
theorem dX1_findByDegrees_89 : decode cX1_findByDegrees 89 = .ok (.iinc 6 1, 3) := by decide +kernel
theorem dX1_findByDegrees_92 : decode cX1_findByDegrees 92 = .ok (.goto (-82), 3) := by decide +kernel
theorem dX1_findByDegrees_95 : decode cX1_findByDegrees 95 = .ok (.return_, 1) := by decide +kernel
theorem dX1_partByTraces_0 : decode cX1_partByTraces 0 = .ok (.aload_n 0, 1) := by decide +kernel
theorem dX1_partByTraces_1 : decode cX1_partByTraces 1 = .ok (.getfield 12, 3) := by decide +kernel
theorem dX1_partByTraces_4 : decode cX1_partByTraces 4 = .ok (.invokevirtual 18, 3) := by decide +kernel
theorem dX1_partByTraces_7 : decode cX1_partByTraces 7 = .ok (.lload_n 1, 1) := by decide +kernel
theorem dX1_partByTraces_8 : decode cX1_partByTraces 8 = .ok (.invokestatic 23, 3) := by decide +kernel
theorem dX1_partByTraces_11 : decode cX1_partByTraces 11 = .ok (.istore 4, 2) := by decide +kernel
theorem dX1_partByTraces_13 : decode cX1_partByTraces 13 = .ok (.iload 4, 2) := by decide +kernel
theorem dX1_partByTraces_15 : decode cX1_partByTraces 15 = .ok (.iload_n 3, 1) := by decide +kernel
theorem dX1_partByTraces_16 : decode cX1_partByTraces 16 = .ok (.if_icmp .ge 4, 3) := by decide +kernel
theorem dX1_partByTraces_19 : decode cX1_partByTraces 19 = .ok (.return_, 1) := by decide +kernel
theorem dX1_partByTraces_20 : decode cX1_partByTraces 20 = .ok (.aload_n 0, 1) := by decide +kernel
theorem dX1_partByTraces_21 : decode cX1_partByTraces 21 = .ok (.getfield 12, 3) := by decide +kernel
theorem dX1_partByTraces_24 : decode cX1_partByTraces 24 = .ok (.lload_n 1, 1) := by decide +kernel
theorem dX1_partByTraces_25 : decode cX1_partByTraces 25 = .ok (.invokevirtual 33, 3) := by decide +kernel
theorem dX1_partByTraces_28 : decode cX1_partByTraces 28 = .ok (.iconst 0, 1) := by decide +kernel
theorem dX1_partByTraces_29 : decode cX1_partByTraces 29 = .ok (.istore 5, 2) := by decide +kernel
theorem dX1_partByTraces_31 : decode cX1_partByTraces 31 = .ok (.iload 5, 2) := by decide +kernel
theorem dX1_partByTraces_33 : decode cX1_partByTraces 33 = .ok (.iload 4, 2) := by decide +kernel
theorem dX1_partByTraces_35 : decode cX1_partByTraces 35 = .ok (.if_icmp .ge 100, 3) := by decide +kernel
theorem dX1_partByTraces_38 : decode cX1_partByTraces 38 = .ok (.aload_n 0, 1) := by decide +kernel
theorem dX1_partByTraces_39 : decode cX1_partByTraces 39 = .ok (.getfield 12, 3) := by decide +kernel
theorem dX1_partByTraces_42 : decode cX1_partByTraces 42 = .ok (.getfield 52, 3) := by decide +kernel
theorem dX1_partByTraces_45 : decode cX1_partByTraces 45 = .ok (.istore 6, 2) := by decide +kernel
theorem dX1_partByTraces_47 : decode cX1_partByTraces 47 = .ok (.iconst 0, 1) := by decide +kernel
theorem dX1_partByTraces_48 : decode cX1_partByTraces 48 = .ok (.istore 7, 2) := by decide +kernel
theorem dX1_partByTraces_50 : decode cX1_partByTraces 50 = .ok (.iload 7, 2) := by decide +kernel
theorem dX1_partByTraces_52 : decode cX1_partByTraces 52 = .ok (.iload 6, 2) := by decide +kernel
theorem dX1_partByTraces_54 : decode cX1_partByTraces 54 = .ok (.if_icmp .ge 75, 3) := by decide +kernel
theorem dX1_partByTraces_57 : decode cX1_partByTraces 57 = .ok (.aload_n 0, 1) := by decide +kernel
theorem dX1_partByTraces_58 : decode cX1_partByTraces 58 = .ok (.getfield 12, 3) := by decide +kernel
theorem dX1_partByTraces_61 : decode cX1_partByTraces 61 = .ok (.iload 7, 2) := by decide +kernel
theorem dX1_partByTraces_63 : decode cX1_partByTraces 63 = .ok (.invokevirtual 56, 3) := by decide +kernel
theorem dX1_partByTraces_66 : decode cX1_partByTraces 66 = .ok (.lstore 8, 2) := by decide +kernel
theorem dX1_partByTraces_68 : decode cX1_partByTraces 68 = .ok (.lload 8, 2) := by decide +kernel
theorem dX1_partByTraces_70 : decode cX1_partByTraces 70 = .ok (.iload 5, 2) := by decide +kernel
theorem dX1_partByTraces_72 : decode cX1_partByTraces 72 = .ok (.iload_n 3, 1) := by decide +kernel
theorem dX1_partByTraces_73 : decode cX1_partByTraces 73 = .ok (.lload 8, 2) := by decide +kernel
theorem dX1_partByTraces_75 : decode cX1_partByTraces 75 = .ok (.invokestatic 64, 3) := by decide +kernel
theorem dX1_partByTraces_78 : decode cX1_partByTraces 78 = .ok (.invokestatic 45, 3) := by decide +kernel
theorem dX1_partByTraces_81 : decode cX1_partByTraces 81 = .ok (.lstore 10, 2) := by decide +kernel
theorem dX1_partByTraces_83 : decode cX1_partByTraces 83 = .ok (.lload 10, 2) := by decide +kernel
theorem dX1_partByTraces_85 : decode cX1_partByTraces 85 = .ok (.lconst 1, 1) := by decide +kernel
theorem dX1_partByTraces_86 : decode cX1_partByTraces 86 = .ok (.lcmp, 1) := by decide +kernel
theorem dX1_partByTraces_87 : decode cX1_partByTraces 87 = .ok (.ifCond .eq 36, 3) := by decide +kernel
theorem dX1_partByTraces_90 : decode cX1_partByTraces 90 = .ok (.lload 10, 2) := by decide +kernel
theorem dX1_partByTraces_92 : decode cX1_partByTraces 92 = .ok (.lload 8, 2) := by decide +kernel
theorem dX1_partByTraces_94 : decode cX1_partByTraces 94 = .ok (.lcmp, 1) := by decide +kernel
theorem dX1_partByTraces_95 : decode cX1_partByTraces 95 = .ok (.ifCond .eq 28, 3) := by decide +kernel
theorem dX1_partByTraces_98 : decode cX1_partByTraces 98 = .ok (.aload_n 0, 1) := by decide +kernel
theorem dX1_partByTraces_99 : decode cX1_partByTraces 99 = .ok (.getfield 12, 3) := by decide +kernel
theorem dX1_partByTraces_102 : decode cX1_partByTraces 102 = .ok (.iload 7, 2) := by decide +kernel
theorem dX1_partByTraces_104 : decode cX1_partByTraces 104 = .ok (.lload 10, 2) := by decide +kernel
theorem dX1_partByTraces_106 : decode cX1_partByTraces 106 = .ok (.invokevirtual 68, 3) := by decide +kernel
theorem dX1_partByTraces_109 : decode cX1_partByTraces 109 = .ok (.aload_n 0, 1) := by decide +kernel
theorem dX1_partByTraces_110 : decode cX1_partByTraces 110 = .ok (.getfield 12, 3) := by decide +kernel
theorem dX1_partByTraces_113 : decode cX1_partByTraces 113 = .ok (.lload 8, 2) := by decide +kernel
theorem dX1_partByTraces_115 : decode cX1_partByTraces 115 = .ok (.lload 10, 2) := by decide +kernel
theorem dX1_partByTraces_117 : decode cX1_partByTraces 117 = .ok (.invokestatic 37, 3) := by decide +kernel
theorem dX1_partByTraces_120 : decode cX1_partByTraces 120 = .ok (.invokevirtual 33, 3) := by decide +kernel
theorem dX1_partByTraces_123 : decode cX1_partByTraces 123 = .ok (.iinc 7 1, 3) := by decide +kernel
theorem dX1_partByTraces_126 : decode cX1_partByTraces 126 = .ok (.goto (-76), 3) := by decide +kernel
theorem dX1_partByTraces_129 : decode cX1_partByTraces 129 = .ok (.iinc 5 1, 3) := by decide +kernel
theorem dX1_partByTraces_132 : decode cX1_partByTraces 132 = .ok (.goto (-101), 3) := by decide +kernel
theorem dX1_partByTraces_135 : decode cX1_partByTraces 135 = .ok (.return_, 1) := by decide +kernel
theorem dX1_dividedOut_0 : decode cX1_dividedOut 0 = .ok (.lload_n 0, 1) := by decide +kernel
theorem dX1_dividedOut_1 : decode cX1_dividedOut 1 = .ok (.lstore 5, 2) := by decide +kernel
theorem dX1_dividedOut_3 : decode cX1_dividedOut 3 = .ok (.iconst 0, 1) := by decide +kernel
theorem dX1_dividedOut_4 : decode cX1_dividedOut 4 = .ok (.istore 7, 2) := by decide +kernel
theorem dX1_dividedOut_6 : decode cX1_dividedOut 6 = .ok (.iload 7, 2) := by decide +kernel
theorem dX1_dividedOut_8 : decode cX1_dividedOut 8 = .ok (.bipush 10, 2) := by decide +kernel
theorem dX1_dividedOut_10 : decode cX1_dividedOut 10 = .ok (.if_icmp .ge 32, 3) := by decide +kernel
theorem dX1_dividedOut_13 : decode cX1_dividedOut 13 = .ok (.lload_n 2, 1) := by decide +kernel
theorem dX1_dividedOut_14 : decode cX1_dividedOut 14 = .ok (.lload 5, 2) := by decide +kernel
theorem dX1_dividedOut_16 : decode cX1_dividedOut 16 = .ok (.invokestatic 29, 3) := by decide +kernel
theorem dX1_dividedOut_19 : decode cX1_dividedOut 19 = .ok (.ifCond .eq 23, 3) := by decide +kernel
theorem dX1_dividedOut_22 : decode cX1_dividedOut 22 = .ok (.aload 4, 2) := by decide +kernel
theorem dX1_dividedOut_24 : decode cX1_dividedOut 24 = .ok (.lload_n 2, 1) := by decide +kernel
theorem dX1_dividedOut_25 : decode cX1_dividedOut 25 = .ok (.invokevirtual 33, 3) := by decide +kernel
theorem dX1_dividedOut_28 : decode cX1_dividedOut 28 = .ok (.lload 5, 2) := by decide +kernel
theorem dX1_dividedOut_30 : decode cX1_dividedOut 30 = .ok (.lload_n 2, 1) := by decide +kernel
theorem dX1_dividedOut_31 : decode cX1_dividedOut 31 = .ok (.invokestatic 37, 3) := by decide +kernel
theorem dX1_dividedOut_34 : decode cX1_dividedOut 34 = .ok (.lstore 5, 2) := by decide +kernel
theorem dX1_dividedOut_36 : decode cX1_dividedOut 36 = .ok (.iinc 7 1, 3) := by decide +kernel
theorem dX1_dividedOut_39 : decode cX1_dividedOut 39 = .ok (.goto (-33), 3) := by decide +kernel
theorem dX1_dividedOut_42 : decode cX1_dividedOut 42 = .ok (.lload 5, 2) := by decide +kernel
theorem dX1_dividedOut_44 : decode cX1_dividedOut 44 = .ok (.lreturn, 1) := by decide +kernel
theorem dX2_isByTrying_0 : decode cX2_isByTrying 0 = .ok (.lload_n 0, 1) := by decide +kernel
theorem dX2_isByTrying_1 : decode cX2_isByTrying 1 = .ok (.invokestatic 9, 3) := by decide +kernel
theorem dX2_isByTrying_4 : decode cX2_isByTrying 4 = .ok (.istore_n 2, 1) := by decide +kernel
theorem dX2_isByTrying_5 : decode cX2_isByTrying 5 = .ok (.iload_n 2, 1) := by decide +kernel
theorem dX2_isByTrying_6 : decode cX2_isByTrying 6 = .ok (.iconst 1, 1) := by decide +kernel
theorem dX2_isByTrying_7 : decode cX2_isByTrying 7 = .ok (.if_icmp .ge 5, 3) := by decide +kernel
theorem dX2_isByTrying_10 : decode cX2_isByTrying 10 = .ok (.iconst 0, 1) := by decide +kernel
theorem dX2_isByTrying_11 : decode cX2_isByTrying 11 = .ok (.ireturn, 1) := by decide +kernel
theorem dX2_isByTrying_12 : decode cX2_isByTrying 12 = .ok (.ldc2_w 15, 3) := by decide +kernel
theorem dX2_isByTrying_15 : decode cX2_isByTrying 15 = .ok (.iload_n 2, 1) := by decide +kernel
theorem dX2_isByTrying_16 : decode cX2_isByTrying 16 = .ok (.iconst 2, 1) := by decide +kernel
theorem dX2_isByTrying_17 : decode cX2_isByTrying 17 = .ok (.idiv, 1) := by decide +kernel
theorem dX2_isByTrying_18 : decode cX2_isByTrying 18 = .ok (.lshl, 1) := by decide +kernel
theorem dX2_isByTrying_19 : decode cX2_isByTrying 19 = .ok (.lstore_n 3, 1) := by decide +kernel
theorem dX2_isByTrying_20 : decode cX2_isByTrying 20 = .ok (.ldc2_w 15, 3) := by decide +kernel
theorem dX2_isByTrying_23 : decode cX2_isByTrying 23 = .ok (.lstore 5, 2) := by decide +kernel
theorem dX2_isByTrying_25 : decode cX2_isByTrying 25 = .ok (.lload 5, 2) := by decide +kernel
theorem dX2_isByTrying_27 : decode cX2_isByTrying 27 = .ok (.lload_n 3, 1) := by decide +kernel
theorem dX2_isByTrying_28 : decode cX2_isByTrying 28 = .ok (.lcmp, 1) := by decide +kernel
theorem dX2_isByTrying_29 : decode cX2_isByTrying 29 = .ok (.ifCond .ge 23, 3) := by decide +kernel
theorem dX2_isByTrying_32 : decode cX2_isByTrying 32 = .ok (.lload 5, 2) := by decide +kernel
theorem dX2_isByTrying_34 : decode cX2_isByTrying 34 = .ok (.lload_n 0, 1) := by decide +kernel
theorem dX2_isByTrying_35 : decode cX2_isByTrying 35 = .ok (.invokestatic 17, 3) := by decide +kernel
theorem dX2_isByTrying_38 : decode cX2_isByTrying 38 = .ok (.ifCond .eq 5, 3) := by decide +kernel
theorem dX2_isByTrying_41 : decode cX2_isByTrying 41 = .ok (.iconst 0, 1) := by decide +kernel
theorem dX2_isByTrying_42 : decode cX2_isByTrying 42 = .ok (.ireturn, 1) := by decide +kernel
theorem dX2_isByTrying_43 : decode cX2_isByTrying 43 = .ok (.lload 5, 2) := by decide +kernel
theorem dX2_isByTrying_45 : decode cX2_isByTrying 45 = .ok (.lconst 1, 1) := by decide +kernel
theorem dX2_isByTrying_46 : decode cX2_isByTrying 46 = .ok (.ladd, 1) := by decide +kernel
theorem dX2_isByTrying_47 : decode cX2_isByTrying 47 = .ok (.lstore 5, 2) := by decide +kernel
theorem dX2_isByTrying_49 : decode cX2_isByTrying 49 = .ok (.goto (-24), 3) := by decide +kernel
theorem dX2_isByTrying_52 : decode cX2_isByTrying 52 = .ok (.iconst 1, 1) := by decide +kernel
theorem dX2_isByTrying_53 : decode cX2_isByTrying 53 = .ok (.ireturn, 1) := by decide +kernel
theorem dX2_isByRising_0 : decode cX2_isByRising 0 = .ok (.lload_n 0, 1) := by decide +kernel
theorem dX2_isByRising_1 : decode cX2_isByRising 1 = .ok (.invokestatic 9, 3) := by decide +kernel
theorem dX2_isByRising_4 : decode cX2_isByRising 4 = .ok (.istore_n 2, 1) := by decide +kernel
theorem dX2_isByRising_5 : decode cX2_isByRising 5 = .ok (.iload_n 2, 1) := by decide +kernel
theorem dX2_isByRising_6 : decode cX2_isByRising 6 = .ok (.iconst 1, 1) := by decide +kernel
theorem dX2_isByRising_7 : decode cX2_isByRising 7 = .ok (.if_icmp .lt 19, 3) := by decide +kernel
theorem dX2_isByRising_10 : decode cX2_isByRising 10 = .ok (.lload_n 0, 1) := by decide +kernel
theorem dX2_isByRising_11 : decode cX2_isByRising 11 = .ok (.iload_n 2, 1) := by decide +kernel
theorem dX2_isByRising_12 : decode cX2_isByRising 12 = .ok (.lload_n 0, 1) := by decide +kernel
theorem dX2_isByRising_13 : decode cX2_isByRising 13 = .ok (.invokestatic 21, 3) := by decide +kernel
theorem dX2_isByRising_16 : decode cX2_isByRising 16 = .ok (.ldc2_w 15, 3) := by decide +kernel
theorem dX2_isByRising_19 : decode cX2_isByRising 19 = .ok (.lxor, 1) := by decide +kernel
theorem dX2_isByRising_20 : decode cX2_isByRising 20 = .ok (.invokestatic 17, 3) := by decide +kernel
theorem dX2_isByRising_23 : decode cX2_isByRising 23 = .ok (.ifCond .ne 5, 3) := by decide +kernel
theorem dX2_isByRising_26 : decode cX2_isByRising 26 = .ok (.iconst 0, 1) := by decide +kernel
theorem dX2_isByRising_27 : decode cX2_isByRising 27 = .ok (.ireturn, 1) := by decide +kernel
theorem dX2_isByRising_28 : decode cX2_isByRising 28 = .ok (.iconst 2, 1) := by decide +kernel
theorem dX2_isByRising_29 : decode cX2_isByRising 29 = .ok (.istore_n 3, 1) := by decide +kernel
theorem dX2_isByRising_30 : decode cX2_isByRising 30 = .ok (.iload_n 3, 1) := by decide +kernel
theorem dX2_isByRising_31 : decode cX2_isByRising 31 = .ok (.iload_n 2, 1) := by decide +kernel
theorem dX2_isByRising_32 : decode cX2_isByRising 32 = .ok (.if_icmp .gt 44, 3) := by decide +kernel
theorem dX2_isByRising_35 : decode cX2_isByRising 35 = .ok (.iload_n 2, 1) := by decide +kernel
theorem dX2_isByRising_36 : decode cX2_isByRising 36 = .ok (.iload_n 3, 1) := by decide +kernel
theorem dX2_isByRising_37 : decode cX2_isByRising 37 = .ok (.irem, 1) := by decide +kernel
theorem dX2_isByRising_38 : decode cX2_isByRising 38 = .ok (.ifCond .ne 32, 3) := by decide +kernel
theorem dX2_isByRising_41 : decode cX2_isByRising 41 = .ok (.iload_n 3, 1) := by decide +kernel
theorem dX2_isByRising_42 : decode cX2_isByRising 42 = .ok (.invokestatic 25, 3) := by decide +kernel
theorem dX2_isByRising_45 : decode cX2_isByRising 45 = .ok (.ifCond .eq 25, 3) := by decide +kernel
theorem dX2_isByRising_48 : decode cX2_isByRising 48 = .ok (.lload_n 0, 1) := by decide +kernel
theorem dX2_isByRising_49 : decode cX2_isByRising 49 = .ok (.iload_n 2, 1) := by decide +kernel
theorem dX2_isByRising_50 : decode cX2_isByRising 50 = .ok (.iload_n 3, 1) := by decide +kernel
theorem dX2_isByRising_51 : decode cX2_isByRising 51 = .ok (.idiv, 1) := by decide +kernel
theorem dX2_isByRising_52 : decode cX2_isByRising 52 = .ok (.lload_n 0, 1) := by decide +kernel
theorem dX2_isByRising_53 : decode cX2_isByRising 53 = .ok (.invokestatic 21, 3) := by decide +kernel
theorem dX2_isByRising_56 : decode cX2_isByRising 56 = .ok (.ldc2_w 15, 3) := by decide +kernel
theorem dX2_isByRising_59 : decode cX2_isByRising 59 = .ok (.lxor, 1) := by decide +kernel
theorem dX2_isByRising_60 : decode cX2_isByRising 60 = .ok (.invokestatic 31, 3) := by decide +kernel
theorem dX2_isByRising_63 : decode cX2_isByRising 63 = .ok (.lconst 1, 1) := by decide +kernel
theorem dX2_isByRising_64 : decode cX2_isByRising 64 = .ok (.lcmp, 1) := by decide +kernel
theorem dX2_isByRising_65 : decode cX2_isByRising 65 = .ok (.ifCond .eq 5, 3) := by decide +kernel
theorem dX2_isByRising_68 : decode cX2_isByRising 68 = .ok (.iconst 0, 1) := by decide +kernel
theorem dX2_isByRising_69 : decode cX2_isByRising 69 = .ok (.ireturn, 1) := by decide +kernel
theorem dX2_isByRising_70 : decode cX2_isByRising 70 = .ok (.iinc 3 1, 3) := by decide +kernel
theorem dX2_isByRising_73 : decode cX2_isByRising 73 = .ok (.goto (-43), 3) := by decide +kernel
theorem dX2_isByRising_76 : decode cX2_isByRising 76 = .ok (.iconst 1, 1) := by decide +kernel
theorem dX2_isByRising_77 : decode cX2_isByRising 77 = .ok (.ireturn, 1) := by decide +kernel
theorem dX2_isPrimeNumber_0 : decode cX2_isPrimeNumber 0 = .ok (.iconst 2, 1) := by decide +kernel
theorem dX2_isPrimeNumber_1 : decode cX2_isPrimeNumber 1 = .ok (.istore_n 1, 1) := by decide +kernel
theorem dX2_isPrimeNumber_2 : decode cX2_isPrimeNumber 2 = .ok (.iload_n 1, 1) := by decide +kernel
theorem dX2_isPrimeNumber_3 : decode cX2_isPrimeNumber 3 = .ok (.iload_n 0, 1) := by decide +kernel
theorem dX2_isPrimeNumber_4 : decode cX2_isPrimeNumber 4 = .ok (.if_icmp .ge 17, 3) := by decide +kernel
theorem dX2_isPrimeNumber_7 : decode cX2_isPrimeNumber 7 = .ok (.iload_n 0, 1) := by decide +kernel
theorem dX2_isPrimeNumber_8 : decode cX2_isPrimeNumber 8 = .ok (.iload_n 1, 1) := by decide +kernel
theorem dX2_isPrimeNumber_9 : decode cX2_isPrimeNumber 9 = .ok (.irem, 1) := by decide +kernel
theorem dX2_isPrimeNumber_10 : decode cX2_isPrimeNumber 10 = .ok (.ifCond .ne 5, 3) := by decide +kernel
theorem dX2_isPrimeNumber_13 : decode cX2_isPrimeNumber 13 = .ok (.iconst 0, 1) := by decide +kernel
theorem dX2_isPrimeNumber_14 : decode cX2_isPrimeNumber 14 = .ok (.ireturn, 1) := by decide +kernel
theorem dX2_isPrimeNumber_15 : decode cX2_isPrimeNumber 15 = .ok (.iinc 1 1, 3) := by decide +kernel
theorem dX2_isPrimeNumber_18 : decode cX2_isPrimeNumber 18 = .ok (.goto (-16), 3) := by decide +kernel
theorem dX2_isPrimeNumber_21 : decode cX2_isPrimeNumber 21 = .ok (.iload_n 0, 1) := by decide +kernel
theorem dX2_isPrimeNumber_22 : decode cX2_isPrimeNumber 22 = .ok (.iconst 2, 1) := by decide +kernel
theorem dX2_isPrimeNumber_23 : decode cX2_isPrimeNumber 23 = .ok (.if_icmp .lt 7, 3) := by decide +kernel
theorem dX2_isPrimeNumber_26 : decode cX2_isPrimeNumber 26 = .ok (.iconst 1, 1) := by decide +kernel
theorem dX2_isPrimeNumber_27 : decode cX2_isPrimeNumber 27 = .ok (.goto 4, 3) := by decide +kernel
theorem dX2_isPrimeNumber_30 : decode cX2_isPrimeNumber 30 = .ok (.iconst 0, 1) := by decide +kernel
theorem dX2_isPrimeNumber_31 : decode cX2_isPrimeNumber 31 = .ok (.ireturn, 1) := by decide +kernel
theorem dX2_howManyBySum_0 : decode cX2_howManyBySum 0 = .ok (.iload_n 0, 1) := by decide +kernel
theorem dX2_howManyBySum_1 : decode cX2_howManyBySum 1 = .ok (.iconst 1, 1) := by decide +kernel
theorem dX2_howManyBySum_2 : decode cX2_howManyBySum 2 = .ok (.if_icmp .ge 5, 3) := by decide +kernel
theorem dX2_howManyBySum_5 : decode cX2_howManyBySum 5 = .ok (.iconst 0, 1) := by decide +kernel
theorem dX2_howManyBySum_6 : decode cX2_howManyBySum 6 = .ok (.ireturn, 1) := by decide +kernel
theorem dX2_howManyBySum_7 : decode cX2_howManyBySum 7 = .ok (.iconst 0, 1) := by decide +kernel
theorem dX2_howManyBySum_8 : decode cX2_howManyBySum 8 = .ok (.istore_n 1, 1) := by decide +kernel
theorem dX2_howManyBySum_9 : decode cX2_howManyBySum 9 = .ok (.iconst 1, 1) := by decide +kernel
theorem dX2_howManyBySum_10 : decode cX2_howManyBySum 10 = .ok (.istore_n 2, 1) := by decide +kernel
theorem dX2_howManyBySum_11 : decode cX2_howManyBySum 11 = .ok (.iload_n 2, 1) := by decide +kernel
theorem dX2_howManyBySum_12 : decode cX2_howManyBySum 12 = .ok (.iload_n 0, 1) := by decide +kernel
theorem dX2_howManyBySum_13 : decode cX2_howManyBySum 13 = .ok (.if_icmp .gt 28, 3) := by decide +kernel
theorem dX2_howManyBySum_16 : decode cX2_howManyBySum 16 = .ok (.iload_n 0, 1) := by decide +kernel
theorem dX2_howManyBySum_17 : decode cX2_howManyBySum 17 = .ok (.iload_n 2, 1) := by decide +kernel
theorem dX2_howManyBySum_18 : decode cX2_howManyBySum 18 = .ok (.irem, 1) := by decide +kernel
theorem dX2_howManyBySum_19 : decode cX2_howManyBySum 19 = .ok (.ifCond .ne 16, 3) := by decide +kernel
theorem dX2_howManyBySum_22 : decode cX2_howManyBySum 22 = .ok (.iload_n 1, 1) := by decide +kernel
theorem dX2_howManyBySum_23 : decode cX2_howManyBySum 23 = .ok (.iload_n 2, 1) := by decide +kernel
theorem dX2_howManyBySum_24 : decode cX2_howManyBySum 24 = .ok (.invokestatic 35, 3) := by decide +kernel
theorem dX2_howManyBySum_27 : decode cX2_howManyBySum 27 = .ok (.iconst 1, 1) := by decide +kernel
theorem dX2_howManyBySum_28 : decode cX2_howManyBySum 28 = .ok (.iload_n 0, 1) := by decide +kernel
theorem dX2_howManyBySum_29 : decode cX2_howManyBySum 29 = .ok (.iload_n 2, 1) := by decide +kernel
theorem dX2_howManyBySum_30 : decode cX2_howManyBySum 30 = .ok (.idiv, 1) := by decide +kernel
theorem dX2_howManyBySum_31 : decode cX2_howManyBySum 31 = .ok (.ishl, 1) := by decide +kernel
theorem dX2_howManyBySum_32 : decode cX2_howManyBySum 32 = .ok (.imul, 1) := by decide +kernel
theorem dX2_howManyBySum_33 : decode cX2_howManyBySum 33 = .ok (.iadd, 1) := by decide +kernel
theorem dX2_howManyBySum_34 : decode cX2_howManyBySum 34 = .ok (.istore_n 1, 1) := by decide +kernel
theorem dX2_howManyBySum_35 : decode cX2_howManyBySum 35 = .ok (.iinc 2 1, 3) := by decide +kernel
theorem dX2_howManyBySum_38 : decode cX2_howManyBySum 38 = .ok (.goto (-27), 3) := by decide +kernel
theorem dX2_howManyBySum_41 : decode cX2_howManyBySum 41 = .ok (.iload_n 1, 1) := by decide +kernel
theorem dX2_howManyBySum_42 : decode cX2_howManyBySum 42 = .ok (.iload_n 0, 1) := by decide +kernel
theorem dX2_howManyBySum_43 : decode cX2_howManyBySum 43 = .ok (.idiv, 1) := by decide +kernel
theorem dX2_howManyBySum_44 : decode cX2_howManyBySum 44 = .ok (.ireturn, 1) := by decide +kernel
theorem dX2_markOf_0 : decode cX2_markOf 0 = .ok (.iconst 1, 1) := by decide +kernel
theorem dX2_markOf_1 : decode cX2_markOf 1 = .ok (.istore_n 1, 1) := by decide +kernel
theorem dX2_markOf_2 : decode cX2_markOf 2 = .ok (.iconst 2, 1) := by decide +kernel
theorem dX2_markOf_3 : decode cX2_markOf 3 = .ok (.istore_n 2, 1) := by decide +kernel
theorem dX2_markOf_4 : decode cX2_markOf 4 = .ok (.iload_n 2, 1) := by decide +kernel
theorem dX2_markOf_5 : decode cX2_markOf 5 = .ok (.iload_n 0, 1) := by decide +kernel
theorem dX2_markOf_6 : decode cX2_markOf 6 = .ok (.if_icmp .gt 35, 3) := by decide +kernel
theorem dX2_markOf_9 : decode cX2_markOf 9 = .ok (.iload_n 0, 1) := by decide +kernel
theorem dX2_markOf_10 : decode cX2_markOf 10 = .ok (.iload_n 2, 1) := by decide +kernel
theorem dX2_markOf_11 : decode cX2_markOf 11 = .ok (.iload_n 2, 1) := by decide +kernel
theorem dX2_markOf_12 : decode cX2_markOf 12 = .ok (.imul, 1) := by decide +kernel
theorem dX2_markOf_13 : decode cX2_markOf 13 = .ok (.irem, 1) := by decide +kernel
theorem dX2_markOf_14 : decode cX2_markOf 14 = .ok (.ifCond .ne 5, 3) := by decide +kernel
theorem dX2_markOf_17 : decode cX2_markOf 17 = .ok (.iconst 0, 1) := by decide +kernel
theorem dX2_markOf_18 : decode cX2_markOf 18 = .ok (.ireturn, 1) := by decide +kernel
theorem dX2_markOf_19 : decode cX2_markOf 19 = .ok (.iload_n 0, 1) := by decide +kernel
theorem dX2_markOf_20 : decode cX2_markOf 20 = .ok (.iload_n 2, 1) := by decide +kernel
theorem dX2_markOf_21 : decode cX2_markOf 21 = .ok (.irem, 1) := by decide +kernel
theorem dX2_markOf_22 : decode cX2_markOf 22 = .ok (.ifCond .ne 13, 3) := by decide +kernel
theorem dX2_markOf_25 : decode cX2_markOf 25 = .ok (.iload_n 2, 1) := by decide +kernel
theorem dX2_markOf_26 : decode cX2_markOf 26 = .ok (.invokestatic 25, 3) := by decide +kernel
theorem dX2_markOf_29 : decode cX2_markOf 29 = .ok (.ifCond .eq 6, 3) := by decide +kernel
theorem dX2_markOf_32 : decode cX2_markOf 32 = .ok (.iload_n 1, 1) := by decide +kernel
theorem dX2_markOf_33 : decode cX2_markOf 33 = .ok (.ineg, 1) := by decide +kernel
theorem dX2_markOf_34 : decode cX2_markOf 34 = .ok (.istore_n 1, 1) := by decide +kernel
theorem dX2_markOf_35 : decode cX2_markOf 35 = .ok (.iinc 2 1, 3) := by decide +kernel
theorem dX2_markOf_38 : decode cX2_markOf 38 = .ok (.goto (-34), 3) := by decide +kernel
theorem dX2_markOf_41 : decode cX2_markOf 41 = .ok (.iload_n 1, 1) := by decide +kernel
theorem dX2_markOf_42 : decode cX2_markOf 42 = .ok (.ireturn, 1) := by decide +kernel
theorem dX2_howManyByCounting_0 : decode cX2_howManyByCounting 0 = .ok (.iconst 0, 1) := by decide +kernel
theorem dX2_howManyByCounting_1 : decode cX2_howManyByCounting 1 = .ok (.istore_n 1, 1) := by decide +kernel
theorem dX2_howManyByCounting_2 : decode cX2_howManyByCounting 2 = .ok (.lconst 1, 1) := by decide +kernel
theorem dX2_howManyByCounting_3 : decode cX2_howManyByCounting 3 = .ok (.iload_n 0, 1) := by decide +kernel
theorem dX2_howManyByCounting_4 : decode cX2_howManyByCounting 4 = .ok (.lshl, 1) := by decide +kernel
theorem dX2_howManyByCounting_5 : decode cX2_howManyByCounting 5 = .ok (.lstore_n 2, 1) := by decide +kernel
theorem dX2_howManyByCounting_6 : decode cX2_howManyByCounting 6 = .ok (.lload_n 2, 1) := by decide +kernel
theorem dX2_howManyByCounting_7 : decode cX2_howManyByCounting 7 = .ok (.ldc2_w 15, 3) := by decide +kernel
theorem dX2_howManyByCounting_10 : decode cX2_howManyByCounting 10 = .ok (.iload_n 0, 1) := by decide +kernel
theorem dX2_howManyByCounting_11 : decode cX2_howManyByCounting 11 = .ok (.lshl, 1) := by decide +kernel
theorem dX2_howManyByCounting_12 : decode cX2_howManyByCounting 12 = .ok (.lcmp, 1) := by decide +kernel
theorem dX2_howManyByCounting_13 : decode cX2_howManyByCounting 13 = .ok (.ifCond .ge 20, 3) := by decide +kernel
theorem dX2_howManyByCounting_16 : decode cX2_howManyByCounting 16 = .ok (.lload_n 2, 1) := by decide +kernel
theorem dX2_howManyByCounting_17 : decode cX2_howManyByCounting 17 = .ok (.invokestatic 39, 3) := by decide +kernel
theorem dX2_howManyByCounting_20 : decode cX2_howManyByCounting 20 = .ok (.ifCond .eq 6, 3) := by decide +kernel
theorem dX2_howManyByCounting_23 : decode cX2_howManyByCounting 23 = .ok (.iinc 1 1, 3) := by decide +kernel
theorem dX2_howManyByCounting_26 : decode cX2_howManyByCounting 26 = .ok (.lload_n 2, 1) := by decide +kernel
theorem dX2_howManyByCounting_27 : decode cX2_howManyByCounting 27 = .ok (.lconst 1, 1) := by decide +kernel
theorem dX2_howManyByCounting_28 : decode cX2_howManyByCounting 28 = .ok (.ladd, 1) := by decide +kernel
theorem dX2_howManyByCounting_29 : decode cX2_howManyByCounting 29 = .ok (.lstore_n 2, 1) := by decide +kernel
theorem dX2_howManyByCounting_30 : decode cX2_howManyByCounting 30 = .ok (.goto (-24), 3) := by decide +kernel
theorem dX2_howManyByCounting_33 : decode cX2_howManyByCounting 33 = .ok (.iload_n 1, 1) := by decide +kernel
theorem dX2_howManyByCounting_34 : decode cX2_howManyByCounting 34 = .ok (.ireturn, 1) := by decide +kernel
theorem dX2_codeOf_0 : decode cX2_codeOf 0 = .ok (.iconst 0, 1) := by decide +kernel
theorem dX2_codeOf_1 : decode cX2_codeOf 1 = .ok (.istore_n 2, 1) := by decide +kernel
theorem dX2_codeOf_2 : decode cX2_codeOf 2 = .ok (.iconst 1, 1) := by decide +kernel
theorem dX2_codeOf_3 : decode cX2_codeOf 3 = .ok (.iload_n 0, 1) := by decide +kernel
theorem dX2_codeOf_4 : decode cX2_codeOf 4 = .ok (.ishl, 1) := by decide +kernel
theorem dX2_codeOf_5 : decode cX2_codeOf 5 = .ok (.istore_n 3, 1) := by decide +kernel
theorem dX2_codeOf_6 : decode cX2_codeOf 6 = .ok (.iload_n 3, 1) := by decide +kernel
theorem dX2_codeOf_7 : decode cX2_codeOf 7 = .ok (.iconst 2, 1) := by decide +kernel
theorem dX2_codeOf_8 : decode cX2_codeOf 8 = .ok (.iload_n 0, 1) := by decide +kernel
theorem dX2_codeOf_9 : decode cX2_codeOf 9 = .ok (.ishl, 1) := by decide +kernel
theorem dX2_codeOf_10 : decode cX2_codeOf 10 = .ok (.if_icmp .ge 27, 3) := by decide +kernel
theorem dX2_codeOf_13 : decode cX2_codeOf 13 = .ok (.iload_n 3, 1) := by decide +kernel
theorem dX2_codeOf_14 : decode cX2_codeOf 14 = .ok (.i2l, 1) := by decide +kernel
theorem dX2_codeOf_15 : decode cX2_codeOf 15 = .ok (.invokestatic 39, 3) := by decide +kernel
theorem dX2_codeOf_18 : decode cX2_codeOf 18 = .ok (.ifCond .eq 13, 3) := by decide +kernel
theorem dX2_codeOf_21 : decode cX2_codeOf 21 = .ok (.iload_n 2, 1) := by decide +kernel
theorem dX2_codeOf_22 : decode cX2_codeOf 22 = .ok (.iload_n 1, 1) := by decide +kernel
theorem dX2_codeOf_23 : decode cX2_codeOf 23 = .ok (.if_icmp .ne 5, 3) := by decide +kernel
theorem dX2_codeOf_26 : decode cX2_codeOf 26 = .ok (.iload_n 3, 1) := by decide +kernel
theorem dX2_codeOf_27 : decode cX2_codeOf 27 = .ok (.ireturn, 1) := by decide +kernel
theorem dX2_codeOf_28 : decode cX2_codeOf 28 = .ok (.iinc 2 1, 3) := by decide +kernel
theorem dX2_codeOf_31 : decode cX2_codeOf 31 = .ok (.iinc 3 1, 3) := by decide +kernel
theorem dX2_codeOf_34 : decode cX2_codeOf 34 = .ok (.goto (-28), 3) := by decide +kernel
theorem dX2_codeOf_37 : decode cX2_codeOf 37 = .ok (.iconst (-1), 1) := by decide +kernel
theorem dX2_codeOf_38 : decode cX2_codeOf 38 = .ok (.ireturn, 1) := by decide +kernel
theorem dX2_productOfAll_0 : decode cX2_productOfAll 0 = .ok (.lconst 1, 1) := by decide +kernel
theorem dX2_productOfAll_1 : decode cX2_productOfAll 1 = .ok (.lstore_n 1, 1) := by decide +kernel
theorem dX2_productOfAll_2 : decode cX2_productOfAll 2 = .ok (.iconst 1, 1) := by decide +kernel
theorem dX2_productOfAll_3 : decode cX2_productOfAll 3 = .ok (.istore_n 3, 1) := by decide +kernel
theorem dX2_productOfAll_4 : decode cX2_productOfAll 4 = .ok (.iload_n 3, 1) := by decide +kernel
theorem dX2_productOfAll_5 : decode cX2_productOfAll 5 = .ok (.iload_n 0, 1) := by decide +kernel
theorem dX2_productOfAll_6 : decode cX2_productOfAll 6 = .ok (.if_icmp .gt 24, 3) := by decide +kernel
theorem dX2_productOfAll_9 : decode cX2_productOfAll 9 = .ok (.iload_n 0, 1) := by decide +kernel
theorem dX2_productOfAll_10 : decode cX2_productOfAll 10 = .ok (.iload_n 3, 1) := by decide +kernel
theorem dX2_productOfAll_11 : decode cX2_productOfAll 11 = .ok (.irem, 1) := by decide +kernel
theorem dX2_productOfAll_12 : decode cX2_productOfAll 12 = .ok (.ifCond .ne 12, 3) := by decide +kernel
theorem dX2_productOfAll_15 : decode cX2_productOfAll 15 = .ok (.lload_n 1, 1) := by decide +kernel
theorem dX2_productOfAll_16 : decode cX2_productOfAll 16 = .ok (.iload_n 3, 1) := by decide +kernel
theorem dX2_productOfAll_17 : decode cX2_productOfAll 17 = .ok (.invokestatic 43, 3) := by decide +kernel
theorem dX2_productOfAll_20 : decode cX2_productOfAll 20 = .ok (.invokestatic 47, 3) := by decide +kernel
theorem dX2_productOfAll_23 : decode cX2_productOfAll 23 = .ok (.lstore_n 1, 1) := by decide +kernel
theorem dX2_productOfAll_24 : decode cX2_productOfAll 24 = .ok (.iinc 3 1, 3) := by decide +kernel
theorem dX2_productOfAll_27 : decode cX2_productOfAll 27 = .ok (.goto (-23), 3) := by decide +kernel
theorem dX2_productOfAll_30 : decode cX2_productOfAll 30 = .ok (.lload_n 1, 1) := by decide +kernel
theorem dX2_productOfAll_31 : decode cX2_productOfAll 31 = .ok (.lreturn, 1) := by decide +kernel
theorem dX2_productOfDegree_0 : decode cX2_productOfDegree 0 = .ok (.lconst 1, 1) := by decide +kernel
theorem dX2_productOfDegree_1 : decode cX2_productOfDegree 1 = .ok (.lstore_n 1, 1) := by decide +kernel
theorem dX2_productOfDegree_2 : decode cX2_productOfDegree 2 = .ok (.lconst 1, 1) := by decide +kernel
theorem dX2_productOfDegree_3 : decode cX2_productOfDegree 3 = .ok (.iload_n 0, 1) := by decide +kernel
theorem dX2_productOfDegree_4 : decode cX2_productOfDegree 4 = .ok (.lshl, 1) := by decide +kernel
theorem dX2_productOfDegree_5 : decode cX2_productOfDegree 5 = .ok (.lstore_n 3, 1) := by decide +kernel
theorem dX2_productOfDegree_6 : decode cX2_productOfDegree 6 = .ok (.lload_n 3, 1) := by decide +kernel
theorem dX2_productOfDegree_7 : decode cX2_productOfDegree 7 = .ok (.ldc2_w 15, 3) := by decide +kernel
theorem dX2_productOfDegree_10 : decode cX2_productOfDegree 10 = .ok (.iload_n 0, 1) := by decide +kernel
theorem dX2_productOfDegree_11 : decode cX2_productOfDegree 11 = .ok (.lshl, 1) := by decide +kernel
theorem dX2_productOfDegree_12 : decode cX2_productOfDegree 12 = .ok (.lcmp, 1) := by decide +kernel
theorem dX2_productOfDegree_13 : decode cX2_productOfDegree 13 = .ok (.ifCond .ge 23, 3) := by decide +kernel
theorem dX2_productOfDegree_16 : decode cX2_productOfDegree 16 = .ok (.lload_n 3, 1) := by decide +kernel
theorem dX2_productOfDegree_17 : decode cX2_productOfDegree 17 = .ok (.invokestatic 39, 3) := by decide +kernel
theorem dX2_productOfDegree_20 : decode cX2_productOfDegree 20 = .ok (.ifCond .eq 9, 3) := by decide +kernel
theorem dX2_productOfDegree_23 : decode cX2_productOfDegree 23 = .ok (.lload_n 1, 1) := by decide +kernel
theorem dX2_productOfDegree_24 : decode cX2_productOfDegree 24 = .ok (.lload_n 3, 1) := by decide +kernel
theorem dX2_productOfDegree_25 : decode cX2_productOfDegree 25 = .ok (.invokestatic 47, 3) := by decide +kernel
theorem dX2_productOfDegree_28 : decode cX2_productOfDegree 28 = .ok (.lstore_n 1, 1) := by decide +kernel
theorem dX2_productOfDegree_29 : decode cX2_productOfDegree 29 = .ok (.lload_n 3, 1) := by decide +kernel
theorem dX2_productOfDegree_30 : decode cX2_productOfDegree 30 = .ok (.lconst 1, 1) := by decide +kernel
theorem dX2_productOfDegree_31 : decode cX2_productOfDegree 31 = .ok (.ladd, 1) := by decide +kernel
theorem dX2_productOfDegree_32 : decode cX2_productOfDegree 32 = .ok (.lstore_n 3, 1) := by decide +kernel
theorem dX2_productOfDegree_33 : decode cX2_productOfDegree 33 = .ok (.goto (-27), 3) := by decide +kernel
theorem dX2_productOfDegree_36 : decode cX2_productOfDegree 36 = .ok (.lload_n 1, 1) := by decide +kernel
theorem dX2_productOfDegree_37 : decode cX2_productOfDegree 37 = .ok (.lreturn, 1) := by decide +kernel
theorem dX3_init_0 : decode cX3_init 0 = .ok (.aload_n 0, 1) := by decide +kernel
theorem dX3_init_1 : decode cX3_init 1 = .ok (.invokespecial 3, 3) := by decide +kernel
theorem dX3_init_4 : decode cX3_init 4 = .ok (.aload_n 0, 1) := by decide +kernel
theorem dX3_init_5 : decode cX3_init 5 = .ok (.bipush 12, 2) := by decide +kernel
theorem dX3_init_7 : decode cX3_init 7 = .ok (.newarray .long, 2) := by decide +kernel
theorem dX3_init_9 : decode cX3_init 9 = .ok (.putfield 9, 3) := by decide +kernel
theorem dX3_init_12 : decode cX3_init 12 = .ok (.aload_n 0, 1) := by decide +kernel
theorem dX3_init_13 : decode cX3_init 13 = .ok (.bipush 12, 2) := by decide +kernel
theorem dX3_init_15 : decode cX3_init 15 = .ok (.newarray .long, 2) := by decide +kernel
theorem dX3_init_17 : decode cX3_init 17 = .ok (.putfield 15, 3) := by decide +kernel
theorem dX3_init_20 : decode cX3_init 20 = .ok (.aload_n 0, 1) := by decide +kernel
theorem dX3_init_21 : decode cX3_init 21 = .ok (.iconst 0, 1) := by decide +kernel
theorem dX3_init_22 : decode cX3_init 22 = .ok (.putfield 18, 3) := by decide +kernel
theorem dX3_init_25 : decode cX3_init 25 = .ok (.return_, 1) := by decide +kernel
theorem dX3_at_0 : decode cX3_at 0 = .ok (.iload_n 1, 1) := by decide +kernel
theorem dX3_at_1 : decode cX3_at 1 = .ok (.ifCond .lt 11, 3) := by decide +kernel
theorem dX3_at_4 : decode cX3_at 4 = .ok (.iload_n 1, 1) := by decide +kernel
theorem dX3_at_5 : decode cX3_at 5 = .ok (.aload_n 0, 1) := by decide +kernel
theorem dX3_at_6 : decode cX3_at 6 = .ok (.getfield 18, 3) := by decide +kernel
theorem dX3_at_9 : decode cX3_at 9 = .ok (.if_icmp .lt 7, 3) := by decide +kernel
theorem dX3_at_12 : decode cX3_at 12 = .ok (.lconst 0, 1) := by decide +kernel
theorem dX3_at_13 : decode cX3_at 13 = .ok (.goto 9, 3) := by decide +kernel
theorem dX3_at_16 : decode cX3_at 16 = .ok (.aload_n 0, 1) := by decide +kernel
theorem dX3_at_17 : decode cX3_at 17 = .ok (.getfield 9, 3) := by decide +kernel
theorem dX3_at_20 : decode cX3_at 20 = .ok (.iload_n 1, 1) := by decide +kernel
theorem dX3_at_21 : decode cX3_at 21 = .ok (.laload, 1) := by decide +kernel
theorem dX3_at_22 : decode cX3_at 22 = .ok (.lreturn, 1) := by decide +kernel
theorem dX3_put_0 : decode cX3_put 0 = .ok (.iload_n 1, 1) := by decide +kernel
theorem dX3_put_1 : decode cX3_put 1 = .ok (.ifCond .lt 18, 3) := by decide +kernel
theorem dX3_put_4 : decode cX3_put 4 = .ok (.iload_n 1, 1) := by decide +kernel
theorem dX3_put_5 : decode cX3_put 5 = .ok (.aload_n 0, 1) := by decide +kernel
theorem dX3_put_6 : decode cX3_put 6 = .ok (.getfield 18, 3) := by decide +kernel
theorem dX3_put_9 : decode cX3_put 9 = .ok (.if_icmp .ge 10, 3) := by decide +kernel
theorem dX3_put_12 : decode cX3_put 12 = .ok (.aload_n 0, 1) := by decide +kernel
theorem dX3_put_13 : decode cX3_put 13 = .ok (.getfield 9, 3) := by decide +kernel
theorem dX3_put_16 : decode cX3_put 16 = .ok (.iload_n 1, 1) := by decide +kernel
theorem dX3_put_17 : decode cX3_put 17 = .ok (.lload_n 2, 1) := by decide +kernel
theorem dX3_put_18 : decode cX3_put 18 = .ok (.lastore, 1) := by decide +kernel
theorem dX3_put_19 : decode cX3_put 19 = .ok (.return_, 1) := by decide +kernel
theorem dX3_append_0 : decode cX3_append 0 = .ok (.aload_n 0, 1) := by decide +kernel
theorem dX3_append_1 : decode cX3_append 1 = .ok (.getfield 18, 3) := by decide +kernel
theorem dX3_append_4 : decode cX3_append 4 = .ok (.bipush 12, 2) := by decide +kernel
theorem dX3_append_6 : decode cX3_append 6 = .ok (.if_icmp .ge 23, 3) := by decide +kernel
theorem dX3_append_9 : decode cX3_append 9 = .ok (.aload_n 0, 1) := by decide +kernel
theorem dX3_append_10 : decode cX3_append 10 = .ok (.getfield 9, 3) := by decide +kernel
theorem dX3_append_13 : decode cX3_append 13 = .ok (.aload_n 0, 1) := by decide +kernel
theorem dX3_append_14 : decode cX3_append 14 = .ok (.getfield 18, 3) := by decide +kernel
theorem dX3_append_17 : decode cX3_append 17 = .ok (.lload_n 1, 1) := by decide +kernel
theorem dX3_append_18 : decode cX3_append 18 = .ok (.lastore, 1) := by decide +kernel
theorem dX3_append_19 : decode cX3_append 19 = .ok (.aload_n 0, 1) := by decide +kernel
theorem dX3_append_20 : decode cX3_append 20 = .ok (.dup, 1) := by decide +kernel
theorem dX3_append_21 : decode cX3_append 21 = .ok (.getfield 18, 3) := by decide +kernel
theorem dX3_append_24 : decode cX3_append 24 = .ok (.iconst 1, 1) := by decide +kernel
theorem dX3_append_25 : decode cX3_append 25 = .ok (.iadd, 1) := by decide +kernel
theorem dX3_append_26 : decode cX3_append 26 = .ok (.putfield 18, 3) := by decide +kernel
theorem dX3_append_29 : decode cX3_append 29 = .ok (.return_, 1) := by decide +kernel
theorem dX3_removeAt_0 : decode cX3_removeAt 0 = .ok (.iload_n 1, 1) := by decide +kernel
theorem dX3_removeAt_1 : decode cX3_removeAt 1 = .ok (.ifCond .lt 11, 3) := by decide +kernel
theorem dX3_removeAt_4 : decode cX3_removeAt 4 = .ok (.iload_n 1, 1) := by decide +kernel
theorem dX3_removeAt_5 : decode cX3_removeAt 5 = .ok (.aload_n 0, 1) := by decide +kernel
theorem dX3_removeAt_6 : decode cX3_removeAt 6 = .ok (.getfield 18, 3) := by decide +kernel
theorem dX3_removeAt_9 : decode cX3_removeAt 9 = .ok (.if_icmp .lt 4, 3) := by decide +kernel
theorem dX3_removeAt_12 : decode cX3_removeAt 12 = .ok (.return_, 1) := by decide +kernel
theorem dX3_removeAt_13 : decode cX3_removeAt 13 = .ok (.iload_n 1, 1) := by decide +kernel
theorem dX3_removeAt_14 : decode cX3_removeAt 14 = .ok (.iconst 1, 1) := by decide +kernel
theorem dX3_removeAt_15 : decode cX3_removeAt 15 = .ok (.iadd, 1) := by decide +kernel
theorem dX3_removeAt_16 : decode cX3_removeAt 16 = .ok (.istore_n 2, 1) := by decide +kernel
theorem dX3_removeAt_17 : decode cX3_removeAt 17 = .ok (.iload_n 2, 1) := by decide +kernel
theorem dX3_removeAt_18 : decode cX3_removeAt 18 = .ok (.aload_n 0, 1) := by decide +kernel
theorem dX3_removeAt_19 : decode cX3_removeAt 19 = .ok (.getfield 18, 3) := by decide +kernel
theorem dX3_removeAt_22 : decode cX3_removeAt 22 = .ok (.if_icmp .ge 23, 3) := by decide +kernel
theorem dX3_removeAt_25 : decode cX3_removeAt 25 = .ok (.aload_n 0, 1) := by decide +kernel
theorem dX3_removeAt_26 : decode cX3_removeAt 26 = .ok (.getfield 9, 3) := by decide +kernel
theorem dX3_removeAt_29 : decode cX3_removeAt 29 = .ok (.iload_n 2, 1) := by decide +kernel
theorem dX3_removeAt_30 : decode cX3_removeAt 30 = .ok (.iconst 1, 1) := by decide +kernel
theorem dX3_removeAt_31 : decode cX3_removeAt 31 = .ok (.isub, 1) := by decide +kernel
theorem dX3_removeAt_32 : decode cX3_removeAt 32 = .ok (.aload_n 0, 1) := by decide +kernel
theorem dX3_removeAt_33 : decode cX3_removeAt 33 = .ok (.getfield 9, 3) := by decide +kernel
theorem dX3_removeAt_36 : decode cX3_removeAt 36 = .ok (.iload_n 2, 1) := by decide +kernel
theorem dX3_removeAt_37 : decode cX3_removeAt 37 = .ok (.laload, 1) := by decide +kernel
theorem dX3_removeAt_38 : decode cX3_removeAt 38 = .ok (.lastore, 1) := by decide +kernel
theorem dX3_removeAt_39 : decode cX3_removeAt 39 = .ok (.iinc 2 1, 3) := by decide +kernel
theorem dX3_removeAt_42 : decode cX3_removeAt 42 = .ok (.goto (-25), 3) := by decide +kernel
theorem dX3_removeAt_45 : decode cX3_removeAt 45 = .ok (.aload_n 0, 1) := by decide +kernel
theorem dX3_removeAt_46 : decode cX3_removeAt 46 = .ok (.dup, 1) := by decide +kernel
theorem dX3_removeAt_47 : decode cX3_removeAt 47 = .ok (.getfield 18, 3) := by decide +kernel
theorem dX3_removeAt_50 : decode cX3_removeAt 50 = .ok (.iconst 1, 1) := by decide +kernel
theorem dX3_removeAt_51 : decode cX3_removeAt 51 = .ok (.isub, 1) := by decide +kernel
theorem dX3_removeAt_52 : decode cX3_removeAt 52 = .ok (.putfield 18, 3) := by decide +kernel
theorem dX3_removeAt_55 : decode cX3_removeAt 55 = .ok (.return_, 1) := by decide +kernel
theorem dX3_removeAll_0 : decode cX3_removeAll 0 = .ok (.aload_n 0, 1) := by decide +kernel
theorem dX3_removeAll_1 : decode cX3_removeAll 1 = .ok (.iconst 0, 1) := by decide +kernel
theorem dX3_removeAll_2 : decode cX3_removeAll 2 = .ok (.putfield 18, 3) := by decide +kernel
theorem dX3_removeAll_5 : decode cX3_removeAll 5 = .ok (.return_, 1) := by decide +kernel
theorem dX3_arrange_0 : decode cX3_arrange 0 = .ok (.aload_n 0, 1) := by decide +kernel
theorem dX3_arrange_1 : decode cX3_arrange 1 = .ok (.getfield 9, 3) := by decide +kernel
theorem dX3_arrange_4 : decode cX3_arrange 4 = .ok (.iconst 0, 1) := by decide +kernel
theorem dX3_arrange_5 : decode cX3_arrange 5 = .ok (.aload_n 0, 1) := by decide +kernel
theorem dX3_arrange_6 : decode cX3_arrange 6 = .ok (.getfield 15, 3) := by decide +kernel
theorem dX3_arrange_9 : decode cX3_arrange 9 = .ok (.iconst 0, 1) := by decide +kernel
theorem dX3_arrange_10 : decode cX3_arrange 10 = .ok (.bipush 12, 2) := by decide +kernel
theorem dX3_arrange_12 : decode cX3_arrange 12 = .ok (.invokestatic 22, 3) := by decide +kernel
theorem dX3_arrange_15 : decode cX3_arrange 15 = .ok (.iconst 1, 1) := by decide +kernel
theorem dX3_arrange_16 : decode cX3_arrange 16 = .ok (.istore_n 2, 1) := by decide +kernel
theorem dX3_arrange_17 : decode cX3_arrange 17 = .ok (.iload_n 2, 1) := by decide +kernel
theorem dX3_arrange_18 : decode cX3_arrange 18 = .ok (.aload_n 0, 1) := by decide +kernel
theorem dX3_arrange_19 : decode cX3_arrange 19 = .ok (.getfield 18, 3) := by decide +kernel
theorem dX3_arrange_22 : decode cX3_arrange 22 = .ok (.if_icmp .ge 89, 3) := by decide +kernel
theorem dX3_arrange_25 : decode cX3_arrange 25 = .ok (.aload_n 0, 1) := by decide +kernel
theorem dX3_arrange_26 : decode cX3_arrange 26 = .ok (.getfield 9, 3) := by decide +kernel
theorem dX3_arrange_29 : decode cX3_arrange 29 = .ok (.iload_n 2, 1) := by decide +kernel
theorem dX3_arrange_30 : decode cX3_arrange 30 = .ok (.laload, 1) := by decide +kernel
theorem dX3_arrange_31 : decode cX3_arrange 31 = .ok (.lstore_n 3, 1) := by decide +kernel
theorem dX3_arrange_32 : decode cX3_arrange 32 = .ok (.iload_n 2, 1) := by decide +kernel
theorem dX3_arrange_33 : decode cX3_arrange 33 = .ok (.istore 5, 2) := by decide +kernel
theorem dX3_arrange_35 : decode cX3_arrange 35 = .ok (.iload 5, 2) := by decide +kernel
theorem dX3_arrange_37 : decode cX3_arrange 37 = .ok (.ifCond .le 60, 3) := by decide +kernel
theorem dX3_arrange_40 : decode cX3_arrange 40 = .ok (.iload_n 1, 1) := by decide +kernel
theorem dX3_arrange_41 : decode cX3_arrange 41 = .ok (.ifCond .eq 20, 3) := by decide +kernel
theorem dX3_arrange_44 : decode cX3_arrange 44 = .ok (.aload_n 0, 1) := by decide +kernel
theorem dX3_arrange_45 : decode cX3_arrange 45 = .ok (.getfield 9, 3) := by decide +kernel
theorem dX3_arrange_48 : decode cX3_arrange 48 = .ok (.iload 5, 2) := by decide +kernel
theorem dX3_arrange_50 : decode cX3_arrange 50 = .ok (.iconst 1, 1) := by decide +kernel
theorem dX3_arrange_51 : decode cX3_arrange 51 = .ok (.isub, 1) := by decide +kernel
theorem dX3_arrange_52 : decode cX3_arrange 52 = .ok (.laload, 1) := by decide +kernel
theorem dX3_arrange_53 : decode cX3_arrange 53 = .ok (.lload_n 3, 1) := by decide +kernel
theorem dX3_arrange_54 : decode cX3_arrange 54 = .ok (.lcmp, 1) := by decide +kernel
theorem dX3_arrange_55 : decode cX3_arrange 55 = .ok (.ifCond .ge 42, 3) := by decide +kernel
theorem dX3_arrange_58 : decode cX3_arrange 58 = .ok (.goto 17, 3) := by decide +kernel
theorem dX3_arrange_61 : decode cX3_arrange 61 = .ok (.aload_n 0, 1) := by decide +kernel
theorem dX3_arrange_62 : decode cX3_arrange 62 = .ok (.getfield 9, 3) := by decide +kernel
theorem dX3_arrange_65 : decode cX3_arrange 65 = .ok (.iload 5, 2) := by decide +kernel
theorem dX3_arrange_67 : decode cX3_arrange 67 = .ok (.iconst 1, 1) := by decide +kernel
theorem dX3_arrange_68 : decode cX3_arrange 68 = .ok (.isub, 1) := by decide +kernel
theorem dX3_arrange_69 : decode cX3_arrange 69 = .ok (.laload, 1) := by decide +kernel
theorem dX3_arrange_70 : decode cX3_arrange 70 = .ok (.lload_n 3, 1) := by decide +kernel
theorem dX3_arrange_71 : decode cX3_arrange 71 = .ok (.lcmp, 1) := by decide +kernel
theorem dX3_arrange_72 : decode cX3_arrange 72 = .ok (.ifCond .le 25, 3) := by decide +kernel
theorem dX3_arrange_75 : decode cX3_arrange 75 = .ok (.aload_n 0, 1) := by decide +kernel
theorem dX3_arrange_76 : decode cX3_arrange 76 = .ok (.getfield 9, 3) := by decide +kernel
theorem dX3_arrange_79 : decode cX3_arrange 79 = .ok (.iload 5, 2) := by decide +kernel
theorem dX3_arrange_81 : decode cX3_arrange 81 = .ok (.aload_n 0, 1) := by decide +kernel
theorem dX3_arrange_82 : decode cX3_arrange 82 = .ok (.getfield 9, 3) := by decide +kernel
theorem dX3_arrange_85 : decode cX3_arrange 85 = .ok (.iload 5, 2) := by decide +kernel
theorem dX3_arrange_87 : decode cX3_arrange 87 = .ok (.iconst 1, 1) := by decide +kernel
theorem dX3_arrange_88 : decode cX3_arrange 88 = .ok (.isub, 1) := by decide +kernel
theorem dX3_arrange_89 : decode cX3_arrange 89 = .ok (.laload, 1) := by decide +kernel
theorem dX3_arrange_90 : decode cX3_arrange 90 = .ok (.lastore, 1) := by decide +kernel
theorem dX3_arrange_91 : decode cX3_arrange 91 = .ok (.iinc 5 (-1), 3) := by decide +kernel
theorem dX3_arrange_94 : decode cX3_arrange 94 = .ok (.goto (-59), 3) := by decide +kernel
theorem dX3_arrange_97 : decode cX3_arrange 97 = .ok (.aload_n 0, 1) := by decide +kernel
theorem dX3_arrange_98 : decode cX3_arrange 98 = .ok (.getfield 9, 3) := by decide +kernel
theorem dX3_arrange_101 : decode cX3_arrange 101 = .ok (.iload 5, 2) := by decide +kernel
theorem dX3_arrange_103 : decode cX3_arrange 103 = .ok (.lload_n 3, 1) := by decide +kernel
theorem dX3_arrange_104 : decode cX3_arrange 104 = .ok (.lastore, 1) := by decide +kernel
theorem dX3_arrange_105 : decode cX3_arrange 105 = .ok (.iinc 2 1, 3) := by decide +kernel
theorem dX3_arrange_108 : decode cX3_arrange 108 = .ok (.goto (-91), 3) := by decide +kernel
theorem dX3_arrange_111 : decode cX3_arrange 111 = .ok (.aload_n 0, 1) := by decide +kernel
theorem dX3_arrange_112 : decode cX3_arrange 112 = .ok (.invokevirtual 28, 3) := by decide +kernel
theorem dX3_arrange_115 : decode cX3_arrange 115 = .ok (.ireturn, 1) := by decide +kernel
theorem dX3_turnEach_0 : decode cX3_turnEach 0 = .ok (.aload_n 0, 1) := by decide +kernel
theorem dX3_turnEach_1 : decode cX3_turnEach 1 = .ok (.getfield 9, 3) := by decide +kernel
theorem dX3_turnEach_4 : decode cX3_turnEach 4 = .ok (.iconst 0, 1) := by decide +kernel
theorem dX3_turnEach_5 : decode cX3_turnEach 5 = .ok (.aload_n 0, 1) := by decide +kernel
theorem dX3_turnEach_6 : decode cX3_turnEach 6 = .ok (.getfield 15, 3) := by decide +kernel
theorem dX3_turnEach_9 : decode cX3_turnEach 9 = .ok (.iconst 0, 1) := by decide +kernel
theorem dX3_turnEach_10 : decode cX3_turnEach 10 = .ok (.bipush 12, 2) := by decide +kernel
theorem dX3_turnEach_12 : decode cX3_turnEach 12 = .ok (.invokestatic 22, 3) := by decide +kernel
theorem dX3_turnEach_15 : decode cX3_turnEach 15 = .ok (.iconst 0, 1) := by decide +kernel
theorem dX3_turnEach_16 : decode cX3_turnEach 16 = .ok (.istore_n 1, 1) := by decide +kernel
theorem dX3_turnEach_17 : decode cX3_turnEach 17 = .ok (.iload_n 1, 1) := by decide +kernel
theorem dX3_turnEach_18 : decode cX3_turnEach 18 = .ok (.aload_n 0, 1) := by decide +kernel
theorem dX3_turnEach_19 : decode cX3_turnEach 19 = .ok (.getfield 18, 3) := by decide +kernel
theorem dX3_turnEach_22 : decode cX3_turnEach 22 = .ok (.if_icmp .ge 24, 3) := by decide +kernel
theorem dX3_turnEach_25 : decode cX3_turnEach 25 = .ok (.aload_n 0, 1) := by decide +kernel
theorem dX3_turnEach_26 : decode cX3_turnEach 26 = .ok (.getfield 9, 3) := by decide +kernel
theorem dX3_turnEach_29 : decode cX3_turnEach 29 = .ok (.iload_n 1, 1) := by decide +kernel
theorem dX3_turnEach_30 : decode cX3_turnEach 30 = .ok (.aload_n 0, 1) := by decide +kernel
theorem dX3_turnEach_31 : decode cX3_turnEach 31 = .ok (.getfield 9, 3) := by decide +kernel
theorem dX3_turnEach_34 : decode cX3_turnEach 34 = .ok (.iload_n 1, 1) := by decide +kernel
theorem dX3_turnEach_35 : decode cX3_turnEach 35 = .ok (.laload, 1) := by decide +kernel
theorem dX3_turnEach_36 : decode cX3_turnEach 36 = .ok (.invokestatic 32, 3) := by decide +kernel
theorem dX3_turnEach_39 : decode cX3_turnEach 39 = .ok (.lastore, 1) := by decide +kernel
theorem dX3_turnEach_40 : decode cX3_turnEach 40 = .ok (.iinc 1 1, 3) := by decide +kernel
theorem dX3_turnEach_43 : decode cX3_turnEach 43 = .ok (.goto (-26), 3) := by decide +kernel
theorem dX3_turnEach_46 : decode cX3_turnEach 46 = .ok (.aload_n 0, 1) := by decide +kernel
theorem dX3_turnEach_47 : decode cX3_turnEach 47 = .ok (.invokevirtual 28, 3) := by decide +kernel
theorem dX3_turnEach_50 : decode cX3_turnEach 50 = .ok (.ireturn, 1) := by decide +kernel
theorem dX3_howManyOthers_0 : decode cX3_howManyOthers 0 = .ok (.iconst 0, 1) := by decide +kernel
theorem dX3_howManyOthers_1 : decode cX3_howManyOthers 1 = .ok (.istore_n 1, 1) := by decide +kernel
theorem dX3_howManyOthers_2 : decode cX3_howManyOthers 2 = .ok (.iconst 0, 1) := by decide +kernel
theorem dX3_howManyOthers_3 : decode cX3_howManyOthers 3 = .ok (.istore_n 2, 1) := by decide +kernel
theorem dX3_howManyOthers_4 : decode cX3_howManyOthers 4 = .ok (.iload_n 2, 1) := by decide +kernel
theorem dX3_howManyOthers_5 : decode cX3_howManyOthers 5 = .ok (.aload_n 0, 1) := by decide +kernel
theorem dX3_howManyOthers_6 : decode cX3_howManyOthers 6 = .ok (.getfield 18, 3) := by decide +kernel
theorem dX3_howManyOthers_9 : decode cX3_howManyOthers 9 = .ok (.if_icmp .ge 28, 3) := by decide +kernel
theorem dX3_howManyOthers_12 : decode cX3_howManyOthers 12 = .ok (.aload_n 0, 1) := by decide +kernel
theorem dX3_howManyOthers_13 : decode cX3_howManyOthers 13 = .ok (.getfield 9, 3) := by decide +kernel
theorem dX3_howManyOthers_16 : decode cX3_howManyOthers 16 = .ok (.iload_n 2, 1) := by decide +kernel
theorem dX3_howManyOthers_17 : decode cX3_howManyOthers 17 = .ok (.laload, 1) := by decide +kernel
theorem dX3_howManyOthers_18 : decode cX3_howManyOthers 18 = .ok (.aload_n 0, 1) := by decide +kernel
theorem dX3_howManyOthers_19 : decode cX3_howManyOthers 19 = .ok (.getfield 15, 3) := by decide +kernel
theorem dX3_howManyOthers_22 : decode cX3_howManyOthers 22 = .ok (.iload_n 2, 1) := by decide +kernel
theorem dX3_howManyOthers_23 : decode cX3_howManyOthers 23 = .ok (.laload, 1) := by decide +kernel
theorem dX3_howManyOthers_24 : decode cX3_howManyOthers 24 = .ok (.lcmp, 1) := by decide +kernel
theorem dX3_howManyOthers_25 : decode cX3_howManyOthers 25 = .ok (.ifCond .eq 6, 3) := by decide +kernel
theorem dX3_howManyOthers_28 : decode cX3_howManyOthers 28 = .ok (.iinc 1 1, 3) := by decide +kernel
theorem dX3_howManyOthers_31 : decode cX3_howManyOthers 31 = .ok (.iinc 2 1, 3) := by decide +kernel
theorem dX3_howManyOthers_34 : decode cX3_howManyOthers 34 = .ok (.goto (-30), 3) := by decide +kernel
theorem dX3_howManyOthers_37 : decode cX3_howManyOthers 37 = .ok (.iload_n 1, 1) := by decide +kernel
theorem dX3_howManyOthers_38 : decode cX3_howManyOthers 38 = .ok (.ireturn, 1) := by decide +kernel
theorem dX3_hasEmpty_0 : decode cX3_hasEmpty 0 = .ok (.iconst 0, 1) := by decide +kernel
theorem dX3_hasEmpty_1 : decode cX3_hasEmpty 1 = .ok (.istore_n 1, 1) := by decide +kernel
theorem dX3_hasEmpty_2 : decode cX3_hasEmpty 2 = .ok (.iload_n 1, 1) := by decide +kernel
theorem dX3_hasEmpty_3 : decode cX3_hasEmpty 3 = .ok (.aload_n 0, 1) := by decide +kernel
theorem dX3_hasEmpty_4 : decode cX3_hasEmpty 4 = .ok (.getfield 18, 3) := by decide +kernel
theorem dX3_hasEmpty_7 : decode cX3_hasEmpty 7 = .ok (.if_icmp .ge 22, 3) := by decide +kernel
theorem dX3_hasEmpty_10 : decode cX3_hasEmpty 10 = .ok (.aload_n 0, 1) := by decide +kernel
theorem dX3_hasEmpty_11 : decode cX3_hasEmpty 11 = .ok (.getfield 9, 3) := by decide +kernel
theorem dX3_hasEmpty_14 : decode cX3_hasEmpty 14 = .ok (.iload_n 1, 1) := by decide +kernel
theorem dX3_hasEmpty_15 : decode cX3_hasEmpty 15 = .ok (.laload, 1) := by decide +kernel
theorem dX3_hasEmpty_16 : decode cX3_hasEmpty 16 = .ok (.lconst 0, 1) := by decide +kernel
theorem dX3_hasEmpty_17 : decode cX3_hasEmpty 17 = .ok (.lcmp, 1) := by decide +kernel
theorem dX3_hasEmpty_18 : decode cX3_hasEmpty 18 = .ok (.ifCond .ne 5, 3) := by decide +kernel
theorem dX3_hasEmpty_21 : decode cX3_hasEmpty 21 = .ok (.iconst 1, 1) := by decide +kernel
theorem dX3_hasEmpty_22 : decode cX3_hasEmpty 22 = .ok (.ireturn, 1) := by decide +kernel
theorem dX3_hasEmpty_23 : decode cX3_hasEmpty 23 = .ok (.iinc 1 1, 3) := by decide +kernel
theorem dX3_hasEmpty_26 : decode cX3_hasEmpty 26 = .ok (.goto (-24), 3) := by decide +kernel
theorem dX3_hasEmpty_29 : decode cX3_hasEmpty 29 = .ok (.iconst 0, 1) := by decide +kernel
theorem dX3_hasEmpty_30 : decode cX3_hasEmpty 30 = .ok (.ireturn, 1) := by decide +kernel
theorem dX3_degreesTogether_0 : decode cX3_degreesTogether 0 = .ok (.iconst 0, 1) := by decide +kernel
theorem dX3_degreesTogether_1 : decode cX3_degreesTogether 1 = .ok (.istore_n 1, 1) := by decide +kernel
theorem dX3_degreesTogether_2 : decode cX3_degreesTogether 2 = .ok (.iconst 0, 1) := by decide +kernel
theorem dX3_degreesTogether_3 : decode cX3_degreesTogether 3 = .ok (.istore_n 2, 1) := by decide +kernel
theorem dX3_degreesTogether_4 : decode cX3_degreesTogether 4 = .ok (.iload_n 2, 1) := by decide +kernel
theorem dX3_degreesTogether_5 : decode cX3_degreesTogether 5 = .ok (.aload_n 0, 1) := by decide +kernel
theorem dX3_degreesTogether_6 : decode cX3_degreesTogether 6 = .ok (.getfield 18, 3) := by decide +kernel
theorem dX3_degreesTogether_9 : decode cX3_degreesTogether 9 = .ok (.if_icmp .ge 21, 3) := by decide +kernel
theorem dX3_degreesTogether_12 : decode cX3_degreesTogether 12 = .ok (.iload_n 1, 1) := by decide +kernel
theorem dX3_degreesTogether_13 : decode cX3_degreesTogether 13 = .ok (.aload_n 0, 1) := by decide +kernel
theorem dX3_degreesTogether_14 : decode cX3_degreesTogether 14 = .ok (.getfield 9, 3) := by decide +kernel
theorem dX3_degreesTogether_17 : decode cX3_degreesTogether 17 = .ok (.iload_n 2, 1) := by decide +kernel
theorem dX3_degreesTogether_18 : decode cX3_degreesTogether 18 = .ok (.laload, 1) := by decide +kernel
theorem dX3_degreesTogether_19 : decode cX3_degreesTogether 19 = .ok (.invokestatic 38, 3) := by decide +kernel
theorem dX3_degreesTogether_22 : decode cX3_degreesTogether 22 = .ok (.iadd, 1) := by decide +kernel
theorem dX3_degreesTogether_23 : decode cX3_degreesTogether 23 = .ok (.istore_n 1, 1) := by decide +kernel
theorem dX3_degreesTogether_24 : decode cX3_degreesTogether 24 = .ok (.iinc 2 1, 3) := by decide +kernel
theorem dX3_degreesTogether_27 : decode cX3_degreesTogether 27 = .ok (.goto (-23), 3) := by decide +kernel
theorem dX3_degreesTogether_30 : decode cX3_degreesTogether 30 = .ok (.iload_n 1, 1) := by decide +kernel
theorem dX3_degreesTogether_31 : decode cX3_degreesTogether 31 = .ok (.ireturn, 1) := by decide +kernel
theorem dX3_multipliedAll_0 : decode cX3_multipliedAll 0 = .ok (.aload_n 0, 1) := by decide +kernel
theorem dX3_multipliedAll_1 : decode cX3_multipliedAll 1 = .ok (.invokevirtual 42, 3) := by decide +kernel
theorem dX3_multipliedAll_4 : decode cX3_multipliedAll 4 = .ok (.ifCond .eq 5, 3) := by decide +kernel
theorem dX3_multipliedAll_7 : decode cX3_multipliedAll 7 = .ok (.lconst 0, 1) := by decide +kernel
theorem dX3_multipliedAll_8 : decode cX3_multipliedAll 8 = .ok (.lreturn, 1) := by decide +kernel
theorem dX3_multipliedAll_9 : decode cX3_multipliedAll 9 = .ok (.lconst 1, 1) := by decide +kernel
theorem dX3_multipliedAll_10 : decode cX3_multipliedAll 10 = .ok (.lstore_n 1, 1) := by decide +kernel
theorem dX3_multipliedAll_11 : decode cX3_multipliedAll 11 = .ok (.iconst 0, 1) := by decide +kernel
theorem dX3_multipliedAll_12 : decode cX3_multipliedAll 12 = .ok (.istore_n 3, 1) := by decide +kernel
theorem dX3_multipliedAll_13 : decode cX3_multipliedAll 13 = .ok (.iload_n 3, 1) := by decide +kernel
theorem dX3_multipliedAll_14 : decode cX3_multipliedAll 14 = .ok (.aload_n 0, 1) := by decide +kernel
theorem dX3_multipliedAll_15 : decode cX3_multipliedAll 15 = .ok (.getfield 18, 3) := by decide +kernel
theorem dX3_multipliedAll_18 : decode cX3_multipliedAll 18 = .ok (.if_icmp .ge 20, 3) := by decide +kernel
theorem dX3_multipliedAll_21 : decode cX3_multipliedAll 21 = .ok (.lload_n 1, 1) := by decide +kernel
theorem dX3_multipliedAll_22 : decode cX3_multipliedAll 22 = .ok (.aload_n 0, 1) := by decide +kernel
theorem dX3_multipliedAll_23 : decode cX3_multipliedAll 23 = .ok (.getfield 9, 3) := by decide +kernel
theorem dX3_multipliedAll_26 : decode cX3_multipliedAll 26 = .ok (.iload_n 3, 1) := by decide +kernel
theorem dX3_multipliedAll_27 : decode cX3_multipliedAll 27 = .ok (.laload, 1) := by decide +kernel
theorem dX3_multipliedAll_28 : decode cX3_multipliedAll 28 = .ok (.invokestatic 46, 3) := by decide +kernel
theorem dX3_multipliedAll_31 : decode cX3_multipliedAll 31 = .ok (.lstore_n 1, 1) := by decide +kernel
theorem dX3_multipliedAll_32 : decode cX3_multipliedAll 32 = .ok (.iinc 3 1, 3) := by decide +kernel
theorem dX3_multipliedAll_35 : decode cX3_multipliedAll 35 = .ok (.goto (-22), 3) := by decide +kernel
theorem dX3_multipliedAll_38 : decode cX3_multipliedAll 38 = .ok (.lload_n 1, 1) := by decide +kernel
theorem dX3_multipliedAll_39 : decode cX3_multipliedAll 39 = .ok (.lreturn, 1) := by decide +kernel
theorem dX3_isSameAs_0 : decode cX3_isSameAs 0 = .ok (.aload_n 0, 1) := by decide +kernel
theorem dX3_isSameAs_1 : decode cX3_isSameAs 1 = .ok (.getfield 18, 3) := by decide +kernel
theorem dX3_isSameAs_4 : decode cX3_isSameAs 4 = .ok (.aload_n 1, 1) := by decide +kernel
theorem dX3_isSameAs_5 : decode cX3_isSameAs 5 = .ok (.getfield 18, 3) := by decide +kernel
theorem dX3_isSameAs_8 : decode cX3_isSameAs 8 = .ok (.if_icmp .eq 5, 3) := by decide +kernel
theorem dX3_isSameAs_11 : decode cX3_isSameAs 11 = .ok (.iconst 0, 1) := by decide +kernel
theorem dX3_isSameAs_12 : decode cX3_isSameAs 12 = .ok (.ireturn, 1) := by decide +kernel
theorem dX3_isSameAs_13 : decode cX3_isSameAs 13 = .ok (.iconst 0, 1) := by decide +kernel
theorem dX3_isSameAs_14 : decode cX3_isSameAs 14 = .ok (.istore_n 2, 1) := by decide +kernel
theorem dX3_isSameAs_15 : decode cX3_isSameAs 15 = .ok (.iload_n 2, 1) := by decide +kernel
theorem dX3_isSameAs_16 : decode cX3_isSameAs 16 = .ok (.aload_n 0, 1) := by decide +kernel
theorem dX3_isSameAs_17 : decode cX3_isSameAs 17 = .ok (.getfield 18, 3) := by decide +kernel
theorem dX3_isSameAs_20 : decode cX3_isSameAs 20 = .ok (.if_icmp .ge 27, 3) := by decide +kernel
theorem dX3_isSameAs_23 : decode cX3_isSameAs 23 = .ok (.aload_n 0, 1) := by decide +kernel
theorem dX3_isSameAs_24 : decode cX3_isSameAs 24 = .ok (.getfield 9, 3) := by decide +kernel
theorem dX3_isSameAs_27 : decode cX3_isSameAs 27 = .ok (.iload_n 2, 1) := by decide +kernel
theorem dX3_isSameAs_28 : decode cX3_isSameAs 28 = .ok (.laload, 1) := by decide +kernel
theorem dX3_isSameAs_29 : decode cX3_isSameAs 29 = .ok (.aload_n 1, 1) := by decide +kernel
theorem dX3_isSameAs_30 : decode cX3_isSameAs 30 = .ok (.getfield 9, 3) := by decide +kernel
theorem dX3_isSameAs_33 : decode cX3_isSameAs 33 = .ok (.iload_n 2, 1) := by decide +kernel
theorem dX3_isSameAs_34 : decode cX3_isSameAs 34 = .ok (.laload, 1) := by decide +kernel
theorem dX3_isSameAs_35 : decode cX3_isSameAs 35 = .ok (.lcmp, 1) := by decide +kernel
theorem dX3_isSameAs_36 : decode cX3_isSameAs 36 = .ok (.ifCond .eq 5, 3) := by decide +kernel
theorem dX3_isSameAs_39 : decode cX3_isSameAs 39 = .ok (.iconst 0, 1) := by decide +kernel
theorem dX3_isSameAs_40 : decode cX3_isSameAs 40 = .ok (.ireturn, 1) := by decide +kernel
theorem dX3_isSameAs_41 : decode cX3_isSameAs 41 = .ok (.iinc 2 1, 3) := by decide +kernel
theorem dX3_isSameAs_44 : decode cX3_isSameAs 44 = .ok (.goto (-29), 3) := by decide +kernel
theorem dX3_isSameAs_47 : decode cX3_isSameAs 47 = .ok (.iconst 1, 1) := by decide +kernel
theorem dX3_isSameAs_48 : decode cX3_isSameAs 48 = .ok (.ireturn, 1) := by decide +kernel
theorem dX4_init_0 : decode cX4_init 0 = .ok (.aload_n 0, 1) := by decide +kernel
theorem dX4_init_1 : decode cX4_init 1 = .ok (.invokespecial 3, 3) := by decide +kernel
theorem dX4_init_4 : decode cX4_init 4 = .ok (.return_, 1) := by decide +kernel
theorem dX4_workOut_0 : decode cX4_workOut 0 = .ok (.aload_n 0, 1) := by decide +kernel
theorem dX4_workOut_1 : decode cX4_workOut 1 = .ok (.lload_n 1, 1) := by decide +kernel
theorem dX4_workOut_2 : decode cX4_workOut 2 = .ok (.putfield 9, 3) := by decide +kernel
theorem dX4_workOut_5 : decode cX4_workOut 5 = .ok (.aload_n 0, 1) := by decide +kernel
theorem dX4_workOut_6 : decode cX4_workOut 6 = .ok (.lconst 1, 1) := by decide +kernel
theorem dX4_workOut_7 : decode cX4_workOut 7 = .ok (.putfield 15, 3) := by decide +kernel
theorem dX4_workOut_10 : decode cX4_workOut 10 = .ok (.aload_n 0, 1) := by decide +kernel
theorem dX4_workOut_11 : decode cX4_workOut 11 = .ok (.lconst 0, 1) := by decide +kernel
theorem dX4_workOut_12 : decode cX4_workOut 12 = .ok (.putfield 18, 3) := by decide +kernel
theorem dX4_workOut_15 : decode cX4_workOut 15 = .ok (.aload_n 0, 1) := by decide +kernel
theorem dX4_workOut_16 : decode cX4_workOut 16 = .ok (.lload_n 3, 1) := by decide +kernel
theorem dX4_workOut_17 : decode cX4_workOut 17 = .ok (.putfield 21, 3) := by decide +kernel
theorem dX4_workOut_20 : decode cX4_workOut 20 = .ok (.aload_n 0, 1) := by decide +kernel
theorem dX4_workOut_21 : decode cX4_workOut 21 = .ok (.lconst 0, 1) := by decide +kernel
theorem dX4_workOut_22 : decode cX4_workOut 22 = .ok (.putfield 24, 3) := by decide +kernel
theorem dX4_workOut_25 : decode cX4_workOut 25 = .ok (.aload_n 0, 1) := by decide +kernel
theorem dX4_workOut_26 : decode cX4_workOut 26 = .ok (.lconst 1, 1) := by decide +kernel
theorem dX4_workOut_27 : decode cX4_workOut 27 = .ok (.putfield 27, 3) := by decide +kernel
theorem dX4_workOut_30 : decode cX4_workOut 30 = .ok (.iconst 0, 1) := by decide +kernel
theorem dX4_workOut_31 : decode cX4_workOut 31 = .ok (.istore 5, 2) := by decide +kernel
theorem dX4_workOut_33 : decode cX4_workOut 33 = .ok (.iload 5, 2) := by decide +kernel
theorem dX4_workOut_35 : decode cX4_workOut 35 = .ok (.sipush 1000, 3) := by decide +kernel
theorem dX4_workOut_38 : decode cX4_workOut 38 = .ok (.if_icmp .ge 33, 3) := by decide +kernel
theorem dX4_workOut_41 : decode cX4_workOut 41 = .ok (.aload_n 0, 1) := by decide +kernel
theorem dX4_workOut_42 : decode cX4_workOut 42 = .ok (.getfield 21, 3) := by decide +kernel
theorem dX4_workOut_45 : decode cX4_workOut 45 = .ok (.lconst 0, 1) := by decide +kernel
theorem dX4_workOut_46 : decode cX4_workOut 46 = .ok (.lcmp, 1) := by decide +kernel
theorem dX4_workOut_47 : decode cX4_workOut 47 = .ok (.ifCond .eq 24, 3) := by decide +kernel
theorem dX4_workOut_50 : decode cX4_workOut 50 = .ok (.aload_n 0, 1) := by decide +kernel
theorem dX4_workOut_51 : decode cX4_workOut 51 = .ok (.aload_n 0, 1) := by decide +kernel
theorem dX4_workOut_52 : decode cX4_workOut 52 = .ok (.getfield 9, 3) := by decide +kernel
theorem dX4_workOut_55 : decode cX4_workOut 55 = .ok (.aload_n 0, 1) := by decide +kernel
theorem dX4_workOut_56 : decode cX4_workOut 56 = .ok (.getfield 21, 3) := by decide +kernel
theorem dX4_workOut_59 : decode cX4_workOut 59 = .ok (.invokestatic 30, 3) := by decide +kernel
theorem dX4_workOut_62 : decode cX4_workOut 62 = .ok (.invokevirtual 36, 3) := by decide +kernel
theorem dX4_workOut_65 : decode cX4_workOut 65 = .ok (.iinc 5 1, 3) := by decide +kernel
theorem dX4_workOut_68 : decode cX4_workOut 68 = .ok (.goto (-35), 3) := by decide +kernel
theorem dX4_workOut_71 : decode cX4_workOut 71 = .ok (.return_, 1) := by decide +kernel
theorem dX4_goOn_0 : decode cX4_goOn 0 = .ok (.aload_n 0, 1) := by decide +kernel
theorem dX4_goOn_1 : decode cX4_goOn 1 = .ok (.getfield 9, 3) := by decide +kernel
theorem dX4_goOn_4 : decode cX4_goOn 4 = .ok (.lload_n 1, 1) := by decide +kernel
theorem dX4_goOn_5 : decode cX4_goOn 5 = .ok (.aload_n 0, 1) := by decide +kernel
theorem dX4_goOn_6 : decode cX4_goOn 6 = .ok (.getfield 21, 3) := by decide +kernel
theorem dX4_goOn_9 : decode cX4_goOn 9 = .ok (.invokestatic 40, 3) := by decide +kernel
theorem dX4_goOn_12 : decode cX4_goOn 12 = .ok (.lxor, 1) := by decide +kernel
theorem dX4_goOn_13 : decode cX4_goOn 13 = .ok (.lstore_n 3, 1) := by decide +kernel
theorem dX4_goOn_14 : decode cX4_goOn 14 = .ok (.aload_n 0, 1) := by decide +kernel
theorem dX4_goOn_15 : decode cX4_goOn 15 = .ok (.getfield 15, 3) := by decide +kernel
theorem dX4_goOn_18 : decode cX4_goOn 18 = .ok (.lload_n 1, 1) := by decide +kernel
theorem dX4_goOn_19 : decode cX4_goOn 19 = .ok (.aload_n 0, 1) := by decide +kernel
theorem dX4_goOn_20 : decode cX4_goOn 20 = .ok (.getfield 24, 3) := by decide +kernel
theorem dX4_goOn_23 : decode cX4_goOn 23 = .ok (.invokestatic 40, 3) := by decide +kernel
theorem dX4_goOn_26 : decode cX4_goOn 26 = .ok (.lxor, 1) := by decide +kernel
theorem dX4_goOn_27 : decode cX4_goOn 27 = .ok (.lstore 5, 2) := by decide +kernel
theorem dX4_goOn_29 : decode cX4_goOn 29 = .ok (.aload_n 0, 1) := by decide +kernel
theorem dX4_goOn_30 : decode cX4_goOn 30 = .ok (.getfield 18, 3) := by decide +kernel
theorem dX4_goOn_33 : decode cX4_goOn 33 = .ok (.lload_n 1, 1) := by decide +kernel
theorem dX4_goOn_34 : decode cX4_goOn 34 = .ok (.aload_n 0, 1) := by decide +kernel
theorem dX4_goOn_35 : decode cX4_goOn 35 = .ok (.getfield 27, 3) := by decide +kernel
theorem dX4_goOn_38 : decode cX4_goOn 38 = .ok (.invokestatic 40, 3) := by decide +kernel
theorem dX4_goOn_41 : decode cX4_goOn 41 = .ok (.lxor, 1) := by decide +kernel
theorem dX4_goOn_42 : decode cX4_goOn 42 = .ok (.lstore 7, 2) := by decide +kernel
theorem dX4_goOn_44 : decode cX4_goOn 44 = .ok (.aload_n 0, 1) := by decide +kernel
theorem dX4_goOn_45 : decode cX4_goOn 45 = .ok (.aload_n 0, 1) := by decide +kernel
theorem dX4_goOn_46 : decode cX4_goOn 46 = .ok (.getfield 21, 3) := by decide +kernel
theorem dX4_goOn_49 : decode cX4_goOn 49 = .ok (.putfield 9, 3) := by decide +kernel
theorem dX4_goOn_52 : decode cX4_goOn 52 = .ok (.aload_n 0, 1) := by decide +kernel
theorem dX4_goOn_53 : decode cX4_goOn 53 = .ok (.aload_n 0, 1) := by decide +kernel
theorem dX4_goOn_54 : decode cX4_goOn 54 = .ok (.getfield 24, 3) := by decide +kernel
theorem dX4_goOn_57 : decode cX4_goOn 57 = .ok (.putfield 15, 3) := by decide +kernel
theorem dX4_goOn_60 : decode cX4_goOn 60 = .ok (.aload_n 0, 1) := by decide +kernel
theorem dX4_goOn_61 : decode cX4_goOn 61 = .ok (.aload_n 0, 1) := by decide +kernel
theorem dX4_goOn_62 : decode cX4_goOn 62 = .ok (.getfield 27, 3) := by decide +kernel
theorem dX4_goOn_65 : decode cX4_goOn 65 = .ok (.putfield 18, 3) := by decide +kernel
theorem dX4_goOn_68 : decode cX4_goOn 68 = .ok (.aload_n 0, 1) := by decide +kernel
theorem dX4_goOn_69 : decode cX4_goOn 69 = .ok (.lload_n 3, 1) := by decide +kernel
theorem dX4_goOn_70 : decode cX4_goOn 70 = .ok (.putfield 21, 3) := by decide +kernel
theorem dX4_goOn_73 : decode cX4_goOn 73 = .ok (.aload_n 0, 1) := by decide +kernel
theorem dX4_goOn_74 : decode cX4_goOn 74 = .ok (.lload 5, 2) := by decide +kernel
theorem dX4_goOn_76 : decode cX4_goOn 76 = .ok (.putfield 24, 3) := by decide +kernel
theorem dX4_goOn_79 : decode cX4_goOn 79 = .ok (.aload_n 0, 1) := by decide +kernel
theorem dX4_goOn_80 : decode cX4_goOn 80 = .ok (.lload 7, 2) := by decide +kernel
theorem dX4_goOn_82 : decode cX4_goOn 82 = .ok (.putfield 27, 3) := by decide +kernel
theorem dX4_goOn_85 : decode cX4_goOn 85 = .ok (.return_, 1) := by decide +kernel
theorem dX5_init_0 : decode cX5_init 0 = .ok (.aload_n 0, 1) := by decide +kernel
theorem dX5_init_1 : decode cX5_init 1 = .ok (.invokespecial 3, 3) := by decide +kernel
theorem dX5_init_4 : decode cX5_init 4 = .ok (.aload_n 0, 1) := by decide +kernel
theorem dX5_init_5 : decode cX5_init 5 = .ok (.ldc2_w 9, 3) := by decide +kernel
theorem dX5_init_8 : decode cX5_init 8 = .ok (.putfield 11, 3) := by decide +kernel
theorem dX5_init_11 : decode cX5_init 11 = .ok (.aload_n 0, 1) := by decide +kernel
theorem dX5_init_12 : decode cX5_init 12 = .ok (.lconst 1, 1) := by decide +kernel
theorem dX5_init_13 : decode cX5_init 13 = .ok (.putfield 17, 3) := by decide +kernel
theorem dX5_init_16 : decode cX5_init 16 = .ok (.return_, 1) := by decide +kernel
theorem dX5_beginAnew_0 : decode cX5_beginAnew 0 = .ok (.aload_n 0, 1) := by decide +kernel
theorem dX5_beginAnew_1 : decode cX5_beginAnew 1 = .ok (.lload_n 1, 1) := by decide +kernel
theorem dX5_beginAnew_2 : decode cX5_beginAnew 2 = .ok (.putfield 11, 3) := by decide +kernel
theorem dX5_beginAnew_5 : decode cX5_beginAnew 5 = .ok (.aload_n 0, 1) := by decide +kernel
theorem dX5_beginAnew_6 : decode cX5_beginAnew 6 = .ok (.lload_n 1, 1) := by decide +kernel
theorem dX5_beginAnew_7 : decode cX5_beginAnew 7 = .ok (.invokestatic 20, 3) := by decide +kernel
theorem dX5_beginAnew_10 : decode cX5_beginAnew 10 = .ok (.putfield 17, 3) := by decide +kernel
theorem dX5_beginAnew_13 : decode cX5_beginAnew 13 = .ok (.return_, 1) := by decide +kernel
theorem dX5_cellsBegun_0 : decode cX5_cellsBegun 0 = .ok (.lconst 1, 1) := by decide +kernel
theorem dX5_cellsBegun_1 : decode cX5_cellsBegun 1 = .ok (.lload_n 0, 1) := by decide +kernel
theorem dX5_cellsBegun_2 : decode cX5_cellsBegun 2 = .ok (.invokestatic 24, 3) := by decide +kernel
theorem dX5_cellsBegun_5 : decode cX5_cellsBegun 5 = .ok (.iconst 1, 1) := by decide +kernel
theorem dX5_cellsBegun_6 : decode cX5_cellsBegun 6 = .ok (.isub, 1) := by decide +kernel
theorem dX5_cellsBegun_7 : decode cX5_cellsBegun 7 = .ok (.lshl, 1) := by decide +kernel
theorem dX5_cellsBegun_8 : decode cX5_cellsBegun 8 = .ok (.lreturn, 1) := by decide +kernel
theorem dX5_stepped_0 : decode cX5_stepped 0 = .ok (.lload_n 0, 1) := by decide +kernel
theorem dX5_stepped_1 : decode cX5_stepped 1 = .ok (.lload_n 2, 1) := by decide +kernel
theorem dX5_stepped_2 : decode cX5_stepped 2 = .ok (.land, 1) := by decide +kernel
theorem dX5_stepped_3 : decode cX5_stepped 3 = .ok (.invokestatic 30, 3) := by decide +kernel
theorem dX5_stepped_6 : decode cX5_stepped 6 = .ok (.iconst 1, 1) := by decide +kernel
theorem dX5_stepped_7 : decode cX5_stepped 7 = .ok (.iand, 1) := by decide +kernel
theorem dX5_stepped_8 : decode cX5_stepped 8 = .ok (.i2l, 1) := by decide +kernel
theorem dX5_stepped_9 : decode cX5_stepped 9 = .ok (.lstore 4, 2) := by decide +kernel
theorem dX5_stepped_11 : decode cX5_stepped 11 = .ok (.lload_n 0, 1) := by decide +kernel
theorem dX5_stepped_12 : decode cX5_stepped 12 = .ok (.iconst 1, 1) := by decide +kernel
theorem dX5_stepped_13 : decode cX5_stepped 13 = .ok (.lshr, 1) := by decide +kernel
theorem dX5_stepped_14 : decode cX5_stepped 14 = .ok (.lload 4, 2) := by decide +kernel
theorem dX5_stepped_16 : decode cX5_stepped 16 = .ok (.lload_n 2, 1) := by decide +kernel
theorem dX5_stepped_17 : decode cX5_stepped 17 = .ok (.invokestatic 24, 3) := by decide +kernel
theorem dX5_stepped_20 : decode cX5_stepped 20 = .ok (.iconst 1, 1) := by decide +kernel
theorem dX5_stepped_21 : decode cX5_stepped 21 = .ok (.isub, 1) := by decide +kernel
theorem dX5_stepped_22 : decode cX5_stepped 22 = .ok (.lshl, 1) := by decide +kernel
theorem dX5_stepped_23 : decode cX5_stepped 23 = .ok (.lor, 1) := by decide +kernel
theorem dX5_stepped_24 : decode cX5_stepped 24 = .ok (.lreturn, 1) := by decide +kernel
theorem dX5_goOn_0 : decode cX5_goOn 0 = .ok (.iconst 0, 1) := by decide +kernel
theorem dX5_goOn_1 : decode cX5_goOn 1 = .ok (.istore_n 2, 1) := by decide +kernel
theorem dX5_goOn_2 : decode cX5_goOn 2 = .ok (.iconst 0, 1) := by decide +kernel
theorem dX5_goOn_3 : decode cX5_goOn 3 = .ok (.istore_n 3, 1) := by decide +kernel
theorem dX5_goOn_4 : decode cX5_goOn 4 = .ok (.iload_n 3, 1) := by decide +kernel
theorem dX5_goOn_5 : decode cX5_goOn 5 = .ok (.iload_n 1, 1) := by decide +kernel
theorem dX5_goOn_6 : decode cX5_goOn 6 = .ok (.if_icmp .ge 34, 3) := by decide +kernel
theorem dX5_goOn_9 : decode cX5_goOn 9 = .ok (.iload_n 2, 1) := by decide +kernel
theorem dX5_goOn_10 : decode cX5_goOn 10 = .ok (.aload_n 0, 1) := by decide +kernel
theorem dX5_goOn_11 : decode cX5_goOn 11 = .ok (.getfield 17, 3) := by decide +kernel
theorem dX5_goOn_14 : decode cX5_goOn 14 = .ok (.lconst 1, 1) := by decide +kernel
theorem dX5_goOn_15 : decode cX5_goOn 15 = .ok (.land, 1) := by decide +kernel
theorem dX5_goOn_16 : decode cX5_goOn 16 = .ok (.l2i, 1) := by decide +kernel
theorem dX5_goOn_17 : decode cX5_goOn 17 = .ok (.iadd, 1) := by decide +kernel
theorem dX5_goOn_18 : decode cX5_goOn 18 = .ok (.istore_n 2, 1) := by decide +kernel
theorem dX5_goOn_19 : decode cX5_goOn 19 = .ok (.aload_n 0, 1) := by decide +kernel
theorem dX5_goOn_20 : decode cX5_goOn 20 = .ok (.aload_n 0, 1) := by decide +kernel
theorem dX5_goOn_21 : decode cX5_goOn 21 = .ok (.getfield 17, 3) := by decide +kernel
theorem dX5_goOn_24 : decode cX5_goOn 24 = .ok (.aload_n 0, 1) := by decide +kernel
theorem dX5_goOn_25 : decode cX5_goOn 25 = .ok (.getfield 11, 3) := by decide +kernel
theorem dX5_goOn_28 : decode cX5_goOn 28 = .ok (.invokestatic 33, 3) := by decide +kernel
theorem dX5_goOn_31 : decode cX5_goOn 31 = .ok (.putfield 17, 3) := by decide +kernel
theorem dX5_goOn_34 : decode cX5_goOn 34 = .ok (.iinc 3 1, 3) := by decide +kernel
theorem dX5_goOn_37 : decode cX5_goOn 37 = .ok (.goto (-33), 3) := by decide +kernel
theorem dX5_goOn_40 : decode cX5_goOn 40 = .ok (.iload_n 2, 1) := by decide +kernel
theorem dX5_goOn_41 : decode cX5_goOn 41 = .ok (.ireturn, 1) := by decide +kernel
theorem dX5_stepsTillSame_0 : decode cX5_stepsTillSame 0 = .ok (.lload_n 0, 1) := by decide +kernel
theorem dX5_stepsTillSame_1 : decode cX5_stepsTillSame 1 = .ok (.lstore 4, 2) := by decide +kernel
theorem dX5_stepsTillSame_3 : decode cX5_stepsTillSame 3 = .ok (.iconst 1, 1) := by decide +kernel
theorem dX5_stepsTillSame_4 : decode cX5_stepsTillSame 4 = .ok (.istore 6, 2) := by decide +kernel
theorem dX5_stepsTillSame_6 : decode cX5_stepsTillSame 6 = .ok (.iload 6, 2) := by decide +kernel
theorem dX5_stepsTillSame_8 : decode cX5_stepsTillSame 8 = .ok (.sipush 1000, 3) := by decide +kernel
theorem dX5_stepsTillSame_11 : decode cX5_stepsTillSame 11 = .ok (.if_icmp .ge 27, 3) := by decide +kernel
theorem dX5_stepsTillSame_14 : decode cX5_stepsTillSame 14 = .ok (.lload 4, 2) := by decide +kernel
theorem dX5_stepsTillSame_16 : decode cX5_stepsTillSame 16 = .ok (.lload_n 2, 1) := by decide +kernel
theorem dX5_stepsTillSame_17 : decode cX5_stepsTillSame 17 = .ok (.invokestatic 33, 3) := by decide +kernel
theorem dX5_stepsTillSame_20 : decode cX5_stepsTillSame 20 = .ok (.lstore 4, 2) := by decide +kernel
theorem dX5_stepsTillSame_22 : decode cX5_stepsTillSame 22 = .ok (.lload 4, 2) := by decide +kernel
theorem dX5_stepsTillSame_24 : decode cX5_stepsTillSame 24 = .ok (.lload_n 0, 1) := by decide +kernel
theorem dX5_stepsTillSame_25 : decode cX5_stepsTillSame 25 = .ok (.lcmp, 1) := by decide +kernel
theorem dX5_stepsTillSame_26 : decode cX5_stepsTillSame 26 = .ok (.ifCond .ne 6, 3) := by decide +kernel
theorem dX5_stepsTillSame_29 : decode cX5_stepsTillSame 29 = .ok (.iload 6, 2) := by decide +kernel
theorem dX5_stepsTillSame_31 : decode cX5_stepsTillSame 31 = .ok (.ireturn, 1) := by decide +kernel
theorem dX5_stepsTillSame_32 : decode cX5_stepsTillSame 32 = .ok (.iinc 6 1, 3) := by decide +kernel
theorem dX5_stepsTillSame_35 : decode cX5_stepsTillSame 35 = .ok (.goto (-29), 3) := by decide +kernel
theorem dX5_stepsTillSame_38 : decode cX5_stepsTillSame 38 = .ok (.iconst (-1), 1) := by decide +kernel
theorem dX5_stepsTillSame_39 : decode cX5_stepsTillSame 39 = .ok (.ireturn, 1) := by decide +kernel
theorem dX5_cellDigits_0 : decode cX5_cellDigits 0 = .ok (.new 37, 3) := by decide +kernel
theorem dX5_cellDigits_3 : decode cX5_cellDigits 3 = .ok (.dup, 1) := by decide +kernel
theorem dX5_cellDigits_4 : decode cX5_cellDigits 4 = .ok (.invokespecial 39, 3) := by decide +kernel
theorem dX5_cellDigits_7 : decode cX5_cellDigits 7 = .ok (.astore_n 1, 1) := by decide +kernel
theorem dX5_cellDigits_8 : decode cX5_cellDigits 8 = .ok (.aload_n 0, 1) := by decide +kernel
theorem dX5_cellDigits_9 : decode cX5_cellDigits 9 = .ok (.getfield 11, 3) := by decide +kernel
theorem dX5_cellDigits_12 : decode cX5_cellDigits 12 = .ok (.invokestatic 24, 3) := by decide +kernel
theorem dX5_cellDigits_15 : decode cX5_cellDigits 15 = .ok (.istore_n 2, 1) := by decide +kernel
theorem dX5_cellDigits_16 : decode cX5_cellDigits 16 = .ok (.iconst 0, 1) := by decide +kernel
theorem dX5_cellDigits_17 : decode cX5_cellDigits 17 = .ok (.istore_n 3, 1) := by decide +kernel
theorem dX5_cellDigits_18 : decode cX5_cellDigits 18 = .ok (.iload_n 3, 1) := by decide +kernel
theorem dX5_cellDigits_19 : decode cX5_cellDigits 19 = .ok (.iload_n 2, 1) := by decide +kernel
theorem dX5_cellDigits_20 : decode cX5_cellDigits 20 = .ok (.if_icmp .ge 32, 3) := by decide +kernel
theorem dX5_cellDigits_23 : decode cX5_cellDigits 23 = .ok (.aload_n 1, 1) := by decide +kernel
theorem dX5_cellDigits_24 : decode cX5_cellDigits 24 = .ok (.aload_n 0, 1) := by decide +kernel
theorem dX5_cellDigits_25 : decode cX5_cellDigits 25 = .ok (.getfield 17, 3) := by decide +kernel
theorem dX5_cellDigits_28 : decode cX5_cellDigits 28 = .ok (.iload_n 3, 1) := by decide +kernel
theorem dX5_cellDigits_29 : decode cX5_cellDigits 29 = .ok (.invokestatic 40, 3) := by decide +kernel
theorem dX5_cellDigits_32 : decode cX5_cellDigits 32 = .ok (.ifCond .eq 8, 3) := by decide +kernel
theorem dX5_cellDigits_35 : decode cX5_cellDigits 35 = .ok (.bipush 49, 2) := by decide +kernel
theorem dX5_cellDigits_37 : decode cX5_cellDigits 37 = .ok (.goto 5, 3) := by decide +kernel
theorem dX5_cellDigits_40 : decode cX5_cellDigits 40 = .ok (.bipush 48, 2) := by decide +kernel
theorem dX5_cellDigits_42 : decode cX5_cellDigits 42 = .ok (.invokevirtual 44, 3) := by decide +kernel
theorem dX5_cellDigits_45 : decode cX5_cellDigits 45 = .ok (.pop, 1) := by decide +kernel
theorem dX5_cellDigits_46 : decode cX5_cellDigits 46 = .ok (.iinc 3 1, 3) := by decide +kernel
theorem dX5_cellDigits_49 : decode cX5_cellDigits 49 = .ok (.goto (-31), 3) := by decide +kernel
theorem dX5_cellDigits_52 : decode cX5_cellDigits 52 = .ok (.aload_n 1, 1) := by decide +kernel
theorem dX5_cellDigits_53 : decode cX5_cellDigits 53 = .ok (.invokevirtual 48, 3) := by decide +kernel
theorem dX5_cellDigits_56 : decode cX5_cellDigits 56 = .ok (.areturn, 1) := by decide +kernel
theorem dX6_isWheel_0 : decode cX6_isWheel 0 = .ok (.lload_n 0, 1) := by decide +kernel
theorem dX6_isWheel_1 : decode cX6_isWheel 1 = .ok (.invokestatic 9, 3) := by decide +kernel
theorem dX6_isWheel_4 : decode cX6_isWheel 4 = .ok (.iconst 1, 1) := by decide +kernel
theorem dX6_isWheel_5 : decode cX6_isWheel 5 = .ok (.bipush 8, 2) := by decide +kernel
theorem dX6_isWheel_7 : decode cX6_isWheel 7 = .ok (.invokestatic 15, 3) := by decide +kernel
theorem dX6_isWheel_10 : decode cX6_isWheel 10 = .ok (.ifCond .eq 15, 3) := by decide +kernel
theorem dX6_isWheel_13 : decode cX6_isWheel 13 = .ok (.lload_n 0, 1) := by decide +kernel
theorem dX6_isWheel_14 : decode cX6_isWheel 14 = .ok (.iconst 0, 1) := by decide +kernel
theorem dX6_isWheel_15 : decode cX6_isWheel 15 = .ok (.invokestatic 19, 3) := by decide +kernel
theorem dX6_isWheel_18 : decode cX6_isWheel 18 = .ok (.ifCond .eq 7, 3) := by decide +kernel
theorem dX6_isWheel_21 : decode cX6_isWheel 21 = .ok (.iconst 1, 1) := by decide +kernel
theorem dX6_isWheel_22 : decode cX6_isWheel 22 = .ok (.goto 4, 3) := by decide +kernel
theorem dX6_isWheel_25 : decode cX6_isWheel 25 = .ok (.iconst 0, 1) := by decide +kernel
theorem dX6_isWheel_26 : decode cX6_isWheel 26 = .ok (.ireturn, 1) := by decide +kernel
theorem dX6_periodByMultiplying_0 : decode cX6_periodByMultiplying 0 = .ok (.lconst 1, 1) := by decide +kernel
theorem dX6_periodByMultiplying_1 : decode cX6_periodByMultiplying 1 = .ok (.lstore_n 2, 1) := by decide +kernel
theorem dX6_periodByMultiplying_2 : decode cX6_periodByMultiplying 2 = .ok (.iconst 1, 1) := by decide +kernel
theorem dX6_periodByMultiplying_3 : decode cX6_periodByMultiplying 3 = .ok (.istore 4, 2) := by decide +kernel
theorem dX6_periodByMultiplying_5 : decode cX6_periodByMultiplying 5 = .ok (.iload 4, 2) := by decide +kernel
theorem dX6_periodByMultiplying_7 : decode cX6_periodByMultiplying 7 = .ok (.sipush 1000, 3) := by decide +kernel
theorem dX6_periodByMultiplying_10 : decode cX6_periodByMultiplying 10 = .ok (.if_icmp .ge 26, 3) := by decide +kernel
theorem dX6_periodByMultiplying_13 : decode cX6_periodByMultiplying 13 = .ok (.lload_n 2, 1) := by decide +kernel
theorem dX6_periodByMultiplying_14 : decode cX6_periodByMultiplying 14 = .ok (.iconst 1, 1) := by decide +kernel
theorem dX6_periodByMultiplying_15 : decode cX6_periodByMultiplying 15 = .ok (.lshl, 1) := by decide +kernel
theorem dX6_periodByMultiplying_16 : decode cX6_periodByMultiplying 16 = .ok (.lload_n 0, 1) := by decide +kernel
theorem dX6_periodByMultiplying_17 : decode cX6_periodByMultiplying 17 = .ok (.invokestatic 23, 3) := by decide +kernel
theorem dX6_periodByMultiplying_20 : decode cX6_periodByMultiplying 20 = .ok (.lstore_n 2, 1) := by decide +kernel
theorem dX6_periodByMultiplying_21 : decode cX6_periodByMultiplying 21 = .ok (.lload_n 2, 1) := by decide +kernel
theorem dX6_periodByMultiplying_22 : decode cX6_periodByMultiplying 22 = .ok (.lconst 1, 1) := by decide +kernel
theorem dX6_periodByMultiplying_23 : decode cX6_periodByMultiplying 23 = .ok (.lcmp, 1) := by decide +kernel
theorem dX6_periodByMultiplying_24 : decode cX6_periodByMultiplying 24 = .ok (.ifCond .ne 6, 3) := by decide +kernel
theorem dX6_periodByMultiplying_27 : decode cX6_periodByMultiplying 27 = .ok (.iload 4, 2) := by decide +kernel
theorem dX6_periodByMultiplying_29 : decode cX6_periodByMultiplying 29 = .ok (.ireturn, 1) := by decide +kernel
theorem dX6_periodByMultiplying_30 : decode cX6_periodByMultiplying 30 = .ok (.iinc 4 1, 3) := by decide +kernel
theorem dX6_periodByMultiplying_33 : decode cX6_periodByMultiplying 33 = .ok (.goto (-28), 3) := by decide +kernel
theorem dX6_periodByMultiplying_36 : decode cX6_periodByMultiplying 36 = .ok (.iconst (-1), 1) := by decide +kernel
theorem dX6_periodByMultiplying_37 : decode cX6_periodByMultiplying 37 = .ok (.ireturn, 1) := by decide +kernel
theorem dX6_periodBySteps_0 : decode cX6_periodBySteps 0 = .ok (.lload_n 0, 1) := by decide +kernel
theorem dX6_periodBySteps_1 : decode cX6_periodBySteps 1 = .ok (.invokestatic 27, 3) := by decide +kernel
theorem dX6_periodBySteps_4 : decode cX6_periodBySteps 4 = .ok (.lload_n 0, 1) := by decide +kernel
theorem dX6_periodBySteps_5 : decode cX6_periodBySteps 5 = .ok (.invokestatic 33, 3) := by decide +kernel
theorem dX6_periodBySteps_8 : decode cX6_periodBySteps 8 = .ok (.ireturn, 1) := by decide +kernel
theorem dX6_periodByFactors_0 : decode cX6_periodByFactors 0 = .ok (.iconst 1, 1) := by decide +kernel
theorem dX6_periodByFactors_1 : decode cX6_periodByFactors 1 = .ok (.istore_n 1, 1) := by decide +kernel
theorem dX6_periodByFactors_2 : decode cX6_periodByFactors 2 = .ok (.iconst 0, 1) := by decide +kernel
theorem dX6_periodByFactors_3 : decode cX6_periodByFactors 3 = .ok (.istore_n 2, 1) := by decide +kernel
theorem dX6_periodByFactors_4 : decode cX6_periodByFactors 4 = .ok (.iconst 0, 1) := by decide +kernel
theorem dX6_periodByFactors_5 : decode cX6_periodByFactors 5 = .ok (.istore_n 3, 1) := by decide +kernel
theorem dX6_periodByFactors_6 : decode cX6_periodByFactors 6 = .ok (.iconst 0, 1) := by decide +kernel
theorem dX6_periodByFactors_7 : decode cX6_periodByFactors 7 = .ok (.istore 4, 2) := by decide +kernel
theorem dX6_periodByFactors_9 : decode cX6_periodByFactors 9 = .ok (.iload 4, 2) := by decide +kernel
theorem dX6_periodByFactors_11 : decode cX6_periodByFactors 11 = .ok (.aload_n 0, 1) := by decide +kernel
theorem dX6_periodByFactors_12 : decode cX6_periodByFactors 12 = .ok (.getfield 37, 3) := by decide +kernel
theorem dX6_periodByFactors_15 : decode cX6_periodByFactors 15 = .ok (.if_icmp .ge 77, 3) := by decide +kernel
theorem dX6_periodByFactors_18 : decode cX6_periodByFactors 18 = .ok (.iload 4, 2) := by decide +kernel
theorem dX6_periodByFactors_20 : decode cX6_periodByFactors 20 = .ok (.ifCond .eq 21, 3) := by decide +kernel
theorem dX6_periodByFactors_23 : decode cX6_periodByFactors 23 = .ok (.aload_n 0, 1) := by decide +kernel
theorem dX6_periodByFactors_24 : decode cX6_periodByFactors 24 = .ok (.iload 4, 2) := by decide +kernel
theorem dX6_periodByFactors_26 : decode cX6_periodByFactors 26 = .ok (.invokevirtual 43, 3) := by decide +kernel
theorem dX6_periodByFactors_29 : decode cX6_periodByFactors 29 = .ok (.aload_n 0, 1) := by decide +kernel
theorem dX6_periodByFactors_30 : decode cX6_periodByFactors 30 = .ok (.iload 4, 2) := by decide +kernel
theorem dX6_periodByFactors_32 : decode cX6_periodByFactors 32 = .ok (.iconst 1, 1) := by decide +kernel
theorem dX6_periodByFactors_33 : decode cX6_periodByFactors 33 = .ok (.isub, 1) := by decide +kernel
theorem dX6_periodByFactors_34 : decode cX6_periodByFactors 34 = .ok (.invokevirtual 43, 3) := by decide +kernel
theorem dX6_periodByFactors_37 : decode cX6_periodByFactors 37 = .ok (.lcmp, 1) := by decide +kernel
theorem dX6_periodByFactors_38 : decode cX6_periodByFactors 38 = .ok (.ifCond .eq 7, 3) := by decide +kernel
theorem dX6_periodByFactors_41 : decode cX6_periodByFactors 41 = .ok (.iconst 1, 1) := by decide +kernel
theorem dX6_periodByFactors_42 : decode cX6_periodByFactors 42 = .ok (.goto 4, 3) := by decide +kernel
theorem dX6_periodByFactors_45 : decode cX6_periodByFactors 45 = .ok (.iconst 0, 1) := by decide +kernel
theorem dX6_periodByFactors_46 : decode cX6_periodByFactors 46 = .ok (.istore 5, 2) := by decide +kernel
theorem dX6_periodByFactors_48 : decode cX6_periodByFactors 48 = .ok (.iload 5, 2) := by decide +kernel
theorem dX6_periodByFactors_50 : decode cX6_periodByFactors 50 = .ok (.ifCond .eq 7, 3) := by decide +kernel
theorem dX6_periodByFactors_53 : decode cX6_periodByFactors 53 = .ok (.iconst 1, 1) := by decide +kernel
theorem dX6_periodByFactors_54 : decode cX6_periodByFactors 54 = .ok (.goto 6, 3) := by decide +kernel
theorem dX6_periodByFactors_57 : decode cX6_periodByFactors 57 = .ok (.iload_n 3, 1) := by decide +kernel
theorem dX6_periodByFactors_58 : decode cX6_periodByFactors 58 = .ok (.iconst 1, 1) := by decide +kernel
theorem dX6_periodByFactors_59 : decode cX6_periodByFactors 59 = .ok (.iadd, 1) := by decide +kernel
theorem dX6_periodByFactors_60 : decode cX6_periodByFactors 60 = .ok (.istore_n 3, 1) := by decide +kernel
theorem dX6_periodByFactors_61 : decode cX6_periodByFactors 61 = .ok (.iload_n 2, 1) := by decide +kernel
theorem dX6_periodByFactors_62 : decode cX6_periodByFactors 62 = .ok (.iload_n 3, 1) := by decide +kernel
theorem dX6_periodByFactors_63 : decode cX6_periodByFactors 63 = .ok (.invokestatic 47, 3) := by decide +kernel
theorem dX6_periodByFactors_66 : decode cX6_periodByFactors 66 = .ok (.istore_n 2, 1) := by decide +kernel
theorem dX6_periodByFactors_67 : decode cX6_periodByFactors 67 = .ok (.iload 5, 2) := by decide +kernel
theorem dX6_periodByFactors_69 : decode cX6_periodByFactors 69 = .ok (.ifCond .eq 17, 3) := by decide +kernel
theorem dX6_periodByFactors_72 : decode cX6_periodByFactors 72 = .ok (.iload_n 1, 1) := by decide +kernel
theorem dX6_periodByFactors_73 : decode cX6_periodByFactors 73 = .ok (.aload_n 0, 1) := by decide +kernel
theorem dX6_periodByFactors_74 : decode cX6_periodByFactors 74 = .ok (.iload 4, 2) := by decide +kernel
theorem dX6_periodByFactors_76 : decode cX6_periodByFactors 76 = .ok (.invokevirtual 43, 3) := by decide +kernel
theorem dX6_periodByFactors_79 : decode cX6_periodByFactors 79 = .ok (.invokestatic 53, 3) := by decide +kernel
theorem dX6_periodByFactors_82 : decode cX6_periodByFactors 82 = .ok (.invokestatic 58, 3) := by decide +kernel
theorem dX6_periodByFactors_85 : decode cX6_periodByFactors 85 = .ok (.istore_n 1, 1) := by decide +kernel
theorem dX6_periodByFactors_86 : decode cX6_periodByFactors 86 = .ok (.iinc 4 1, 3) := by decide +kernel
theorem dX6_periodByFactors_89 : decode cX6_periodByFactors 89 = .ok (.goto (-80), 3) := by decide +kernel
theorem dX6_periodByFactors_92 : decode cX6_periodByFactors 92 = .ok (.iload_n 1, 1) := by decide +kernel
theorem dX6_periodByFactors_93 : decode cX6_periodByFactors 93 = .ok (.iload_n 2, 1) := by decide +kernel
theorem dX6_periodByFactors_94 : decode cX6_periodByFactors 94 = .ok (.invokestatic 61, 3) := by decide +kernel
theorem dX6_periodByFactors_97 : decode cX6_periodByFactors 97 = .ok (.imul, 1) := by decide +kernel
theorem dX6_periodByFactors_98 : decode cX6_periodByFactors 98 = .ok (.ireturn, 1) := by decide +kernel
theorem dX6_leastMultiple_0 : decode cX6_leastMultiple 0 = .ok (.iload_n 0, 1) := by decide +kernel
theorem dX6_leastMultiple_1 : decode cX6_leastMultiple 1 = .ok (.istore_n 2, 1) := by decide +kernel
theorem dX6_leastMultiple_2 : decode cX6_leastMultiple 2 = .ok (.iload_n 1, 1) := by decide +kernel
theorem dX6_leastMultiple_3 : decode cX6_leastMultiple 3 = .ok (.istore_n 3, 1) := by decide +kernel
theorem dX6_leastMultiple_4 : decode cX6_leastMultiple 4 = .ok (.iconst 0, 1) := by decide +kernel
theorem dX6_leastMultiple_5 : decode cX6_leastMultiple 5 = .ok (.istore 4, 2) := by decide +kernel
theorem dX6_leastMultiple_7 : decode cX6_leastMultiple 7 = .ok (.iload 4, 2) := by decide +kernel
theorem dX6_leastMultiple_9 : decode cX6_leastMultiple 9 = .ok (.sipush 1000, 3) := by decide +kernel
theorem dX6_leastMultiple_12 : decode cX6_leastMultiple 12 = .ok (.if_icmp .ge 23, 3) := by decide +kernel
theorem dX6_leastMultiple_15 : decode cX6_leastMultiple 15 = .ok (.iload_n 3, 1) := by decide +kernel
theorem dX6_leastMultiple_16 : decode cX6_leastMultiple 16 = .ok (.ifCond .eq 19, 3) := by decide +kernel
theorem dX6_leastMultiple_19 : decode cX6_leastMultiple 19 = .ok (.iload_n 2, 1) := by decide +kernel
theorem dX6_leastMultiple_20 : decode cX6_leastMultiple 20 = .ok (.iload_n 3, 1) := by decide +kernel
theorem dX6_leastMultiple_21 : decode cX6_leastMultiple 21 = .ok (.irem, 1) := by decide +kernel
theorem dX6_leastMultiple_22 : decode cX6_leastMultiple 22 = .ok (.istore 5, 2) := by decide +kernel
theorem dX6_leastMultiple_24 : decode cX6_leastMultiple 24 = .ok (.iload_n 3, 1) := by decide +kernel
theorem dX6_leastMultiple_25 : decode cX6_leastMultiple 25 = .ok (.istore_n 2, 1) := by decide +kernel
theorem dX6_leastMultiple_26 : decode cX6_leastMultiple 26 = .ok (.iload 5, 2) := by decide +kernel
theorem dX6_leastMultiple_28 : decode cX6_leastMultiple 28 = .ok (.istore_n 3, 1) := by decide +kernel
theorem dX6_leastMultiple_29 : decode cX6_leastMultiple 29 = .ok (.iinc 4 1, 3) := by decide +kernel
theorem dX6_leastMultiple_32 : decode cX6_leastMultiple 32 = .ok (.goto (-25), 3) := by decide +kernel
theorem dX6_leastMultiple_35 : decode cX6_leastMultiple 35 = .ok (.iload_n 2, 1) := by decide +kernel
theorem dX6_leastMultiple_36 : decode cX6_leastMultiple 36 = .ok (.ifCond .ne 7, 3) := by decide +kernel
theorem dX6_leastMultiple_39 : decode cX6_leastMultiple 39 = .ok (.iconst 0, 1) := by decide +kernel
theorem dX6_leastMultiple_40 : decode cX6_leastMultiple 40 = .ok (.goto 8, 3) := by decide +kernel
theorem dX6_leastMultiple_43 : decode cX6_leastMultiple 43 = .ok (.iload_n 0, 1) := by decide +kernel
theorem dX6_leastMultiple_44 : decode cX6_leastMultiple 44 = .ok (.iload_n 2, 1) := by decide +kernel
theorem dX6_leastMultiple_45 : decode cX6_leastMultiple 45 = .ok (.idiv, 1) := by decide +kernel
theorem dX6_leastMultiple_46 : decode cX6_leastMultiple 46 = .ok (.iload_n 1, 1) := by decide +kernel
theorem dX6_leastMultiple_47 : decode cX6_leastMultiple 47 = .ok (.imul, 1) := by decide +kernel
theorem dX6_leastMultiple_48 : decode cX6_leastMultiple 48 = .ok (.ireturn, 1) := by decide +kernel
theorem dX6_leastPowerOfTwo_0 : decode cX6_leastPowerOfTwo 0 = .ok (.iconst 1, 1) := by decide +kernel
theorem dX6_leastPowerOfTwo_1 : decode cX6_leastPowerOfTwo 1 = .ok (.istore_n 1, 1) := by decide +kernel
theorem dX6_leastPowerOfTwo_2 : decode cX6_leastPowerOfTwo 2 = .ok (.iconst 0, 1) := by decide +kernel
theorem dX6_leastPowerOfTwo_3 : decode cX6_leastPowerOfTwo 3 = .ok (.istore_n 2, 1) := by decide +kernel
theorem dX6_leastPowerOfTwo_4 : decode cX6_leastPowerOfTwo 4 = .ok (.iload_n 2, 1) := by decide +kernel
theorem dX6_leastPowerOfTwo_5 : decode cX6_leastPowerOfTwo 5 = .ok (.bipush 10, 2) := by decide +kernel
theorem dX6_leastPowerOfTwo_7 : decode cX6_leastPowerOfTwo 7 = .ok (.if_icmp .ge 18, 3) := by decide +kernel
theorem dX6_leastPowerOfTwo_10 : decode cX6_leastPowerOfTwo 10 = .ok (.iload_n 1, 1) := by decide +kernel
theorem dX6_leastPowerOfTwo_11 : decode cX6_leastPowerOfTwo 11 = .ok (.iload_n 0, 1) := by decide +kernel
theorem dX6_leastPowerOfTwo_12 : decode cX6_leastPowerOfTwo 12 = .ok (.if_icmp .ge 13, 3) := by decide +kernel
theorem dX6_leastPowerOfTwo_15 : decode cX6_leastPowerOfTwo 15 = .ok (.iload_n 1, 1) := by decide +kernel
theorem dX6_leastPowerOfTwo_16 : decode cX6_leastPowerOfTwo 16 = .ok (.iconst 2, 1) := by decide +kernel
theorem dX6_leastPowerOfTwo_17 : decode cX6_leastPowerOfTwo 17 = .ok (.imul, 1) := by decide +kernel
theorem dX6_leastPowerOfTwo_18 : decode cX6_leastPowerOfTwo 18 = .ok (.istore_n 1, 1) := by decide +kernel
theorem dX6_leastPowerOfTwo_19 : decode cX6_leastPowerOfTwo 19 = .ok (.iinc 2 1, 3) := by decide +kernel
theorem dX6_leastPowerOfTwo_22 : decode cX6_leastPowerOfTwo 22 = .ok (.goto (-18), 3) := by decide +kernel
theorem dX6_leastPowerOfTwo_25 : decode cX6_leastPowerOfTwo 25 = .ok (.iload_n 1, 1) := by decide +kernel
theorem dX6_leastPowerOfTwo_26 : decode cX6_leastPowerOfTwo 26 = .ok (.ireturn, 1) := by decide +kernel
theorem dX7_init_0 : decode cX7_init 0 = .ok (.aload_n 0, 1) := by decide +kernel
theorem dX7_init_1 : decode cX7_init 1 = .ok (.invokespecial 1, 3) := by decide +kernel
theorem dX7_init_4 : decode cX7_init 4 = .ok (.aload_n 0, 1) := by decide +kernel
theorem dX7_init_5 : decode cX7_init 5 = .ok (.bipush 6, 2) := by decide +kernel
theorem dX7_init_7 : decode cX7_init 7 = .ok (.newarray .long, 2) := by decide +kernel
theorem dX7_init_9 : decode cX7_init 9 = .ok (.putfield 9, 3) := by decide +kernel
theorem dX7_init_12 : decode cX7_init 12 = .ok (.aload_n 0, 1) := by decide +kernel
theorem dX7_init_13 : decode cX7_init 13 = .ok (.new 13, 3) := by decide +kernel
theorem dX7_init_16 : decode cX7_init 16 = .ok (.dup, 1) := by decide +kernel
theorem dX7_init_17 : decode cX7_init 17 = .ok (.invokespecial 15, 3) := by decide +kernel
theorem dX7_init_20 : decode cX7_init 20 = .ok (.putfield 16, 3) := by decide +kernel
theorem dX7_init_23 : decode cX7_init 23 = .ok (.aload_n 0, 1) := by decide +kernel
theorem dX7_init_24 : decode cX7_init 24 = .ok (.new 20, 3) := by decide +kernel
theorem dX7_init_27 : decode cX7_init 27 = .ok (.dup, 1) := by decide +kernel
theorem dX7_init_28 : decode cX7_init 28 = .ok (.invokespecial 22, 3) := by decide +kernel
theorem dX7_init_31 : decode cX7_init 31 = .ok (.putfield 23, 3) := by decide +kernel
theorem dX7_init_34 : decode cX7_init 34 = .ok (.aload_n 0, 1) := by decide +kernel
theorem dX7_init_35 : decode cX7_init 35 = .ok (.new 27, 3) := by decide +kernel
theorem dX7_init_38 : decode cX7_init 38 = .ok (.dup, 1) := by decide +kernel
theorem dX7_init_39 : decode cX7_init 39 = .ok (.invokespecial 29, 3) := by decide +kernel
theorem dX7_init_42 : decode cX7_init 42 = .ok (.putfield 30, 3) := by decide +kernel
theorem dX7_init_45 : decode cX7_init 45 = .ok (.aload_n 0, 1) := by decide +kernel
theorem dX7_init_46 : decode cX7_init 46 = .ok (.new 34, 3) := by decide +kernel
theorem dX7_init_49 : decode cX7_init 49 = .ok (.dup, 1) := by decide +kernel
theorem dX7_init_50 : decode cX7_init 50 = .ok (.invokespecial 36, 3) := by decide +kernel
theorem dX7_init_53 : decode cX7_init 53 = .ok (.putfield 37, 3) := by decide +kernel
theorem dX7_init_56 : decode cX7_init 56 = .ok (.aload_n 0, 1) := by decide +kernel
theorem dX7_init_57 : decode cX7_init 57 = .ok (.new 13, 3) := by decide +kernel
theorem dX7_init_60 : decode cX7_init 60 = .ok (.dup, 1) := by decide +kernel
theorem dX7_init_61 : decode cX7_init 61 = .ok (.invokespecial 15, 3) := by decide +kernel
theorem dX7_init_64 : decode cX7_init 64 = .ok (.putfield 41, 3) := by decide +kernel
theorem dX7_init_67 : decode cX7_init 67 = .ok (.aload_n 0, 1) := by decide +kernel
theorem dX7_init_68 : decode cX7_init 68 = .ok (.new 13, 3) := by decide +kernel
theorem dX7_init_71 : decode cX7_init 71 = .ok (.dup, 1) := by decide +kernel
theorem dX7_init_72 : decode cX7_init 72 = .ok (.invokespecial 15, 3) := by decide +kernel
theorem dX7_init_75 : decode cX7_init 75 = .ok (.putfield 44, 3) := by decide +kernel
theorem dX7_init_78 : decode cX7_init 78 = .ok (.aload_n 0, 1) := by decide +kernel
theorem dX7_init_79 : decode cX7_init 79 = .ok (.iconst 0, 1) := by decide +kernel
theorem dX7_init_80 : decode cX7_init 80 = .ok (.putfield 47, 3) := by decide +kernel
theorem dX7_init_83 : decode cX7_init 83 = .ok (.aload_n 0, 1) := by decide +kernel
theorem dX7_init_84 : decode cX7_init 84 = .ok (.iconst 0, 1) := by decide +kernel
theorem dX7_init_85 : decode cX7_init 85 = .ok (.putfield 51, 3) := by decide +kernel
theorem dX7_init_88 : decode cX7_init 88 = .ok (.aload_n 0, 1) := by decide +kernel
theorem dX7_init_89 : decode cX7_init 89 = .ok (.iconst 0, 1) := by decide +kernel
theorem dX7_init_90 : decode cX7_init 90 = .ok (.putfield 54, 3) := by decide +kernel
theorem dX7_init_93 : decode cX7_init 93 = .ok (.return_, 1) := by decide +kernel
theorem dX7_set_0 : decode cX7_set 0 = .ok (.iload_n 1, 1) := by decide +kernel
theorem dX7_set_1 : decode cX7_set 1 = .ok (.invokestatic 57, 3) := by decide +kernel
theorem dX7_set_4 : decode cX7_set 4 = .ok (.iload_n 2, 1) := by decide +kernel
theorem dX7_set_5 : decode cX7_set 5 = .ok (.iconst 0, 1) := by decide +kernel
theorem dX7_set_6 : decode cX7_set 6 = .ok (.ldc 61, 2) := by decide +kernel
theorem dX7_set_8 : decode cX7_set 8 = .ok (.invokestatic 62, 3) := by decide +kernel
theorem dX7_set_11 : decode cX7_set 11 = .ok (.aload_n 0, 1) := by decide +kernel
theorem dX7_set_12 : decode cX7_set 12 = .ok (.getfield 9, 3) := by decide +kernel
theorem dX7_set_15 : decode cX7_set 15 = .ok (.iload_n 1, 1) := by decide +kernel
theorem dX7_set_16 : decode cX7_set 16 = .ok (.laload, 1) := by decide +kernel
theorem dX7_set_17 : decode cX7_set 17 = .ok (.invokestatic 66, 3) := by decide +kernel
theorem dX7_set_20 : decode cX7_set 20 = .ok (.istore_n 3, 1) := by decide +kernel
theorem dX7_set_21 : decode cX7_set 21 = .ok (.aload_n 0, 1) := by decide +kernel
theorem dX7_set_22 : decode cX7_set 22 = .ok (.getfield 9, 3) := by decide +kernel
theorem dX7_set_25 : decode cX7_set 25 = .ok (.iload_n 1, 1) := by decide +kernel
theorem dX7_set_26 : decode cX7_set 26 = .ok (.iload_n 2, 1) := by decide +kernel
theorem dX7_set_27 : decode cX7_set 27 = .ok (.i2l, 1) := by decide +kernel
theorem dX7_set_28 : decode cX7_set 28 = .ok (.lastore, 1) := by decide +kernel
theorem dX7_set_29 : decode cX7_set 29 = .ok (.aload_n 0, 1) := by decide +kernel
theorem dX7_set_30 : decode cX7_set 30 = .ok (.iload_n 3, 1) := by decide +kernel
theorem dX7_set_31 : decode cX7_set 31 = .ok (.invokevirtual 72, 3) := by decide +kernel
theorem dX7_set_34 : decode cX7_set 34 = .ok (.ireturn, 1) := by decide +kernel
theorem dX7_digit_0 : decode cX7_digit 0 = .ok (.iload_n 1, 1) := by decide +kernel
theorem dX7_digit_1 : decode cX7_digit 1 = .ok (.invokestatic 57, 3) := by decide +kernel
theorem dX7_digit_4 : decode cX7_digit 4 = .ok (.iload_n 2, 1) := by decide +kernel
theorem dX7_digit_5 : decode cX7_digit 5 = .ok (.invokestatic 76, 3) := by decide +kernel
theorem dX7_digit_8 : decode cX7_digit 8 = .ok (.iload_n 3, 1) := by decide +kernel
theorem dX7_digit_9 : decode cX7_digit 9 = .ok (.iconst 0, 1) := by decide +kernel
theorem dX7_digit_10 : decode cX7_digit 10 = .ok (.iconst 2, 1) := by decide +kernel
theorem dX7_digit_11 : decode cX7_digit 11 = .ok (.invokestatic 62, 3) := by decide +kernel
theorem dX7_digit_14 : decode cX7_digit 14 = .ok (.aload_n 0, 1) := by decide +kernel
theorem dX7_digit_15 : decode cX7_digit 15 = .ok (.getfield 9, 3) := by decide +kernel
theorem dX7_digit_18 : decode cX7_digit 18 = .ok (.iload_n 1, 1) := by decide +kernel
theorem dX7_digit_19 : decode cX7_digit 19 = .ok (.laload, 1) := by decide +kernel
theorem dX7_digit_20 : decode cX7_digit 20 = .ok (.iload_n 2, 1) := by decide +kernel
theorem dX7_digit_21 : decode cX7_digit 21 = .ok (.invokestatic 79, 3) := by decide +kernel
theorem dX7_digit_24 : decode cX7_digit 24 = .ok (.istore 4, 2) := by decide +kernel
theorem dX7_digit_26 : decode cX7_digit 26 = .ok (.iload_n 3, 1) := by decide +kernel
theorem dX7_digit_27 : decode cX7_digit 27 = .ok (.iconst 2, 1) := by decide +kernel
theorem dX7_digit_28 : decode cX7_digit 28 = .ok (.if_icmp .ne 16, 3) := by decide +kernel
theorem dX7_digit_31 : decode cX7_digit 31 = .ok (.iload 4, 2) := by decide +kernel
theorem dX7_digit_33 : decode cX7_digit 33 = .ok (.ifCond .ne 7, 3) := by decide +kernel
theorem dX7_digit_36 : decode cX7_digit 36 = .ok (.iconst 1, 1) := by decide +kernel
theorem dX7_digit_37 : decode cX7_digit 37 = .ok (.goto 17, 3) := by decide +kernel
theorem dX7_digit_40 : decode cX7_digit 40 = .ok (.iconst 0, 1) := by decide +kernel
theorem dX7_digit_41 : decode cX7_digit 41 = .ok (.goto 13, 3) := by decide +kernel
theorem dX7_digit_44 : decode cX7_digit 44 = .ok (.iload_n 3, 1) := by decide +kernel
theorem dX7_digit_45 : decode cX7_digit 45 = .ok (.iconst 1, 1) := by decide +kernel
theorem dX7_digit_46 : decode cX7_digit 46 = .ok (.if_icmp .ne 7, 3) := by decide +kernel
theorem dX7_digit_49 : decode cX7_digit 49 = .ok (.iconst 1, 1) := by decide +kernel
theorem dX7_digit_50 : decode cX7_digit 50 = .ok (.goto 4, 3) := by decide +kernel
theorem dX7_digit_53 : decode cX7_digit 53 = .ok (.iconst 0, 1) := by decide +kernel
theorem dX7_digit_54 : decode cX7_digit 54 = .ok (.istore 5, 2) := by decide +kernel
theorem dX7_digit_56 : decode cX7_digit 56 = .ok (.iload 4, 2) := by decide +kernel
theorem dX7_digit_58 : decode cX7_digit 58 = .ok (.iload 5, 2) := by decide +kernel
theorem dX7_digit_60 : decode cX7_digit 60 = .ok (.if_icmp .ne 9, 3) := by decide +kernel
theorem dX7_digit_63 : decode cX7_digit 63 = .ok (.aload_n 0, 1) := by decide +kernel
theorem dX7_digit_64 : decode cX7_digit 64 = .ok (.iconst 0, 1) := by decide +kernel
theorem dX7_digit_65 : decode cX7_digit 65 = .ok (.invokevirtual 72, 3) := by decide +kernel
theorem dX7_digit_68 : decode cX7_digit 68 = .ok (.ireturn, 1) := by decide +kernel
theorem dX7_digit_69 : decode cX7_digit 69 = .ok (.aload_n 0, 1) := by decide +kernel
theorem dX7_digit_70 : decode cX7_digit 70 = .ok (.getfield 9, 3) := by decide +kernel
theorem dX7_digit_73 : decode cX7_digit 73 = .ok (.iload_n 1, 1) := by decide +kernel
theorem dX7_digit_74 : decode cX7_digit 74 = .ok (.dup2, 1) := by decide +kernel
theorem dX7_digit_75 : decode cX7_digit 75 = .ok (.laload, 1) := by decide +kernel
theorem dX7_digit_76 : decode cX7_digit 76 = .ok (.lconst 1, 1) := by decide +kernel
theorem dX7_digit_77 : decode cX7_digit 77 = .ok (.iload_n 2, 1) := by decide +kernel
theorem dX7_digit_78 : decode cX7_digit 78 = .ok (.lshl, 1) := by decide +kernel
theorem dX7_digit_79 : decode cX7_digit 79 = .ok (.lxor, 1) := by decide +kernel
theorem dX7_digit_80 : decode cX7_digit 80 = .ok (.lastore, 1) := by decide +kernel
theorem dX7_digit_81 : decode cX7_digit 81 = .ok (.aload_n 0, 1) := by decide +kernel
theorem dX7_digit_82 : decode cX7_digit 82 = .ok (.iconst 1, 1) := by decide +kernel
theorem dX7_digit_83 : decode cX7_digit 83 = .ok (.invokevirtual 72, 3) := by decide +kernel
theorem dX7_digit_86 : decode cX7_digit 86 = .ok (.ireturn, 1) := by decide +kernel
theorem dX7_run_0 : decode cX7_run 0 = .ok (.iload_n 1, 1) := by decide +kernel
theorem dX7_run_1 : decode cX7_run 1 = .ok (.invokestatic 57, 3) := by decide +kernel
theorem dX7_run_4 : decode cX7_run 4 = .ok (.iload_n 3, 1) := by decide +kernel
theorem dX7_run_5 : decode cX7_run 5 = .ok (.iconst 0, 1) := by decide +kernel
theorem dX7_run_6 : decode cX7_run 6 = .ok (.bipush 40, 2) := by decide +kernel
theorem dX7_run_8 : decode cX7_run 8 = .ok (.invokestatic 62, 3) := by decide +kernel
theorem dX7_run_11 : decode cX7_run 11 = .ok (.iload_n 2, 1) := by decide +kernel
theorem dX7_run_12 : decode cX7_run 12 = .ok (.iconst 0, 1) := by decide +kernel
theorem dX7_run_13 : decode cX7_run 13 = .ok (.iload_n 3, 1) := by decide +kernel
theorem dX7_run_14 : decode cX7_run 14 = .ok (.invokestatic 62, 3) := by decide +kernel
theorem dX7_run_17 : decode cX7_run 17 = .ok (.aload_n 0, 1) := by decide +kernel
theorem dX7_run_18 : decode cX7_run 18 = .ok (.getfield 9, 3) := by decide +kernel
theorem dX7_run_21 : decode cX7_run 21 = .ok (.iload_n 1, 1) := by decide +kernel
theorem dX7_run_22 : decode cX7_run 22 = .ok (.dup2, 1) := by decide +kernel
theorem dX7_run_23 : decode cX7_run 23 = .ok (.laload, 1) := by decide +kernel
theorem dX7_run_24 : decode cX7_run 24 = .ok (.lconst 1, 1) := by decide +kernel
theorem dX7_run_25 : decode cX7_run 25 = .ok (.iload_n 3, 1) := by decide +kernel
theorem dX7_run_26 : decode cX7_run 26 = .ok (.lshl, 1) := by decide +kernel
theorem dX7_run_27 : decode cX7_run 27 = .ok (.lconst 1, 1) := by decide +kernel
theorem dX7_run_28 : decode cX7_run 28 = .ok (.iload_n 2, 1) := by decide +kernel
theorem dX7_run_29 : decode cX7_run 29 = .ok (.lshl, 1) := by decide +kernel
theorem dX7_run_30 : decode cX7_run 30 = .ok (.lsub, 1) := by decide +kernel
theorem dX7_run_31 : decode cX7_run 31 = .ok (.lxor, 1) := by decide +kernel
theorem dX7_run_32 : decode cX7_run 32 = .ok (.lastore, 1) := by decide +kernel
theorem dX7_run_33 : decode cX7_run 33 = .ok (.aload_n 0, 1) := by decide +kernel
theorem dX7_run_34 : decode cX7_run 34 = .ok (.aload_n 0, 1) := by decide +kernel
theorem dX7_run_35 : decode cX7_run 35 = .ok (.getfield 9, 3) := by decide +kernel
theorem dX7_run_38 : decode cX7_run 38 = .ok (.iload_n 1, 1) := by decide +kernel
theorem dX7_run_39 : decode cX7_run 39 = .ok (.laload, 1) := by decide +kernel
theorem dX7_run_40 : decode cX7_run 40 = .ok (.invokestatic 83, 3) := by decide +kernel
theorem dX7_run_43 : decode cX7_run 43 = .ok (.invokevirtual 72, 3) := by decide +kernel
theorem dX7_run_46 : decode cX7_run 46 = .ok (.ireturn, 1) := by decide +kernel
theorem dX7_copy_0 : decode cX7_copy 0 = .ok (.iload_n 1, 1) := by decide +kernel
theorem dX7_copy_1 : decode cX7_copy 1 = .ok (.invokestatic 57, 3) := by decide +kernel
theorem dX7_copy_4 : decode cX7_copy 4 = .ok (.iload_n 2, 1) := by decide +kernel
theorem dX7_copy_5 : decode cX7_copy 5 = .ok (.invokestatic 57, 3) := by decide +kernel
theorem dX7_copy_8 : decode cX7_copy 8 = .ok (.aload_n 0, 1) := by decide +kernel
theorem dX7_copy_9 : decode cX7_copy 9 = .ok (.iload_n 2, 1) := by decide +kernel
theorem dX7_copy_10 : decode cX7_copy 10 = .ok (.aload_n 0, 1) := by decide +kernel
theorem dX7_copy_11 : decode cX7_copy 11 = .ok (.getfield 9, 3) := by decide +kernel
theorem dX7_copy_14 : decode cX7_copy 14 = .ok (.iload_n 1, 1) := by decide +kernel
theorem dX7_copy_15 : decode cX7_copy 15 = .ok (.laload, 1) := by decide +kernel
theorem dX7_copy_16 : decode cX7_copy 16 = .ok (.invokevirtual 86, 3) := by decide +kernel
theorem dX7_copy_19 : decode cX7_copy 19 = .ok (.ireturn, 1) := by decide +kernel
theorem dX7_swap_0 : decode cX7_swap 0 = .ok (.iload_n 1, 1) := by decide +kernel
theorem dX7_swap_1 : decode cX7_swap 1 = .ok (.invokestatic 57, 3) := by decide +kernel
theorem dX7_swap_4 : decode cX7_swap 4 = .ok (.iload_n 2, 1) := by decide +kernel
theorem dX7_swap_5 : decode cX7_swap 5 = .ok (.invokestatic 57, 3) := by decide +kernel
theorem dX7_swap_8 : decode cX7_swap 8 = .ok (.aload_n 0, 1) := by decide +kernel
theorem dX7_swap_9 : decode cX7_swap 9 = .ok (.getfield 9, 3) := by decide +kernel
theorem dX7_swap_12 : decode cX7_swap 12 = .ok (.iload_n 1, 1) := by decide +kernel
theorem dX7_swap_13 : decode cX7_swap 13 = .ok (.laload, 1) := by decide +kernel
theorem dX7_swap_14 : decode cX7_swap 14 = .ok (.lstore_n 3, 1) := by decide +kernel
theorem dX7_swap_15 : decode cX7_swap 15 = .ok (.aload_n 0, 1) := by decide +kernel
theorem dX7_swap_16 : decode cX7_swap 16 = .ok (.getfield 9, 3) := by decide +kernel
theorem dX7_swap_19 : decode cX7_swap 19 = .ok (.iload_n 1, 1) := by decide +kernel
theorem dX7_swap_20 : decode cX7_swap 20 = .ok (.aload_n 0, 1) := by decide +kernel
theorem dX7_swap_21 : decode cX7_swap 21 = .ok (.getfield 9, 3) := by decide +kernel
theorem dX7_swap_24 : decode cX7_swap 24 = .ok (.iload_n 2, 1) := by decide +kernel
theorem dX7_swap_25 : decode cX7_swap 25 = .ok (.laload, 1) := by decide +kernel
theorem dX7_swap_26 : decode cX7_swap 26 = .ok (.lastore, 1) := by decide +kernel
theorem dX7_swap_27 : decode cX7_swap 27 = .ok (.aload_n 0, 1) := by decide +kernel
theorem dX7_swap_28 : decode cX7_swap 28 = .ok (.getfield 9, 3) := by decide +kernel
theorem dX7_swap_31 : decode cX7_swap 31 = .ok (.iload_n 2, 1) := by decide +kernel
theorem dX7_swap_32 : decode cX7_swap 32 = .ok (.lload_n 3, 1) := by decide +kernel
theorem dX7_swap_33 : decode cX7_swap 33 = .ok (.lastore, 1) := by decide +kernel
theorem dX7_swap_34 : decode cX7_swap 34 = .ok (.aload_n 0, 1) := by decide +kernel
theorem dX7_swap_35 : decode cX7_swap 35 = .ok (.aload_n 0, 1) := by decide +kernel
theorem dX7_swap_36 : decode cX7_swap 36 = .ok (.getfield 9, 3) := by decide +kernel
theorem dX7_swap_39 : decode cX7_swap 39 = .ok (.iload_n 1, 1) := by decide +kernel
theorem dX7_swap_40 : decode cX7_swap 40 = .ok (.laload, 1) := by decide +kernel
theorem dX7_swap_41 : decode cX7_swap 41 = .ok (.lload_n 3, 1) := by decide +kernel
theorem dX7_swap_42 : decode cX7_swap 42 = .ok (.lcmp, 1) := by decide +kernel
theorem dX7_swap_43 : decode cX7_swap 43 = .ok (.ifCond .eq 7, 3) := by decide +kernel
theorem dX7_swap_46 : decode cX7_swap 46 = .ok (.iconst 1, 1) := by decide +kernel
theorem dX7_swap_47 : decode cX7_swap 47 = .ok (.goto 4, 3) := by decide +kernel
theorem dX7_swap_50 : decode cX7_swap 50 = .ok (.iconst 0, 1) := by decide +kernel
theorem dX7_swap_51 : decode cX7_swap 51 = .ok (.invokevirtual 72, 3) := by decide +kernel
theorem dX7_swap_54 : decode cX7_swap 54 = .ok (.ireturn, 1) := by decide +kernel
theorem dX7_shift_0 : decode cX7_shift 0 = .ok (.iload_n 1, 1) := by decide +kernel
theorem dX7_shift_1 : decode cX7_shift 1 = .ok (.invokestatic 57, 3) := by decide +kernel
theorem dX7_shift_4 : decode cX7_shift 4 = .ok (.iload_n 2, 1) := by decide +kernel
theorem dX7_shift_5 : decode cX7_shift 5 = .ok (.bipush (-39), 2) := by decide +kernel
theorem dX7_shift_7 : decode cX7_shift 7 = .ok (.bipush 39, 2) := by decide +kernel
theorem dX7_shift_9 : decode cX7_shift 9 = .ok (.invokestatic 62, 3) := by decide +kernel
theorem dX7_shift_12 : decode cX7_shift 12 = .ok (.aload_n 0, 1) := by decide +kernel
theorem dX7_shift_13 : decode cX7_shift 13 = .ok (.getfield 9, 3) := by decide +kernel
theorem dX7_shift_16 : decode cX7_shift 16 = .ok (.iload_n 1, 1) := by decide +kernel
theorem dX7_shift_17 : decode cX7_shift 17 = .ok (.laload, 1) := by decide +kernel
theorem dX7_shift_18 : decode cX7_shift 18 = .ok (.lstore_n 3, 1) := by decide +kernel
theorem dX7_shift_19 : decode cX7_shift 19 = .ok (.iload_n 2, 1) := by decide +kernel
theorem dX7_shift_20 : decode cX7_shift 20 = .ok (.ifCond .ge 13, 3) := by decide +kernel
theorem dX7_shift_23 : decode cX7_shift 23 = .ok (.aload_n 0, 1) := by decide +kernel
theorem dX7_shift_24 : decode cX7_shift 24 = .ok (.iload_n 1, 1) := by decide +kernel
theorem dX7_shift_25 : decode cX7_shift 25 = .ok (.lload_n 3, 1) := by decide +kernel
theorem dX7_shift_26 : decode cX7_shift 26 = .ok (.iload_n 2, 1) := by decide +kernel
theorem dX7_shift_27 : decode cX7_shift 27 = .ok (.ineg, 1) := by decide +kernel
theorem dX7_shift_28 : decode cX7_shift 28 = .ok (.lshr, 1) := by decide +kernel
theorem dX7_shift_29 : decode cX7_shift 29 = .ok (.invokevirtual 86, 3) := by decide +kernel
theorem dX7_shift_32 : decode cX7_shift 32 = .ok (.ireturn, 1) := by decide +kernel
theorem dX7_shift_33 : decode cX7_shift 33 = .ok (.lload_n 3, 1) := by decide +kernel
theorem dX7_shift_34 : decode cX7_shift 34 = .ok (.invokestatic 66, 3) := by decide +kernel
theorem dX7_shift_37 : decode cX7_shift 37 = .ok (.iload_n 2, 1) := by decide +kernel
theorem dX7_shift_38 : decode cX7_shift 38 = .ok (.iadd, 1) := by decide +kernel
theorem dX7_shift_39 : decode cX7_shift 39 = .ok (.bipush 39, 2) := by decide +kernel
theorem dX7_shift_41 : decode cX7_shift 41 = .ok (.if_icmp .le 8, 3) := by decide +kernel
theorem dX7_shift_44 : decode cX7_shift 44 = .ok (.aload_n 0, 1) := by decide +kernel
theorem dX7_shift_45 : decode cX7_shift 45 = .ok (.invokevirtual 90, 3) := by decide +kernel
theorem dX7_shift_48 : decode cX7_shift 48 = .ok (.ireturn, 1) := by decide +kernel
theorem dX7_shift_49 : decode cX7_shift 49 = .ok (.aload_n 0, 1) := by decide +kernel
theorem dX7_shift_50 : decode cX7_shift 50 = .ok (.iload_n 1, 1) := by decide +kernel
theorem dX7_shift_51 : decode cX7_shift 51 = .ok (.lload_n 3, 1) := by decide +kernel
theorem dX7_shift_52 : decode cX7_shift 52 = .ok (.iload_n 2, 1) := by decide +kernel
theorem dX7_shift_53 : decode cX7_shift 53 = .ok (.lshl, 1) := by decide +kernel
theorem dX7_shift_54 : decode cX7_shift 54 = .ok (.invokevirtual 86, 3) := by decide +kernel
theorem dX7_shift_57 : decode cX7_shift 57 = .ok (.ireturn, 1) := by decide +kernel
theorem dX7_turn_0 : decode cX7_turn 0 = .ok (.iload_n 1, 1) := by decide +kernel
theorem dX7_turn_1 : decode cX7_turn 1 = .ok (.invokestatic 57, 3) := by decide +kernel
theorem dX7_turn_4 : decode cX7_turn 4 = .ok (.aload_n 0, 1) := by decide +kernel
theorem dX7_turn_5 : decode cX7_turn 5 = .ok (.iload_n 1, 1) := by decide +kernel
theorem dX7_turn_6 : decode cX7_turn 6 = .ok (.aload_n 0, 1) := by decide +kernel
theorem dX7_turn_7 : decode cX7_turn 7 = .ok (.getfield 9, 3) := by decide +kernel
theorem dX7_turn_10 : decode cX7_turn 10 = .ok (.iload_n 1, 1) := by decide +kernel
theorem dX7_turn_11 : decode cX7_turn 11 = .ok (.laload, 1) := by decide +kernel
theorem dX7_turn_12 : decode cX7_turn 12 = .ok (.invokestatic 94, 3) := by decide +kernel
theorem dX7_turn_15 : decode cX7_turn 15 = .ok (.invokevirtual 86, 3) := by decide +kernel
theorem dX7_turn_18 : decode cX7_turn 18 = .ok (.ireturn, 1) := by decide +kernel
theorem dX7_slope_0 : decode cX7_slope 0 = .ok (.iload_n 1, 1) := by decide +kernel
theorem dX7_slope_1 : decode cX7_slope 1 = .ok (.invokestatic 57, 3) := by decide +kernel
theorem dX7_slope_4 : decode cX7_slope 4 = .ok (.aload_n 0, 1) := by decide +kernel
theorem dX7_slope_5 : decode cX7_slope 5 = .ok (.iload_n 1, 1) := by decide +kernel
theorem dX7_slope_6 : decode cX7_slope 6 = .ok (.aload_n 0, 1) := by decide +kernel
theorem dX7_slope_7 : decode cX7_slope 7 = .ok (.getfield 9, 3) := by decide +kernel
theorem dX7_slope_10 : decode cX7_slope 10 = .ok (.iload_n 1, 1) := by decide +kernel
theorem dX7_slope_11 : decode cX7_slope 11 = .ok (.laload, 1) := by decide +kernel
theorem dX7_slope_12 : decode cX7_slope 12 = .ok (.iconst 1, 1) := by decide +kernel
theorem dX7_slope_13 : decode cX7_slope 13 = .ok (.lshr, 1) := by decide +kernel
theorem dX7_slope_14 : decode cX7_slope 14 = .ok (.ldc2_w 98, 3) := by decide +kernel
theorem dX7_slope_17 : decode cX7_slope 17 = .ok (.land, 1) := by decide +kernel
theorem dX7_slope_18 : decode cX7_slope 18 = .ok (.invokevirtual 86, 3) := by decide +kernel
theorem dX7_slope_21 : decode cX7_slope 21 = .ok (.ireturn, 1) := by decide +kernel
theorem dX7_add_0 : decode cX7_add 0 = .ok (.iload_n 1, 1) := by decide +kernel
theorem dX7_add_1 : decode cX7_add 1 = .ok (.iload_n 2, 1) := by decide +kernel
theorem dX7_add_2 : decode cX7_add 2 = .ok (.iload_n 3, 1) := by decide +kernel
theorem dX7_add_3 : decode cX7_add 3 = .ok (.invokestatic 100, 3) := by decide +kernel
theorem dX7_add_6 : decode cX7_add 6 = .ok (.aload_n 0, 1) := by decide +kernel
theorem dX7_add_7 : decode cX7_add 7 = .ok (.iload_n 3, 1) := by decide +kernel
theorem dX7_add_8 : decode cX7_add 8 = .ok (.aload_n 0, 1) := by decide +kernel
theorem dX7_add_9 : decode cX7_add 9 = .ok (.getfield 9, 3) := by decide +kernel
theorem dX7_add_12 : decode cX7_add 12 = .ok (.iload_n 1, 1) := by decide +kernel
theorem dX7_add_13 : decode cX7_add 13 = .ok (.laload, 1) := by decide +kernel
theorem dX7_add_14 : decode cX7_add 14 = .ok (.aload_n 0, 1) := by decide +kernel
theorem dX7_add_15 : decode cX7_add 15 = .ok (.getfield 9, 3) := by decide +kernel
theorem dX7_add_18 : decode cX7_add 18 = .ok (.iload_n 2, 1) := by decide +kernel
theorem dX7_add_19 : decode cX7_add 19 = .ok (.laload, 1) := by decide +kernel
theorem dX7_add_20 : decode cX7_add 20 = .ok (.lxor, 1) := by decide +kernel
theorem dX7_add_21 : decode cX7_add 21 = .ok (.invokevirtual 86, 3) := by decide +kernel
theorem dX7_add_24 : decode cX7_add 24 = .ok (.ireturn, 1) := by decide +kernel
theorem dX7_multiply_0 : decode cX7_multiply 0 = .ok (.iload_n 1, 1) := by decide +kernel
theorem dX7_multiply_1 : decode cX7_multiply 1 = .ok (.iload_n 2, 1) := by decide +kernel
theorem dX7_multiply_2 : decode cX7_multiply 2 = .ok (.iload_n 3, 1) := by decide +kernel
theorem dX7_multiply_3 : decode cX7_multiply 3 = .ok (.invokestatic 100, 3) := by decide +kernel
theorem dX7_multiply_6 : decode cX7_multiply 6 = .ok (.aload_n 0, 1) := by decide +kernel
theorem dX7_multiply_7 : decode cX7_multiply 7 = .ok (.getfield 9, 3) := by decide +kernel
theorem dX7_multiply_10 : decode cX7_multiply 10 = .ok (.iload_n 1, 1) := by decide +kernel
theorem dX7_multiply_11 : decode cX7_multiply 11 = .ok (.laload, 1) := by decide +kernel
theorem dX7_multiply_12 : decode cX7_multiply 12 = .ok (.aload_n 0, 1) := by decide +kernel
theorem dX7_multiply_13 : decode cX7_multiply 13 = .ok (.getfield 9, 3) := by decide +kernel
theorem dX7_multiply_16 : decode cX7_multiply 16 = .ok (.iload_n 2, 1) := by decide +kernel
theorem dX7_multiply_17 : decode cX7_multiply 17 = .ok (.laload, 1) := by decide +kernel
theorem dX7_multiply_18 : decode cX7_multiply 18 = .ok (.invokestatic 103, 3) := by decide +kernel
theorem dX7_multiply_21 : decode cX7_multiply 21 = .ok (.ifCond .ne 8, 3) := by decide +kernel
theorem dX7_multiply_24 : decode cX7_multiply 24 = .ok (.aload_n 0, 1) := by decide +kernel
theorem dX7_multiply_25 : decode cX7_multiply 25 = .ok (.invokevirtual 90, 3) := by decide +kernel
theorem dX7_multiply_28 : decode cX7_multiply 28 = .ok (.ireturn, 1) := by decide +kernel
theorem dX7_multiply_29 : decode cX7_multiply 29 = .ok (.aload_n 0, 1) := by decide +kernel
theorem dX7_multiply_30 : decode cX7_multiply 30 = .ok (.iload_n 3, 1) := by decide +kernel
theorem dX7_multiply_31 : decode cX7_multiply 31 = .ok (.aload_n 0, 1) := by decide +kernel
theorem dX7_multiply_32 : decode cX7_multiply 32 = .ok (.getfield 9, 3) := by decide +kernel
theorem dX7_multiply_35 : decode cX7_multiply 35 = .ok (.iload_n 1, 1) := by decide +kernel
theorem dX7_multiply_36 : decode cX7_multiply 36 = .ok (.laload, 1) := by decide +kernel
theorem dX7_multiply_37 : decode cX7_multiply 37 = .ok (.aload_n 0, 1) := by decide +kernel
theorem dX7_multiply_38 : decode cX7_multiply 38 = .ok (.getfield 9, 3) := by decide +kernel
theorem dX7_multiply_41 : decode cX7_multiply 41 = .ok (.iload_n 2, 1) := by decide +kernel
theorem dX7_multiply_42 : decode cX7_multiply 42 = .ok (.laload, 1) := by decide +kernel
theorem dX7_multiply_43 : decode cX7_multiply 43 = .ok (.invokestatic 107, 3) := by decide +kernel
theorem dX7_multiply_46 : decode cX7_multiply 46 = .ok (.invokevirtual 86, 3) := by decide +kernel
theorem dX7_multiply_49 : decode cX7_multiply 49 = .ok (.ireturn, 1) := by decide +kernel
theorem dX7_square_0 : decode cX7_square 0 = .ok (.iload_n 1, 1) := by decide +kernel
theorem dX7_square_1 : decode cX7_square 1 = .ok (.invokestatic 57, 3) := by decide +kernel
theorem dX7_square_4 : decode cX7_square 4 = .ok (.iload_n 2, 1) := by decide +kernel
theorem dX7_square_5 : decode cX7_square 5 = .ok (.invokestatic 57, 3) := by decide +kernel
theorem dX7_square_8 : decode cX7_square 8 = .ok (.iconst 2, 1) := by decide +kernel
theorem dX7_square_9 : decode cX7_square 9 = .ok (.aload_n 0, 1) := by decide +kernel
theorem dX7_square_10 : decode cX7_square 10 = .ok (.getfield 9, 3) := by decide +kernel
theorem dX7_square_13 : decode cX7_square 13 = .ok (.iload_n 1, 1) := by decide +kernel
theorem dX7_square_14 : decode cX7_square 14 = .ok (.laload, 1) := by decide +kernel
theorem dX7_square_15 : decode cX7_square 15 = .ok (.invokestatic 66, 3) := by decide +kernel
theorem dX7_square_18 : decode cX7_square 18 = .ok (.imul, 1) := by decide +kernel
theorem dX7_square_19 : decode cX7_square 19 = .ok (.bipush 39, 2) := by decide +kernel
theorem dX7_square_21 : decode cX7_square 21 = .ok (.if_icmp .le 8, 3) := by decide +kernel
theorem dX7_square_24 : decode cX7_square 24 = .ok (.aload_n 0, 1) := by decide +kernel
theorem dX7_square_25 : decode cX7_square 25 = .ok (.invokevirtual 90, 3) := by decide +kernel
theorem dX7_square_28 : decode cX7_square 28 = .ok (.ireturn, 1) := by decide +kernel
theorem dX7_square_29 : decode cX7_square 29 = .ok (.aload_n 0, 1) := by decide +kernel
theorem dX7_square_30 : decode cX7_square 30 = .ok (.iload_n 2, 1) := by decide +kernel
theorem dX7_square_31 : decode cX7_square 31 = .ok (.aload_n 0, 1) := by decide +kernel
theorem dX7_square_32 : decode cX7_square 32 = .ok (.getfield 9, 3) := by decide +kernel
theorem dX7_square_35 : decode cX7_square 35 = .ok (.iload_n 1, 1) := by decide +kernel
theorem dX7_square_36 : decode cX7_square 36 = .ok (.laload, 1) := by decide +kernel
theorem dX7_square_37 : decode cX7_square 37 = .ok (.invokestatic 111, 3) := by decide +kernel
theorem dX7_square_40 : decode cX7_square 40 = .ok (.invokevirtual 86, 3) := by decide +kernel
theorem dX7_square_43 : decode cX7_square 43 = .ok (.ireturn, 1) := by decide +kernel
theorem dX7_divide_0 : decode cX7_divide 0 = .ok (.iload_n 1, 1) := by decide +kernel
theorem dX7_divide_1 : decode cX7_divide 1 = .ok (.iload_n 2, 1) := by decide +kernel
theorem dX7_divide_2 : decode cX7_divide 2 = .ok (.iload_n 3, 1) := by decide +kernel
theorem dX7_divide_3 : decode cX7_divide 3 = .ok (.invokestatic 100, 3) := by decide +kernel
theorem dX7_divide_6 : decode cX7_divide 6 = .ok (.aload_n 0, 1) := by decide +kernel
theorem dX7_divide_7 : decode cX7_divide 7 = .ok (.getfield 9, 3) := by decide +kernel
theorem dX7_divide_10 : decode cX7_divide 10 = .ok (.iload_n 2, 1) := by decide +kernel
theorem dX7_divide_11 : decode cX7_divide 11 = .ok (.laload, 1) := by decide +kernel
theorem dX7_divide_12 : decode cX7_divide 12 = .ok (.lconst 0, 1) := by decide +kernel
theorem dX7_divide_13 : decode cX7_divide 13 = .ok (.lcmp, 1) := by decide +kernel
theorem dX7_divide_14 : decode cX7_divide 14 = .ok (.ifCond .ne 8, 3) := by decide +kernel
theorem dX7_divide_17 : decode cX7_divide 17 = .ok (.aload_n 0, 1) := by decide +kernel
theorem dX7_divide_18 : decode cX7_divide 18 = .ok (.invokevirtual 90, 3) := by decide +kernel
theorem dX7_divide_21 : decode cX7_divide 21 = .ok (.ireturn, 1) := by decide +kernel
theorem dX7_divide_22 : decode cX7_divide 22 = .ok (.aload_n 0, 1) := by decide +kernel
theorem dX7_divide_23 : decode cX7_divide 23 = .ok (.iload_n 3, 1) := by decide +kernel
theorem dX7_divide_24 : decode cX7_divide 24 = .ok (.aload_n 0, 1) := by decide +kernel
theorem dX7_divide_25 : decode cX7_divide 25 = .ok (.getfield 9, 3) := by decide +kernel
theorem dX7_divide_28 : decode cX7_divide 28 = .ok (.iload_n 1, 1) := by decide +kernel
theorem dX7_divide_29 : decode cX7_divide 29 = .ok (.laload, 1) := by decide +kernel
theorem dX7_divide_30 : decode cX7_divide 30 = .ok (.aload_n 0, 1) := by decide +kernel
theorem dX7_divide_31 : decode cX7_divide 31 = .ok (.getfield 9, 3) := by decide +kernel
theorem dX7_divide_34 : decode cX7_divide 34 = .ok (.iload_n 2, 1) := by decide +kernel
theorem dX7_divide_35 : decode cX7_divide 35 = .ok (.laload, 1) := by decide +kernel
theorem dX7_divide_36 : decode cX7_divide 36 = .ok (.invokestatic 114, 3) := by decide +kernel
theorem dX7_divide_39 : decode cX7_divide 39 = .ok (.invokevirtual 86, 3) := by decide +kernel
theorem dX7_divide_42 : decode cX7_divide 42 = .ok (.ireturn, 1) := by decide +kernel
theorem dX7_remain_0 : decode cX7_remain 0 = .ok (.iload_n 1, 1) := by decide +kernel
theorem dX7_remain_1 : decode cX7_remain 1 = .ok (.iload_n 2, 1) := by decide +kernel
theorem dX7_remain_2 : decode cX7_remain 2 = .ok (.iload_n 3, 1) := by decide +kernel
theorem dX7_remain_3 : decode cX7_remain 3 = .ok (.invokestatic 100, 3) := by decide +kernel
theorem dX7_remain_6 : decode cX7_remain 6 = .ok (.aload_n 0, 1) := by decide +kernel
theorem dX7_remain_7 : decode cX7_remain 7 = .ok (.getfield 9, 3) := by decide +kernel
theorem dX7_remain_10 : decode cX7_remain 10 = .ok (.iload_n 2, 1) := by decide +kernel
theorem dX7_remain_11 : decode cX7_remain 11 = .ok (.laload, 1) := by decide +kernel
theorem dX7_remain_12 : decode cX7_remain 12 = .ok (.lconst 0, 1) := by decide +kernel
theorem dX7_remain_13 : decode cX7_remain 13 = .ok (.lcmp, 1) := by decide +kernel
theorem dX7_remain_14 : decode cX7_remain 14 = .ok (.ifCond .ne 8, 3) := by decide +kernel
theorem dX7_remain_17 : decode cX7_remain 17 = .ok (.aload_n 0, 1) := by decide +kernel
theorem dX7_remain_18 : decode cX7_remain 18 = .ok (.invokevirtual 90, 3) := by decide +kernel
theorem dX7_remain_21 : decode cX7_remain 21 = .ok (.ireturn, 1) := by decide +kernel
theorem dX7_remain_22 : decode cX7_remain 22 = .ok (.aload_n 0, 1) := by decide +kernel
theorem dX7_remain_23 : decode cX7_remain 23 = .ok (.iload_n 3, 1) := by decide +kernel
theorem dX7_remain_24 : decode cX7_remain 24 = .ok (.aload_n 0, 1) := by decide +kernel
theorem dX7_remain_25 : decode cX7_remain 25 = .ok (.getfield 9, 3) := by decide +kernel
theorem dX7_remain_28 : decode cX7_remain 28 = .ok (.iload_n 1, 1) := by decide +kernel
theorem dX7_remain_29 : decode cX7_remain 29 = .ok (.laload, 1) := by decide +kernel
theorem dX7_remain_30 : decode cX7_remain 30 = .ok (.aload_n 0, 1) := by decide +kernel
theorem dX7_remain_31 : decode cX7_remain 31 = .ok (.getfield 9, 3) := by decide +kernel
theorem dX7_remain_34 : decode cX7_remain 34 = .ok (.iload_n 2, 1) := by decide +kernel
theorem dX7_remain_35 : decode cX7_remain 35 = .ok (.laload, 1) := by decide +kernel
theorem dX7_remain_36 : decode cX7_remain 36 = .ok (.invokestatic 117, 3) := by decide +kernel
theorem dX7_remain_39 : decode cX7_remain 39 = .ok (.invokevirtual 86, 3) := by decide +kernel
theorem dX7_remain_42 : decode cX7_remain 42 = .ok (.ireturn, 1) := by decide +kernel
theorem dX7_common_0 : decode cX7_common 0 = .ok (.iload_n 1, 1) := by decide +kernel
theorem dX7_common_1 : decode cX7_common 1 = .ok (.iload_n 2, 1) := by decide +kernel
theorem dX7_common_2 : decode cX7_common 2 = .ok (.iload_n 3, 1) := by decide +kernel
theorem dX7_common_3 : decode cX7_common 3 = .ok (.invokestatic 100, 3) := by decide +kernel
theorem dX7_common_6 : decode cX7_common 6 = .ok (.aload_n 0, 1) := by decide +kernel
theorem dX7_common_7 : decode cX7_common 7 = .ok (.iload_n 3, 1) := by decide +kernel
theorem dX7_common_8 : decode cX7_common 8 = .ok (.aload_n 0, 1) := by decide +kernel
theorem dX7_common_9 : decode cX7_common 9 = .ok (.getfield 9, 3) := by decide +kernel
theorem dX7_common_12 : decode cX7_common 12 = .ok (.iload_n 1, 1) := by decide +kernel
theorem dX7_common_13 : decode cX7_common 13 = .ok (.laload, 1) := by decide +kernel
theorem dX7_common_14 : decode cX7_common 14 = .ok (.aload_n 0, 1) := by decide +kernel
theorem dX7_common_15 : decode cX7_common 15 = .ok (.getfield 9, 3) := by decide +kernel
theorem dX7_common_18 : decode cX7_common 18 = .ok (.iload_n 2, 1) := by decide +kernel
theorem dX7_common_19 : decode cX7_common 19 = .ok (.laload, 1) := by decide +kernel
theorem dX7_common_20 : decode cX7_common 20 = .ok (.invokestatic 120, 3) := by decide +kernel
theorem dX7_common_23 : decode cX7_common 23 = .ok (.invokevirtual 86, 3) := by decide +kernel
theorem dX7_common_26 : decode cX7_common 26 = .ok (.ireturn, 1) := by decide +kernel
theorem dX7_multipliers_0 : decode cX7_multipliers 0 = .ok (.iload_n 1, 1) := by decide +kernel
theorem dX7_multipliers_1 : decode cX7_multipliers 1 = .ok (.iload_n 2, 1) := by decide +kernel
theorem dX7_multipliers_2 : decode cX7_multipliers 2 = .ok (.iload_n 3, 1) := by decide +kernel
theorem dX7_multipliers_3 : decode cX7_multipliers 3 = .ok (.invokestatic 100, 3) := by decide +kernel
theorem dX7_multipliers_6 : decode cX7_multipliers 6 = .ok (.iload 4, 2) := by decide +kernel
theorem dX7_multipliers_8 : decode cX7_multipliers 8 = .ok (.invokestatic 57, 3) := by decide +kernel
theorem dX7_multipliers_11 : decode cX7_multipliers 11 = .ok (.iload_n 3, 1) := by decide +kernel
theorem dX7_multipliers_12 : decode cX7_multipliers 12 = .ok (.iload 4, 2) := by decide +kernel
theorem dX7_multipliers_14 : decode cX7_multipliers 14 = .ok (.if_icmp .ne 13, 3) := by decide +kernel
theorem dX7_multipliers_17 : decode cX7_multipliers 17 = .ok (.new 123, 3) := by decide +kernel
theorem dX7_multipliers_20 : decode cX7_multipliers 20 = .ok (.dup, 1) := by decide +kernel
theorem dX7_multipliers_21 : decode cX7_multipliers 21 = .ok (.ldc 125, 2) := by decide +kernel
theorem dX7_multipliers_23 : decode cX7_multipliers 23 = .ok (.invokespecial 127, 3) := by decide +kernel
theorem dX7_multipliers_26 : decode cX7_multipliers 26 = .ok (.athrow, 1) := by decide +kernel
theorem dX7_multipliers_27 : decode cX7_multipliers 27 = .ok (.aload_n 0, 1) := by decide +kernel
theorem dX7_multipliers_28 : decode cX7_multipliers 28 = .ok (.getfield 30, 3) := by decide +kernel
theorem dX7_multipliers_31 : decode cX7_multipliers 31 = .ok (.aload_n 0, 1) := by decide +kernel
theorem dX7_multipliers_32 : decode cX7_multipliers 32 = .ok (.getfield 9, 3) := by decide +kernel
theorem dX7_multipliers_35 : decode cX7_multipliers 35 = .ok (.iload_n 1, 1) := by decide +kernel
theorem dX7_multipliers_36 : decode cX7_multipliers 36 = .ok (.laload, 1) := by decide +kernel
theorem dX7_multipliers_37 : decode cX7_multipliers 37 = .ok (.aload_n 0, 1) := by decide +kernel
theorem dX7_multipliers_38 : decode cX7_multipliers 38 = .ok (.getfield 9, 3) := by decide +kernel
theorem dX7_multipliers_41 : decode cX7_multipliers 41 = .ok (.iload_n 2, 1) := by decide +kernel
theorem dX7_multipliers_42 : decode cX7_multipliers 42 = .ok (.laload, 1) := by decide +kernel
theorem dX7_multipliers_43 : decode cX7_multipliers 43 = .ok (.invokevirtual 130, 3) := by decide +kernel
theorem dX7_multipliers_46 : decode cX7_multipliers 46 = .ok (.aload_n 0, 1) := by decide +kernel
theorem dX7_multipliers_47 : decode cX7_multipliers 47 = .ok (.getfield 9, 3) := by decide +kernel
theorem dX7_multipliers_50 : decode cX7_multipliers 50 = .ok (.iload_n 3, 1) := by decide +kernel
theorem dX7_multipliers_51 : decode cX7_multipliers 51 = .ok (.aload_n 0, 1) := by decide +kernel
theorem dX7_multipliers_52 : decode cX7_multipliers 52 = .ok (.getfield 30, 3) := by decide +kernel
theorem dX7_multipliers_55 : decode cX7_multipliers 55 = .ok (.getfield 134, 3) := by decide +kernel
theorem dX7_multipliers_58 : decode cX7_multipliers 58 = .ok (.lastore, 1) := by decide +kernel
theorem dX7_multipliers_59 : decode cX7_multipliers 59 = .ok (.aload_n 0, 1) := by decide +kernel
theorem dX7_multipliers_60 : decode cX7_multipliers 60 = .ok (.getfield 9, 3) := by decide +kernel
theorem dX7_multipliers_63 : decode cX7_multipliers 63 = .ok (.iload 4, 2) := by decide +kernel
theorem dX7_multipliers_65 : decode cX7_multipliers 65 = .ok (.aload_n 0, 1) := by decide +kernel
theorem dX7_multipliers_66 : decode cX7_multipliers 66 = .ok (.getfield 30, 3) := by decide +kernel
theorem dX7_multipliers_69 : decode cX7_multipliers 69 = .ok (.getfield 138, 3) := by decide +kernel
theorem dX7_multipliers_72 : decode cX7_multipliers 72 = .ok (.lastore, 1) := by decide +kernel
theorem dX7_multipliers_73 : decode cX7_multipliers 73 = .ok (.aload_n 0, 1) := by decide +kernel
theorem dX7_multipliers_74 : decode cX7_multipliers 74 = .ok (.aload_n 0, 1) := by decide +kernel
theorem dX7_multipliers_75 : decode cX7_multipliers 75 = .ok (.getfield 30, 3) := by decide +kernel
theorem dX7_multipliers_78 : decode cX7_multipliers 78 = .ok (.getfield 141, 3) := by decide +kernel
theorem dX7_multipliers_81 : decode cX7_multipliers 81 = .ok (.invokestatic 66, 3) := by decide +kernel
theorem dX7_multipliers_84 : decode cX7_multipliers 84 = .ok (.invokevirtual 72, 3) := by decide +kernel
theorem dX7_multipliers_87 : decode cX7_multipliers 87 = .ok (.ireturn, 1) := by decide +kernel
theorem dX7_power_0 : decode cX7_power 0 = .ok (.iload_n 1, 1) := by decide +kernel
theorem dX7_power_1 : decode cX7_power 1 = .ok (.iload_n 3, 1) := by decide +kernel
theorem dX7_power_2 : decode cX7_power 2 = .ok (.iload 4, 2) := by decide +kernel
theorem dX7_power_4 : decode cX7_power 4 = .ok (.invokestatic 100, 3) := by decide +kernel
theorem dX7_power_7 : decode cX7_power 7 = .ok (.iload_n 2, 1) := by decide +kernel
theorem dX7_power_8 : decode cX7_power 8 = .ok (.iconst 0, 1) := by decide +kernel
theorem dX7_power_9 : decode cX7_power 9 = .ok (.sipush 255, 3) := by decide +kernel
theorem dX7_power_12 : decode cX7_power 12 = .ok (.invokestatic 62, 3) := by decide +kernel
theorem dX7_power_15 : decode cX7_power 15 = .ok (.aload_n 0, 1) := by decide +kernel
theorem dX7_power_16 : decode cX7_power 16 = .ok (.getfield 9, 3) := by decide +kernel
theorem dX7_power_19 : decode cX7_power 19 = .ok (.iload_n 3, 1) := by decide +kernel
theorem dX7_power_20 : decode cX7_power 20 = .ok (.laload, 1) := by decide +kernel
theorem dX7_power_21 : decode cX7_power 21 = .ok (.lconst 0, 1) := by decide +kernel
theorem dX7_power_22 : decode cX7_power 22 = .ok (.lcmp, 1) := by decide +kernel
theorem dX7_power_23 : decode cX7_power 23 = .ok (.ifCond .eq 17, 3) := by decide +kernel
theorem dX7_power_26 : decode cX7_power 26 = .ok (.aload_n 0, 1) := by decide +kernel
theorem dX7_power_27 : decode cX7_power 27 = .ok (.getfield 9, 3) := by decide +kernel
theorem dX7_power_30 : decode cX7_power 30 = .ok (.iload_n 3, 1) := by decide +kernel
theorem dX7_power_31 : decode cX7_power 31 = .ok (.laload, 1) := by decide +kernel
theorem dX7_power_32 : decode cX7_power 32 = .ok (.invokestatic 66, 3) := by decide +kernel
theorem dX7_power_35 : decode cX7_power 35 = .ok (.bipush 20, 2) := by decide +kernel
theorem dX7_power_37 : decode cX7_power 37 = .ok (.if_icmp .le 8, 3) := by decide +kernel
theorem dX7_power_40 : decode cX7_power 40 = .ok (.aload_n 0, 1) := by decide +kernel
theorem dX7_power_41 : decode cX7_power 41 = .ok (.invokevirtual 90, 3) := by decide +kernel
theorem dX7_power_44 : decode cX7_power 44 = .ok (.ireturn, 1) := by decide +kernel
theorem dX7_power_45 : decode cX7_power 45 = .ok (.aload_n 0, 1) := by decide +kernel
theorem dX7_power_46 : decode cX7_power 46 = .ok (.iload 4, 2) := by decide +kernel
theorem dX7_power_48 : decode cX7_power 48 = .ok (.aload_n 0, 1) := by decide +kernel
theorem dX7_power_49 : decode cX7_power 49 = .ok (.getfield 9, 3) := by decide +kernel
theorem dX7_power_52 : decode cX7_power 52 = .ok (.iload_n 1, 1) := by decide +kernel
theorem dX7_power_53 : decode cX7_power 53 = .ok (.laload, 1) := by decide +kernel
theorem dX7_power_54 : decode cX7_power 54 = .ok (.iload_n 2, 1) := by decide +kernel
theorem dX7_power_55 : decode cX7_power 55 = .ok (.aload_n 0, 1) := by decide +kernel
theorem dX7_power_56 : decode cX7_power 56 = .ok (.getfield 9, 3) := by decide +kernel
theorem dX7_power_59 : decode cX7_power 59 = .ok (.iload_n 3, 1) := by decide +kernel
theorem dX7_power_60 : decode cX7_power 60 = .ok (.laload, 1) := by decide +kernel
theorem dX7_power_61 : decode cX7_power 61 = .ok (.invokestatic 144, 3) := by decide +kernel
theorem dX7_power_64 : decode cX7_power 64 = .ok (.invokevirtual 86, 3) := by decide +kernel
theorem dX7_power_67 : decode cX7_power 67 = .ok (.ireturn, 1) := by decide +kernel
theorem dX7_allPrimes_0 : decode cX7_allPrimes 0 = .ok (.iload_n 2, 1) := by decide +kernel
theorem dX7_allPrimes_1 : decode cX7_allPrimes 1 = .ok (.invokestatic 57, 3) := by decide +kernel
theorem dX7_allPrimes_4 : decode cX7_allPrimes 4 = .ok (.iload_n 1, 1) := by decide +kernel
theorem dX7_allPrimes_5 : decode cX7_allPrimes 5 = .ok (.iconst 1, 1) := by decide +kernel
theorem dX7_allPrimes_6 : decode cX7_allPrimes 6 = .ok (.iconst 5, 1) := by decide +kernel
theorem dX7_allPrimes_7 : decode cX7_allPrimes 7 = .ok (.invokestatic 62, 3) := by decide +kernel
theorem dX7_allPrimes_10 : decode cX7_allPrimes 10 = .ok (.aload_n 0, 1) := by decide +kernel
theorem dX7_allPrimes_11 : decode cX7_allPrimes 11 = .ok (.iload_n 2, 1) := by decide +kernel
theorem dX7_allPrimes_12 : decode cX7_allPrimes 12 = .ok (.iload_n 1, 1) := by decide +kernel
theorem dX7_allPrimes_13 : decode cX7_allPrimes 13 = .ok (.invokestatic 148, 3) := by decide +kernel
theorem dX7_allPrimes_16 : decode cX7_allPrimes 16 = .ok (.invokevirtual 86, 3) := by decide +kernel
theorem dX7_allPrimes_19 : decode cX7_allPrimes 19 = .ok (.ireturn, 1) := by decide +kernel
theorem dX7_seal_0 : decode cX7_seal 0 = .ok (.iload_n 1, 1) := by decide +kernel
theorem dX7_seal_1 : decode cX7_seal 1 = .ok (.iload_n 2, 1) := by decide +kernel
theorem dX7_seal_2 : decode cX7_seal 2 = .ok (.iload_n 3, 1) := by decide +kernel
theorem dX7_seal_3 : decode cX7_seal 3 = .ok (.invokestatic 100, 3) := by decide +kernel
theorem dX7_seal_6 : decode cX7_seal 6 = .ok (.aload_n 0, 1) := by decide +kernel
theorem dX7_seal_7 : decode cX7_seal 7 = .ok (.getfield 9, 3) := by decide +kernel
theorem dX7_seal_10 : decode cX7_seal 10 = .ok (.iload_n 2, 1) := by decide +kernel
theorem dX7_seal_11 : decode cX7_seal 11 = .ok (.laload, 1) := by decide +kernel
theorem dX7_seal_12 : decode cX7_seal 12 = .ok (.invokestatic 66, 3) := by decide +kernel
theorem dX7_seal_15 : decode cX7_seal 15 = .ok (.iconst 1, 1) := by decide +kernel
theorem dX7_seal_16 : decode cX7_seal 16 = .ok (.if_icmp .lt 12, 3) := by decide +kernel
theorem dX7_seal_19 : decode cX7_seal 19 = .ok (.aload_n 0, 1) := by decide +kernel
theorem dX7_seal_20 : decode cX7_seal 20 = .ok (.iload_n 1, 1) := by decide +kernel
theorem dX7_seal_21 : decode cX7_seal 21 = .ok (.iload_n 2, 1) := by decide +kernel
theorem dX7_seal_22 : decode cX7_seal 22 = .ok (.invokevirtual 154, 3) := by decide +kernel
theorem dX7_seal_25 : decode cX7_seal 25 = .ok (.ifCond .ne 8, 3) := by decide +kernel
theorem dX7_seal_28 : decode cX7_seal 28 = .ok (.aload_n 0, 1) := by decide +kernel
theorem dX7_seal_29 : decode cX7_seal 29 = .ok (.invokevirtual 90, 3) := by decide +kernel
theorem dX7_seal_32 : decode cX7_seal 32 = .ok (.ireturn, 1) := by decide +kernel
theorem dX7_seal_33 : decode cX7_seal 33 = .ok (.aload_n 0, 1) := by decide +kernel
theorem dX7_seal_34 : decode cX7_seal 34 = .ok (.getfield 9, 3) := by decide +kernel
theorem dX7_seal_37 : decode cX7_seal 37 = .ok (.iload_n 1, 1) := by decide +kernel
theorem dX7_seal_38 : decode cX7_seal 38 = .ok (.laload, 1) := by decide +kernel
theorem dX7_seal_39 : decode cX7_seal 39 = .ok (.aload_n 0, 1) := by decide +kernel
theorem dX7_seal_40 : decode cX7_seal 40 = .ok (.getfield 9, 3) := by decide +kernel
theorem dX7_seal_43 : decode cX7_seal 43 = .ok (.iload_n 2, 1) := by decide +kernel
theorem dX7_seal_44 : decode cX7_seal 44 = .ok (.laload, 1) := by decide +kernel
theorem dX7_seal_45 : decode cX7_seal 45 = .ok (.invokestatic 158, 3) := by decide +kernel
theorem dX7_seal_48 : decode cX7_seal 48 = .ok (.lstore 4, 2) := by decide +kernel
theorem dX7_seal_50 : decode cX7_seal 50 = .ok (.aload_n 0, 1) := by decide +kernel
theorem dX7_seal_51 : decode cX7_seal 51 = .ok (.getfield 9, 3) := by decide +kernel
theorem dX7_seal_54 : decode cX7_seal 54 = .ok (.iload_n 3, 1) := by decide +kernel
theorem dX7_seal_55 : decode cX7_seal 55 = .ok (.aload_n 0, 1) := by decide +kernel
theorem dX7_seal_56 : decode cX7_seal 56 = .ok (.getfield 9, 3) := by decide +kernel
theorem dX7_seal_59 : decode cX7_seal 59 = .ok (.iload_n 1, 1) := by decide +kernel
theorem dX7_seal_60 : decode cX7_seal 60 = .ok (.laload, 1) := by decide +kernel
theorem dX7_seal_61 : decode cX7_seal 61 = .ok (.aload_n 0, 1) := by decide +kernel
theorem dX7_seal_62 : decode cX7_seal 62 = .ok (.getfield 9, 3) := by decide +kernel
theorem dX7_seal_65 : decode cX7_seal 65 = .ok (.iload_n 2, 1) := by decide +kernel
theorem dX7_seal_66 : decode cX7_seal 66 = .ok (.laload, 1) := by decide +kernel
theorem dX7_seal_67 : decode cX7_seal 67 = .ok (.invokestatic 66, 3) := by decide +kernel
theorem dX7_seal_70 : decode cX7_seal 70 = .ok (.lshl, 1) := by decide +kernel
theorem dX7_seal_71 : decode cX7_seal 71 = .ok (.lload 4, 2) := by decide +kernel
theorem dX7_seal_73 : decode cX7_seal 73 = .ok (.lxor, 1) := by decide +kernel
theorem dX7_seal_74 : decode cX7_seal 74 = .ok (.lastore, 1) := by decide +kernel
theorem dX7_seal_75 : decode cX7_seal 75 = .ok (.aload_n 0, 1) := by decide +kernel
theorem dX7_seal_76 : decode cX7_seal 76 = .ok (.lload 4, 2) := by decide +kernel
theorem dX7_seal_78 : decode cX7_seal 78 = .ok (.invokestatic 83, 3) := by decide +kernel
theorem dX7_seal_81 : decode cX7_seal 81 = .ok (.invokevirtual 72, 3) := by decide +kernel
theorem dX7_seal_84 : decode cX7_seal 84 = .ok (.ireturn, 1) := by decide +kernel
theorem dX7_burst_0 : decode cX7_burst 0 = .ok (.iload_n 1, 1) := by decide +kernel
theorem dX7_burst_1 : decode cX7_burst 1 = .ok (.invokestatic 57, 3) := by decide +kernel
theorem dX7_burst_4 : decode cX7_burst 4 = .ok (.iload_n 2, 1) := by decide +kernel
theorem dX7_burst_5 : decode cX7_burst 5 = .ok (.invokestatic 76, 3) := by decide +kernel
theorem dX7_burst_8 : decode cX7_burst 8 = .ok (.iload_n 3, 1) := by decide +kernel
theorem dX7_burst_9 : decode cX7_burst 9 = .ok (.iconst 0, 1) := by decide +kernel
theorem dX7_burst_10 : decode cX7_burst 10 = .ok (.sipush 4095, 3) := by decide +kernel
theorem dX7_burst_13 : decode cX7_burst 13 = .ok (.invokestatic 62, 3) := by decide +kernel
theorem dX7_burst_16 : decode cX7_burst 16 = .ok (.iload_n 3, 1) := by decide +kernel
theorem dX7_burst_17 : decode cX7_burst 17 = .ok (.i2l, 1) := by decide +kernel
theorem dX7_burst_18 : decode cX7_burst 18 = .ok (.invokestatic 66, 3) := by decide +kernel
theorem dX7_burst_21 : decode cX7_burst 21 = .ok (.iload_n 2, 1) := by decide +kernel
theorem dX7_burst_22 : decode cX7_burst 22 = .ok (.iadd, 1) := by decide +kernel
theorem dX7_burst_23 : decode cX7_burst 23 = .ok (.bipush 39, 2) := by decide +kernel
theorem dX7_burst_25 : decode cX7_burst 25 = .ok (.if_icmp .le 8, 3) := by decide +kernel
theorem dX7_burst_28 : decode cX7_burst 28 = .ok (.aload_n 0, 1) := by decide +kernel
theorem dX7_burst_29 : decode cX7_burst 29 = .ok (.invokevirtual 90, 3) := by decide +kernel
theorem dX7_burst_32 : decode cX7_burst 32 = .ok (.ireturn, 1) := by decide +kernel
theorem dX7_burst_33 : decode cX7_burst 33 = .ok (.aload_n 0, 1) := by decide +kernel
theorem dX7_burst_34 : decode cX7_burst 34 = .ok (.getfield 9, 3) := by decide +kernel
theorem dX7_burst_37 : decode cX7_burst 37 = .ok (.iload_n 1, 1) := by decide +kernel
theorem dX7_burst_38 : decode cX7_burst 38 = .ok (.dup2, 1) := by decide +kernel
theorem dX7_burst_39 : decode cX7_burst 39 = .ok (.laload, 1) := by decide +kernel
theorem dX7_burst_40 : decode cX7_burst 40 = .ok (.iload_n 3, 1) := by decide +kernel
theorem dX7_burst_41 : decode cX7_burst 41 = .ok (.i2l, 1) := by decide +kernel
theorem dX7_burst_42 : decode cX7_burst 42 = .ok (.iload_n 2, 1) := by decide +kernel
theorem dX7_burst_43 : decode cX7_burst 43 = .ok (.lshl, 1) := by decide +kernel
theorem dX7_burst_44 : decode cX7_burst 44 = .ok (.lxor, 1) := by decide +kernel
theorem dX7_burst_45 : decode cX7_burst 45 = .ok (.lastore, 1) := by decide +kernel
theorem dX7_burst_46 : decode cX7_burst 46 = .ok (.aload_n 0, 1) := by decide +kernel
theorem dX7_burst_47 : decode cX7_burst 47 = .ok (.aload_n 0, 1) := by decide +kernel
theorem dX7_burst_48 : decode cX7_burst 48 = .ok (.getfield 9, 3) := by decide +kernel
theorem dX7_burst_51 : decode cX7_burst 51 = .ok (.iload_n 1, 1) := by decide +kernel
theorem dX7_burst_52 : decode cX7_burst 52 = .ok (.laload, 1) := by decide +kernel
theorem dX7_burst_53 : decode cX7_burst 53 = .ok (.invokestatic 83, 3) := by decide +kernel
theorem dX7_burst_56 : decode cX7_burst 56 = .ok (.invokevirtual 72, 3) := by decide +kernel
theorem dX7_burst_59 : decode cX7_burst 59 = .ok (.ireturn, 1) := by decide +kernel
theorem dX7_factor_0 : decode cX7_factor 0 = .ok (.iload_n 1, 1) := by decide +kernel
theorem dX7_factor_1 : decode cX7_factor 1 = .ok (.invokestatic 57, 3) := by decide +kernel
theorem dX7_factor_4 : decode cX7_factor 4 = .ok (.iload_n 2, 1) := by decide +kernel
theorem dX7_factor_5 : decode cX7_factor 5 = .ok (.iconst 0, 1) := by decide +kernel
theorem dX7_factor_6 : decode cX7_factor 6 = .ok (.iconst 1, 1) := by decide +kernel
theorem dX7_factor_7 : decode cX7_factor 7 = .ok (.invokestatic 62, 3) := by decide +kernel
theorem dX7_factor_10 : decode cX7_factor 10 = .ok (.aload_n 0, 1) := by decide +kernel
theorem dX7_factor_11 : decode cX7_factor 11 = .ok (.getfield 9, 3) := by decide +kernel
theorem dX7_factor_14 : decode cX7_factor 14 = .ok (.iload_n 1, 1) := by decide +kernel
theorem dX7_factor_15 : decode cX7_factor 15 = .ok (.laload, 1) := by decide +kernel
theorem dX7_factor_16 : decode cX7_factor 16 = .ok (.invokestatic 66, 3) := by decide +kernel
theorem dX7_factor_19 : decode cX7_factor 19 = .ok (.iconst 1, 1) := by decide +kernel
theorem dX7_factor_20 : decode cX7_factor 20 = .ok (.bipush 10, 2) := by decide +kernel
theorem dX7_factor_22 : decode cX7_factor 22 = .ok (.invokestatic 161, 3) := by decide +kernel
theorem dX7_factor_25 : decode cX7_factor 25 = .ok (.ifCond .ne 8, 3) := by decide +kernel
theorem dX7_factor_28 : decode cX7_factor 28 = .ok (.aload_n 0, 1) := by decide +kernel
theorem dX7_factor_29 : decode cX7_factor 29 = .ok (.invokevirtual 90, 3) := by decide +kernel
theorem dX7_factor_32 : decode cX7_factor 32 = .ok (.ireturn, 1) := by decide +kernel
theorem dX7_factor_33 : decode cX7_factor 33 = .ok (.iload_n 2, 1) := by decide +kernel
theorem dX7_factor_34 : decode cX7_factor 34 = .ok (.ifCond .ne 23, 3) := by decide +kernel
theorem dX7_factor_37 : decode cX7_factor 37 = .ok (.aload_n 0, 1) := by decide +kernel
theorem dX7_factor_38 : decode cX7_factor 38 = .ok (.getfield 37, 3) := by decide +kernel
theorem dX7_factor_41 : decode cX7_factor 41 = .ok (.aload_n 0, 1) := by decide +kernel
theorem dX7_factor_42 : decode cX7_factor 42 = .ok (.getfield 9, 3) := by decide +kernel
theorem dX7_factor_45 : decode cX7_factor 45 = .ok (.iload_n 1, 1) := by decide +kernel
theorem dX7_factor_46 : decode cX7_factor 46 = .ok (.laload, 1) := by decide +kernel
theorem dX7_factor_47 : decode cX7_factor 47 = .ok (.aload_n 0, 1) := by decide +kernel
theorem dX7_factor_48 : decode cX7_factor 48 = .ok (.getfield 16, 3) := by decide +kernel
theorem dX7_factor_51 : decode cX7_factor 51 = .ok (.invokevirtual 165, 3) := by decide +kernel
theorem dX7_factor_54 : decode cX7_factor 54 = .ok (.goto 29, 3) := by decide +kernel
theorem dX7_factor_57 : decode cX7_factor 57 = .ok (.aload_n 0, 1) := by decide +kernel
theorem dX7_factor_58 : decode cX7_factor 58 = .ok (.getfield 37, 3) := by decide +kernel
theorem dX7_factor_61 : decode cX7_factor 61 = .ok (.aload_n 0, 1) := by decide +kernel
theorem dX7_factor_62 : decode cX7_factor 62 = .ok (.getfield 9, 3) := by decide +kernel
theorem dX7_factor_65 : decode cX7_factor 65 = .ok (.iload_n 1, 1) := by decide +kernel
theorem dX7_factor_66 : decode cX7_factor 66 = .ok (.laload, 1) := by decide +kernel
theorem dX7_factor_67 : decode cX7_factor 67 = .ok (.aload_n 0, 1) := by decide +kernel
theorem dX7_factor_68 : decode cX7_factor 68 = .ok (.getfield 16, 3) := by decide +kernel
theorem dX7_factor_71 : decode cX7_factor 71 = .ok (.invokevirtual 169, 3) := by decide +kernel
theorem dX7_factor_74 : decode cX7_factor 74 = .ok (.aload_n 0, 1) := by decide +kernel
theorem dX7_factor_75 : decode cX7_factor 75 = .ok (.getfield 16, 3) := by decide +kernel
theorem dX7_factor_78 : decode cX7_factor 78 = .ok (.iconst 1, 1) := by decide +kernel
theorem dX7_factor_79 : decode cX7_factor 79 = .ok (.invokevirtual 172, 3) := by decide +kernel
theorem dX7_factor_82 : decode cX7_factor 82 = .ok (.pop, 1) := by decide +kernel
theorem dX7_factor_83 : decode cX7_factor 83 = .ok (.aload_n 0, 1) := by decide +kernel
theorem dX7_factor_84 : decode cX7_factor 84 = .ok (.aload_n 0, 1) := by decide +kernel
theorem dX7_factor_85 : decode cX7_factor 85 = .ok (.getfield 16, 3) := by decide +kernel
theorem dX7_factor_88 : decode cX7_factor 88 = .ok (.getfield 176, 3) := by decide +kernel
theorem dX7_factor_91 : decode cX7_factor 91 = .ok (.invokevirtual 72, 3) := by decide +kernel
theorem dX7_factor_94 : decode cX7_factor 94 = .ok (.ireturn, 1) := by decide +kernel
theorem dX7_enroll_0 : decode cX7_enroll 0 = .ok (.iload_n 1, 1) := by decide +kernel
theorem dX7_enroll_1 : decode cX7_enroll 1 = .ok (.invokestatic 57, 3) := by decide +kernel
theorem dX7_enroll_4 : decode cX7_enroll 4 = .ok (.aload_n 0, 1) := by decide +kernel
theorem dX7_enroll_5 : decode cX7_enroll 5 = .ok (.getfield 16, 3) := by decide +kernel
theorem dX7_enroll_8 : decode cX7_enroll 8 = .ok (.getfield 176, 3) := by decide +kernel
theorem dX7_enroll_11 : decode cX7_enroll 11 = .ok (.bipush 12, 2) := by decide +kernel
theorem dX7_enroll_13 : decode cX7_enroll 13 = .ok (.if_icmp .lt 8, 3) := by decide +kernel
theorem dX7_enroll_16 : decode cX7_enroll 16 = .ok (.aload_n 0, 1) := by decide +kernel
theorem dX7_enroll_17 : decode cX7_enroll 17 = .ok (.invokevirtual 90, 3) := by decide +kernel
theorem dX7_enroll_20 : decode cX7_enroll 20 = .ok (.ireturn, 1) := by decide +kernel
theorem dX7_enroll_21 : decode cX7_enroll 21 = .ok (.aload_n 0, 1) := by decide +kernel
theorem dX7_enroll_22 : decode cX7_enroll 22 = .ok (.getfield 16, 3) := by decide +kernel
theorem dX7_enroll_25 : decode cX7_enroll 25 = .ok (.aload_n 0, 1) := by decide +kernel
theorem dX7_enroll_26 : decode cX7_enroll 26 = .ok (.getfield 9, 3) := by decide +kernel
theorem dX7_enroll_29 : decode cX7_enroll 29 = .ok (.iload_n 1, 1) := by decide +kernel
theorem dX7_enroll_30 : decode cX7_enroll 30 = .ok (.laload, 1) := by decide +kernel
theorem dX7_enroll_31 : decode cX7_enroll 31 = .ok (.invokevirtual 179, 3) := by decide +kernel
theorem dX7_enroll_34 : decode cX7_enroll 34 = .ok (.aload_n 0, 1) := by decide +kernel
theorem dX7_enroll_35 : decode cX7_enroll 35 = .ok (.aload_n 0, 1) := by decide +kernel
theorem dX7_enroll_36 : decode cX7_enroll 36 = .ok (.getfield 16, 3) := by decide +kernel
theorem dX7_enroll_39 : decode cX7_enroll 39 = .ok (.getfield 176, 3) := by decide +kernel
theorem dX7_enroll_42 : decode cX7_enroll 42 = .ok (.invokevirtual 72, 3) := by decide +kernel
theorem dX7_enroll_45 : decode cX7_enroll 45 = .ok (.ireturn, 1) := by decide +kernel
theorem dX7_strike_0 : decode cX7_strike 0 = .ok (.aload_n 0, 1) := by decide +kernel
theorem dX7_strike_1 : decode cX7_strike 1 = .ok (.iload_n 1, 1) := by decide +kernel
theorem dX7_strike_2 : decode cX7_strike 2 = .ok (.invokevirtual 183, 3) := by decide +kernel
theorem dX7_strike_5 : decode cX7_strike 5 = .ok (.aload_n 0, 1) := by decide +kernel
theorem dX7_strike_6 : decode cX7_strike 6 = .ok (.getfield 16, 3) := by decide +kernel
theorem dX7_strike_9 : decode cX7_strike 9 = .ok (.iload_n 1, 1) := by decide +kernel
theorem dX7_strike_10 : decode cX7_strike 10 = .ok (.invokevirtual 186, 3) := by decide +kernel
theorem dX7_strike_13 : decode cX7_strike 13 = .ok (.lstore_n 2, 1) := by decide +kernel
theorem dX7_strike_14 : decode cX7_strike 14 = .ok (.aload_n 0, 1) := by decide +kernel
theorem dX7_strike_15 : decode cX7_strike 15 = .ok (.getfield 16, 3) := by decide +kernel
theorem dX7_strike_18 : decode cX7_strike 18 = .ok (.iload_n 1, 1) := by decide +kernel
theorem dX7_strike_19 : decode cX7_strike 19 = .ok (.invokevirtual 189, 3) := by decide +kernel
theorem dX7_strike_22 : decode cX7_strike 22 = .ok (.aload_n 0, 1) := by decide +kernel
theorem dX7_strike_23 : decode cX7_strike 23 = .ok (.lload_n 2, 1) := by decide +kernel
theorem dX7_strike_24 : decode cX7_strike 24 = .ok (.invokestatic 66, 3) := by decide +kernel
theorem dX7_strike_27 : decode cX7_strike 27 = .ok (.invokevirtual 72, 3) := by decide +kernel
theorem dX7_strike_30 : decode cX7_strike 30 = .ok (.ireturn, 1) := by decide +kernel
theorem dX7_clear_0 : decode cX7_clear 0 = .ok (.aload_n 0, 1) := by decide +kernel
theorem dX7_clear_1 : decode cX7_clear 1 = .ok (.getfield 16, 3) := by decide +kernel
theorem dX7_clear_4 : decode cX7_clear 4 = .ok (.getfield 176, 3) := by decide +kernel
theorem dX7_clear_7 : decode cX7_clear 7 = .ok (.istore_n 1, 1) := by decide +kernel
theorem dX7_clear_8 : decode cX7_clear 8 = .ok (.aload_n 0, 1) := by decide +kernel
theorem dX7_clear_9 : decode cX7_clear 9 = .ok (.getfield 16, 3) := by decide +kernel
theorem dX7_clear_12 : decode cX7_clear 12 = .ok (.invokevirtual 192, 3) := by decide +kernel
theorem dX7_clear_15 : decode cX7_clear 15 = .ok (.aload_n 0, 1) := by decide +kernel
theorem dX7_clear_16 : decode cX7_clear 16 = .ok (.iload_n 1, 1) := by decide +kernel
theorem dX7_clear_17 : decode cX7_clear 17 = .ok (.invokevirtual 72, 3) := by decide +kernel
theorem dX7_clear_20 : decode cX7_clear 20 = .ok (.ireturn, 1) := by decide +kernel
theorem dX7_sort_0 : decode cX7_sort 0 = .ok (.aload_n 0, 1) := by decide +kernel
theorem dX7_sort_1 : decode cX7_sort 1 = .ok (.aload_n 0, 1) := by decide +kernel
theorem dX7_sort_2 : decode cX7_sort 2 = .ok (.getfield 16, 3) := by decide +kernel
theorem dX7_sort_5 : decode cX7_sort 5 = .ok (.iload_n 1, 1) := by decide +kernel
theorem dX7_sort_6 : decode cX7_sort 6 = .ok (.invokevirtual 172, 3) := by decide +kernel
theorem dX7_sort_9 : decode cX7_sort 9 = .ok (.invokevirtual 72, 3) := by decide +kernel
theorem dX7_sort_12 : decode cX7_sort 12 = .ok (.ireturn, 1) := by decide +kernel
theorem dX7_turnAll_0 : decode cX7_turnAll 0 = .ok (.aload_n 0, 1) := by decide +kernel
theorem dX7_turnAll_1 : decode cX7_turnAll 1 = .ok (.aload_n 0, 1) := by decide +kernel
theorem dX7_turnAll_2 : decode cX7_turnAll 2 = .ok (.getfield 16, 3) := by decide +kernel
theorem dX7_turnAll_5 : decode cX7_turnAll 5 = .ok (.invokevirtual 195, 3) := by decide +kernel
theorem dX7_turnAll_8 : decode cX7_turnAll 8 = .ok (.invokevirtual 72, 3) := by decide +kernel
theorem dX7_turnAll_11 : decode cX7_turnAll 11 = .ok (.ireturn, 1) := by decide +kernel
theorem dX7_take_0 : decode cX7_take 0 = .ok (.aload_n 0, 1) := by decide +kernel
theorem dX7_take_1 : decode cX7_take 1 = .ok (.iload_n 1, 1) := by decide +kernel
theorem dX7_take_2 : decode cX7_take 2 = .ok (.invokevirtual 183, 3) := by decide +kernel
theorem dX7_take_5 : decode cX7_take 5 = .ok (.iload_n 2, 1) := by decide +kernel
theorem dX7_take_6 : decode cX7_take 6 = .ok (.invokestatic 57, 3) := by decide +kernel
theorem dX7_take_9 : decode cX7_take 9 = .ok (.aload_n 0, 1) := by decide +kernel
theorem dX7_take_10 : decode cX7_take 10 = .ok (.iload_n 2, 1) := by decide +kernel
theorem dX7_take_11 : decode cX7_take 11 = .ok (.aload_n 0, 1) := by decide +kernel
theorem dX7_take_12 : decode cX7_take 12 = .ok (.getfield 16, 3) := by decide +kernel
theorem dX7_take_15 : decode cX7_take 15 = .ok (.iload_n 1, 1) := by decide +kernel
theorem dX7_take_16 : decode cX7_take 16 = .ok (.invokevirtual 186, 3) := by decide +kernel
theorem dX7_take_19 : decode cX7_take 19 = .ok (.invokevirtual 86, 3) := by decide +kernel
theorem dX7_take_22 : decode cX7_take 22 = .ok (.ireturn, 1) := by decide +kernel
theorem dX7_product_0 : decode cX7_product 0 = .ok (.iload_n 1, 1) := by decide +kernel
theorem dX7_product_1 : decode cX7_product 1 = .ok (.invokestatic 57, 3) := by decide +kernel
theorem dX7_product_4 : decode cX7_product 4 = .ok (.aload_n 0, 1) := by decide +kernel
theorem dX7_product_5 : decode cX7_product 5 = .ok (.getfield 16, 3) := by decide +kernel
theorem dX7_product_8 : decode cX7_product 8 = .ok (.invokevirtual 198, 3) := by decide +kernel
theorem dX7_product_11 : decode cX7_product 11 = .ok (.ifCond .ne 20, 3) := by decide +kernel
theorem dX7_product_14 : decode cX7_product 14 = .ok (.aload_n 0, 1) := by decide +kernel
theorem dX7_product_15 : decode cX7_product 15 = .ok (.getfield 16, 3) := by decide +kernel
theorem dX7_product_18 : decode cX7_product 18 = .ok (.invokevirtual 202, 3) := by decide +kernel
theorem dX7_product_21 : decode cX7_product 21 = .ok (.bipush 39, 2) := by decide +kernel
theorem dX7_product_23 : decode cX7_product 23 = .ok (.if_icmp .le 8, 3) := by decide +kernel
theorem dX7_product_26 : decode cX7_product 26 = .ok (.aload_n 0, 1) := by decide +kernel
theorem dX7_product_27 : decode cX7_product 27 = .ok (.invokevirtual 90, 3) := by decide +kernel
theorem dX7_product_30 : decode cX7_product 30 = .ok (.ireturn, 1) := by decide +kernel
theorem dX7_product_31 : decode cX7_product 31 = .ok (.aload_n 0, 1) := by decide +kernel
theorem dX7_product_32 : decode cX7_product 32 = .ok (.iload_n 1, 1) := by decide +kernel
theorem dX7_product_33 : decode cX7_product 33 = .ok (.aload_n 0, 1) := by decide +kernel
theorem dX7_product_34 : decode cX7_product 34 = .ok (.getfield 16, 3) := by decide +kernel
theorem dX7_product_37 : decode cX7_product 37 = .ok (.invokevirtual 205, 3) := by decide +kernel
theorem dX7_product_40 : decode cX7_product 40 = .ok (.invokevirtual 86, 3) := by decide +kernel
theorem dX7_product_43 : decode cX7_product 43 = .ok (.ireturn, 1) := by decide +kernel
theorem dX7_start_0 : decode cX7_start 0 = .ok (.iload_n 1, 1) := by decide +kernel
theorem dX7_start_1 : decode cX7_start 1 = .ok (.invokestatic 57, 3) := by decide +kernel
theorem dX7_start_4 : decode cX7_start 4 = .ok (.aload_n 0, 1) := by decide +kernel
theorem dX7_start_5 : decode cX7_start 5 = .ok (.getfield 9, 3) := by decide +kernel
theorem dX7_start_8 : decode cX7_start 8 = .ok (.iload_n 1, 1) := by decide +kernel
theorem dX7_start_9 : decode cX7_start 9 = .ok (.laload, 1) := by decide +kernel
theorem dX7_start_10 : decode cX7_start 10 = .ok (.invokestatic 209, 3) := by decide +kernel
theorem dX7_start_13 : decode cX7_start 13 = .ok (.ifCond .ne 8, 3) := by decide +kernel
theorem dX7_start_16 : decode cX7_start 16 = .ok (.aload_n 0, 1) := by decide +kernel
theorem dX7_start_17 : decode cX7_start 17 = .ok (.invokevirtual 90, 3) := by decide +kernel
theorem dX7_start_20 : decode cX7_start 20 = .ok (.ireturn, 1) := by decide +kernel
theorem dX7_start_21 : decode cX7_start 21 = .ok (.aload_n 0, 1) := by decide +kernel
theorem dX7_start_22 : decode cX7_start 22 = .ok (.getfield 23, 3) := by decide +kernel
theorem dX7_start_25 : decode cX7_start 25 = .ok (.aload_n 0, 1) := by decide +kernel
theorem dX7_start_26 : decode cX7_start 26 = .ok (.getfield 9, 3) := by decide +kernel
theorem dX7_start_29 : decode cX7_start 29 = .ok (.iload_n 1, 1) := by decide +kernel
theorem dX7_start_30 : decode cX7_start 30 = .ok (.laload, 1) := by decide +kernel
theorem dX7_start_31 : decode cX7_start 31 = .ok (.invokevirtual 215, 3) := by decide +kernel
theorem dX7_start_34 : decode cX7_start 34 = .ok (.aload_n 0, 1) := by decide +kernel
theorem dX7_start_35 : decode cX7_start 35 = .ok (.aload_n 0, 1) := by decide +kernel
theorem dX7_start_36 : decode cX7_start 36 = .ok (.getfield 23, 3) := by decide +kernel
theorem dX7_start_39 : decode cX7_start 39 = .ok (.getfield 218, 3) := by decide +kernel
theorem dX7_start_42 : decode cX7_start 42 = .ok (.invokestatic 66, 3) := by decide +kernel
theorem dX7_start_45 : decode cX7_start 45 = .ok (.invokevirtual 72, 3) := by decide +kernel
theorem dX7_start_48 : decode cX7_start 48 = .ok (.ireturn, 1) := by decide +kernel
theorem dX7_step_0 : decode cX7_step 0 = .ok (.iload_n 1, 1) := by decide +kernel
theorem dX7_step_1 : decode cX7_step 1 = .ok (.iconst 0, 1) := by decide +kernel
theorem dX7_step_2 : decode cX7_step 2 = .ok (.sipush 255, 3) := by decide +kernel
theorem dX7_step_5 : decode cX7_step 5 = .ok (.invokestatic 62, 3) := by decide +kernel
theorem dX7_step_8 : decode cX7_step 8 = .ok (.aload_n 0, 1) := by decide +kernel
theorem dX7_step_9 : decode cX7_step 9 = .ok (.aload_n 0, 1) := by decide +kernel
theorem dX7_step_10 : decode cX7_step 10 = .ok (.getfield 23, 3) := by decide +kernel
theorem dX7_step_13 : decode cX7_step 13 = .ok (.iload_n 1, 1) := by decide +kernel
theorem dX7_step_14 : decode cX7_step 14 = .ok (.invokevirtual 221, 3) := by decide +kernel
theorem dX7_step_17 : decode cX7_step 17 = .ok (.invokevirtual 72, 3) := by decide +kernel
theorem dX7_step_20 : decode cX7_step 20 = .ok (.ireturn, 1) := by decide +kernel
theorem dX7_load_0 : decode cX7_load 0 = .ok (.iload_n 1, 1) := by decide +kernel
theorem dX7_load_1 : decode cX7_load 1 = .ok (.iconst 0, 1) := by decide +kernel
theorem dX7_load_2 : decode cX7_load 2 = .ok (.sipush 255, 3) := by decide +kernel
theorem dX7_load_5 : decode cX7_load 5 = .ok (.invokestatic 62, 3) := by decide +kernel
theorem dX7_load_8 : decode cX7_load 8 = .ok (.iload_n 1, 1) := by decide +kernel
theorem dX7_load_9 : decode cX7_load 9 = .ok (.i2l, 1) := by decide +kernel
theorem dX7_load_10 : decode cX7_load 10 = .ok (.invokestatic 66, 3) := by decide +kernel
theorem dX7_load_13 : decode cX7_load 13 = .ok (.aload_n 0, 1) := by decide +kernel
theorem dX7_load_14 : decode cX7_load 14 = .ok (.getfield 23, 3) := by decide +kernel
theorem dX7_load_17 : decode cX7_load 17 = .ok (.getfield 218, 3) := by decide +kernel
theorem dX7_load_20 : decode cX7_load 20 = .ok (.invokestatic 66, 3) := by decide +kernel
theorem dX7_load_23 : decode cX7_load 23 = .ok (.if_icmp .lt 8, 3) := by decide +kernel
theorem dX7_load_26 : decode cX7_load 26 = .ok (.aload_n 0, 1) := by decide +kernel
theorem dX7_load_27 : decode cX7_load 27 = .ok (.invokevirtual 90, 3) := by decide +kernel
theorem dX7_load_30 : decode cX7_load 30 = .ok (.ireturn, 1) := by decide +kernel
theorem dX7_load_31 : decode cX7_load 31 = .ok (.aload_n 0, 1) := by decide +kernel
theorem dX7_load_32 : decode cX7_load 32 = .ok (.getfield 23, 3) := by decide +kernel
theorem dX7_load_35 : decode cX7_load 35 = .ok (.getfield 224, 3) := by decide +kernel
theorem dX7_load_38 : decode cX7_load 38 = .ok (.iload_n 1, 1) := by decide +kernel
theorem dX7_load_39 : decode cX7_load 39 = .ok (.i2l, 1) := by decide +kernel
theorem dX7_load_40 : decode cX7_load 40 = .ok (.lxor, 1) := by decide +kernel
theorem dX7_load_41 : decode cX7_load 41 = .ok (.invokestatic 83, 3) := by decide +kernel
theorem dX7_load_44 : decode cX7_load 44 = .ok (.istore_n 2, 1) := by decide +kernel
theorem dX7_load_45 : decode cX7_load 45 = .ok (.aload_n 0, 1) := by decide +kernel
theorem dX7_load_46 : decode cX7_load 46 = .ok (.getfield 23, 3) := by decide +kernel
theorem dX7_load_49 : decode cX7_load 49 = .ok (.iload_n 1, 1) := by decide +kernel
theorem dX7_load_50 : decode cX7_load 50 = .ok (.i2l, 1) := by decide +kernel
theorem dX7_load_51 : decode cX7_load 51 = .ok (.putfield 224, 3) := by decide +kernel
theorem dX7_load_54 : decode cX7_load 54 = .ok (.aload_n 0, 1) := by decide +kernel
theorem dX7_load_55 : decode cX7_load 55 = .ok (.iload_n 2, 1) := by decide +kernel
theorem dX7_load_56 : decode cX7_load 56 = .ok (.invokevirtual 72, 3) := by decide +kernel
theorem dX7_load_59 : decode cX7_load 59 = .ok (.ireturn, 1) := by decide +kernel
theorem dX7_degree_0 : decode cX7_degree 0 = .ok (.iload_n 1, 1) := by decide +kernel
theorem dX7_degree_1 : decode cX7_degree 1 = .ok (.invokestatic 57, 3) := by decide +kernel
theorem dX7_degree_4 : decode cX7_degree 4 = .ok (.aload_n 0, 1) := by decide +kernel
theorem dX7_degree_5 : decode cX7_degree 5 = .ok (.getfield 9, 3) := by decide +kernel
theorem dX7_degree_8 : decode cX7_degree 8 = .ok (.iload_n 1, 1) := by decide +kernel
theorem dX7_degree_9 : decode cX7_degree 9 = .ok (.laload, 1) := by decide +kernel
theorem dX7_degree_10 : decode cX7_degree 10 = .ok (.invokestatic 66, 3) := by decide +kernel
theorem dX7_degree_13 : decode cX7_degree 13 = .ok (.ireturn, 1) := by decide +kernel
theorem dX7_code_0 : decode cX7_code 0 = .ok (.iload_n 1, 1) := by decide +kernel
theorem dX7_code_1 : decode cX7_code 1 = .ok (.invokestatic 57, 3) := by decide +kernel
theorem dX7_code_4 : decode cX7_code 4 = .ok (.aload_n 0, 1) := by decide +kernel
theorem dX7_code_5 : decode cX7_code 5 = .ok (.getfield 9, 3) := by decide +kernel
theorem dX7_code_8 : decode cX7_code 8 = .ok (.iload_n 1, 1) := by decide +kernel
theorem dX7_code_9 : decode cX7_code 9 = .ok (.laload, 1) := by decide +kernel
theorem dX7_code_10 : decode cX7_code 10 = .ok (.invokestatic 66, 3) := by decide +kernel
theorem dX7_code_13 : decode cX7_code 13 = .ok (.bipush 30, 2) := by decide +kernel
theorem dX7_code_15 : decode cX7_code 15 = .ok (.if_icmp .le 8, 3) := by decide +kernel
theorem dX7_code_18 : decode cX7_code 18 = .ok (.bipush (-9), 2) := by decide +kernel
theorem dX7_code_20 : decode cX7_code 20 = .ok (.goto 10, 3) := by decide +kernel
theorem dX7_code_23 : decode cX7_code 23 = .ok (.aload_n 0, 1) := by decide +kernel
theorem dX7_code_24 : decode cX7_code 24 = .ok (.getfield 9, 3) := by decide +kernel
theorem dX7_code_27 : decode cX7_code 27 = .ok (.iload_n 1, 1) := by decide +kernel
theorem dX7_code_28 : decode cX7_code 28 = .ok (.laload, 1) := by decide +kernel
theorem dX7_code_29 : decode cX7_code 29 = .ok (.l2i, 1) := by decide +kernel
theorem dX7_code_30 : decode cX7_code 30 = .ok (.ireturn, 1) := by decide +kernel
theorem dX7_has_0 : decode cX7_has 0 = .ok (.iload_n 1, 1) := by decide +kernel
theorem dX7_has_1 : decode cX7_has 1 = .ok (.invokestatic 57, 3) := by decide +kernel
theorem dX7_has_4 : decode cX7_has 4 = .ok (.iload_n 2, 1) := by decide +kernel
theorem dX7_has_5 : decode cX7_has 5 = .ok (.invokestatic 76, 3) := by decide +kernel
theorem dX7_has_8 : decode cX7_has 8 = .ok (.aload_n 0, 1) := by decide +kernel
theorem dX7_has_9 : decode cX7_has 9 = .ok (.getfield 9, 3) := by decide +kernel
theorem dX7_has_12 : decode cX7_has 12 = .ok (.iload_n 1, 1) := by decide +kernel
theorem dX7_has_13 : decode cX7_has 13 = .ok (.laload, 1) := by decide +kernel
theorem dX7_has_14 : decode cX7_has 14 = .ok (.iload_n 2, 1) := by decide +kernel
theorem dX7_has_15 : decode cX7_has 15 = .ok (.invokestatic 79, 3) := by decide +kernel
theorem dX7_has_18 : decode cX7_has 18 = .ok (.ireturn, 1) := by decide +kernel
theorem dX7_ones_0 : decode cX7_ones 0 = .ok (.iload_n 1, 1) := by decide +kernel
theorem dX7_ones_1 : decode cX7_ones 1 = .ok (.invokestatic 57, 3) := by decide +kernel
theorem dX7_ones_4 : decode cX7_ones 4 = .ok (.aload_n 0, 1) := by decide +kernel
theorem dX7_ones_5 : decode cX7_ones 5 = .ok (.getfield 9, 3) := by decide +kernel
theorem dX7_ones_8 : decode cX7_ones 8 = .ok (.iload_n 1, 1) := by decide +kernel
theorem dX7_ones_9 : decode cX7_ones 9 = .ok (.laload, 1) := by decide +kernel
theorem dX7_ones_10 : decode cX7_ones 10 = .ok (.invokestatic 83, 3) := by decide +kernel
theorem dX7_ones_13 : decode cX7_ones 13 = .ok (.ireturn, 1) := by decide +kernel
theorem dX7_lowest_0 : decode cX7_lowest 0 = .ok (.iload_n 1, 1) := by decide +kernel
theorem dX7_lowest_1 : decode cX7_lowest 1 = .ok (.invokestatic 57, 3) := by decide +kernel
theorem dX7_lowest_4 : decode cX7_lowest 4 = .ok (.aload_n 0, 1) := by decide +kernel
theorem dX7_lowest_5 : decode cX7_lowest 5 = .ok (.getfield 9, 3) := by decide +kernel
theorem dX7_lowest_8 : decode cX7_lowest 8 = .ok (.iload_n 1, 1) := by decide +kernel
theorem dX7_lowest_9 : decode cX7_lowest 9 = .ok (.laload, 1) := by decide +kernel
theorem dX7_lowest_10 : decode cX7_lowest 10 = .ok (.invokestatic 227, 3) := by decide +kernel
theorem dX7_lowest_13 : decode cX7_lowest 13 = .ok (.ireturn, 1) := by decide +kernel
theorem dX7_text_0 : decode cX7_text 0 = .ok (.iload_n 1, 1) := by decide +kernel
theorem dX7_text_1 : decode cX7_text 1 = .ok (.invokestatic 57, 3) := by decide +kernel
theorem dX7_text_4 : decode cX7_text 4 = .ok (.aload_n 0, 1) := by decide +kernel
theorem dX7_text_5 : decode cX7_text 5 = .ok (.getfield 9, 3) := by decide +kernel
theorem dX7_text_8 : decode cX7_text 8 = .ok (.iload_n 1, 1) := by decide +kernel
theorem dX7_text_9 : decode cX7_text 9 = .ok (.laload, 1) := by decide +kernel
theorem dX7_text_10 : decode cX7_text 10 = .ok (.invokestatic 230, 3) := by decide +kernel
theorem dX7_text_13 : decode cX7_text 13 = .ok (.areturn, 1) := by decide +kernel
theorem dX7_order_0 : decode cX7_order 0 = .ok (.iload_n 1, 1) := by decide +kernel
theorem dX7_order_1 : decode cX7_order 1 = .ok (.invokestatic 57, 3) := by decide +kernel
theorem dX7_order_4 : decode cX7_order 4 = .ok (.iload_n 2, 1) := by decide +kernel
theorem dX7_order_5 : decode cX7_order 5 = .ok (.invokestatic 57, 3) := by decide +kernel
theorem dX7_order_8 : decode cX7_order 8 = .ok (.aload_n 0, 1) := by decide +kernel
theorem dX7_order_9 : decode cX7_order 9 = .ok (.getfield 9, 3) := by decide +kernel
theorem dX7_order_12 : decode cX7_order 12 = .ok (.iload_n 1, 1) := by decide +kernel
theorem dX7_order_13 : decode cX7_order 13 = .ok (.laload, 1) := by decide +kernel
theorem dX7_order_14 : decode cX7_order 14 = .ok (.aload_n 0, 1) := by decide +kernel
theorem dX7_order_15 : decode cX7_order 15 = .ok (.getfield 9, 3) := by decide +kernel
theorem dX7_order_18 : decode cX7_order 18 = .ok (.iload_n 2, 1) := by decide +kernel
theorem dX7_order_19 : decode cX7_order 19 = .ok (.laload, 1) := by decide +kernel
theorem dX7_order_20 : decode cX7_order 20 = .ok (.lcmp, 1) := by decide +kernel
theorem dX7_order_21 : decode cX7_order 21 = .ok (.ifCond .ne 5, 3) := by decide +kernel
theorem dX7_order_24 : decode cX7_order 24 = .ok (.iconst 0, 1) := by decide +kernel
theorem dX7_order_25 : decode cX7_order 25 = .ok (.ireturn, 1) := by decide +kernel
theorem dX7_order_26 : decode cX7_order 26 = .ok (.aload_n 0, 1) := by decide +kernel
theorem dX7_order_27 : decode cX7_order 27 = .ok (.getfield 9, 3) := by decide +kernel
theorem dX7_order_30 : decode cX7_order 30 = .ok (.iload_n 1, 1) := by decide +kernel
theorem dX7_order_31 : decode cX7_order 31 = .ok (.laload, 1) := by decide +kernel
theorem dX7_order_32 : decode cX7_order 32 = .ok (.aload_n 0, 1) := by decide +kernel
theorem dX7_order_33 : decode cX7_order 33 = .ok (.getfield 9, 3) := by decide +kernel
theorem dX7_order_36 : decode cX7_order 36 = .ok (.iload_n 2, 1) := by decide +kernel
theorem dX7_order_37 : decode cX7_order 37 = .ok (.laload, 1) := by decide +kernel
theorem dX7_order_38 : decode cX7_order 38 = .ok (.lcmp, 1) := by decide +kernel
theorem dX7_order_39 : decode cX7_order 39 = .ok (.ifCond .ge 7, 3) := by decide +kernel
theorem dX7_order_42 : decode cX7_order 42 = .ok (.iconst (-1), 1) := by decide +kernel
theorem dX7_order_43 : decode cX7_order 43 = .ok (.goto 4, 3) := by decide +kernel
theorem dX7_order_46 : decode cX7_order 46 = .ok (.iconst 1, 1) := by decide +kernel
theorem dX7_order_47 : decode cX7_order 47 = .ok (.ireturn, 1) := by decide +kernel
theorem dX7_divides_0 : decode cX7_divides 0 = .ok (.iload_n 1, 1) := by decide +kernel
theorem dX7_divides_1 : decode cX7_divides 1 = .ok (.invokestatic 57, 3) := by decide +kernel
theorem dX7_divides_4 : decode cX7_divides 4 = .ok (.iload_n 2, 1) := by decide +kernel
theorem dX7_divides_5 : decode cX7_divides 5 = .ok (.invokestatic 57, 3) := by decide +kernel
theorem dX7_divides_8 : decode cX7_divides 8 = .ok (.aload_n 0, 1) := by decide +kernel
theorem dX7_divides_9 : decode cX7_divides 9 = .ok (.getfield 9, 3) := by decide +kernel
theorem dX7_divides_12 : decode cX7_divides 12 = .ok (.iload_n 1, 1) := by decide +kernel
theorem dX7_divides_13 : decode cX7_divides 13 = .ok (.laload, 1) := by decide +kernel
theorem dX7_divides_14 : decode cX7_divides 14 = .ok (.aload_n 0, 1) := by decide +kernel
theorem dX7_divides_15 : decode cX7_divides 15 = .ok (.getfield 9, 3) := by decide +kernel
theorem dX7_divides_18 : decode cX7_divides 18 = .ok (.iload_n 2, 1) := by decide +kernel
theorem dX7_divides_19 : decode cX7_divides 19 = .ok (.laload, 1) := by decide +kernel
theorem dX7_divides_20 : decode cX7_divides 20 = .ok (.invokestatic 234, 3) := by decide +kernel
theorem dX7_divides_23 : decode cX7_divides 23 = .ok (.ireturn, 1) := by decide +kernel
theorem dX7_check_0 : decode cX7_check 0 = .ok (.iload_n 1, 1) := by decide +kernel
theorem dX7_check_1 : decode cX7_check 1 = .ok (.invokestatic 57, 3) := by decide +kernel
theorem dX7_check_4 : decode cX7_check 4 = .ok (.iload_n 2, 1) := by decide +kernel
theorem dX7_check_5 : decode cX7_check 5 = .ok (.invokestatic 57, 3) := by decide +kernel
theorem dX7_check_8 : decode cX7_check 8 = .ok (.aload_n 0, 1) := by decide +kernel
theorem dX7_check_9 : decode cX7_check 9 = .ok (.getfield 9, 3) := by decide +kernel
theorem dX7_check_12 : decode cX7_check 12 = .ok (.iload_n 2, 1) := by decide +kernel
theorem dX7_check_13 : decode cX7_check 13 = .ok (.laload, 1) := by decide +kernel
theorem dX7_check_14 : decode cX7_check 14 = .ok (.invokestatic 66, 3) := by decide +kernel
theorem dX7_check_17 : decode cX7_check 17 = .ok (.iconst 1, 1) := by decide +kernel
theorem dX7_check_18 : decode cX7_check 18 = .ok (.bipush 31, 2) := by decide +kernel
theorem dX7_check_20 : decode cX7_check 20 = .ok (.invokestatic 161, 3) := by decide +kernel
theorem dX7_check_23 : decode cX7_check 23 = .ok (.ifCond .eq 12, 3) := by decide +kernel
theorem dX7_check_26 : decode cX7_check 26 = .ok (.aload_n 0, 1) := by decide +kernel
theorem dX7_check_27 : decode cX7_check 27 = .ok (.iload_n 1, 1) := by decide +kernel
theorem dX7_check_28 : decode cX7_check 28 = .ok (.iload_n 2, 1) := by decide +kernel
theorem dX7_check_29 : decode cX7_check 29 = .ok (.invokevirtual 154, 3) := by decide +kernel
theorem dX7_check_32 : decode cX7_check 32 = .ok (.ifCond .ne 6, 3) := by decide +kernel
theorem dX7_check_35 : decode cX7_check 35 = .ok (.bipush (-9), 2) := by decide +kernel
theorem dX7_check_37 : decode cX7_check 37 = .ok (.ireturn, 1) := by decide +kernel
theorem dX7_check_38 : decode cX7_check 38 = .ok (.aload_n 0, 1) := by decide +kernel
theorem dX7_check_39 : decode cX7_check 39 = .ok (.getfield 9, 3) := by decide +kernel
theorem dX7_check_42 : decode cX7_check 42 = .ok (.iload_n 1, 1) := by decide +kernel
theorem dX7_check_43 : decode cX7_check 43 = .ok (.laload, 1) := by decide +kernel
theorem dX7_check_44 : decode cX7_check 44 = .ok (.aload_n 0, 1) := by decide +kernel
theorem dX7_check_45 : decode cX7_check 45 = .ok (.getfield 9, 3) := by decide +kernel
theorem dX7_check_48 : decode cX7_check 48 = .ok (.iload_n 2, 1) := by decide +kernel
theorem dX7_check_49 : decode cX7_check 49 = .ok (.laload, 1) := by decide +kernel
theorem dX7_check_50 : decode cX7_check 50 = .ok (.invokestatic 158, 3) := by decide +kernel
theorem dX7_check_53 : decode cX7_check 53 = .ok (.l2i, 1) := by decide +kernel
theorem dX7_check_54 : decode cX7_check 54 = .ok (.ireturn, 1) := by decide +kernel
theorem dX7_isPrime_0 : decode cX7_isPrime 0 = .ok (.iload_n 1, 1) := by decide +kernel
theorem dX7_isPrime_1 : decode cX7_isPrime 1 = .ok (.invokestatic 57, 3) := by decide +kernel
theorem dX7_isPrime_4 : decode cX7_isPrime 4 = .ok (.iload_n 2, 1) := by decide +kernel
theorem dX7_isPrime_5 : decode cX7_isPrime 5 = .ok (.iconst 0, 1) := by decide +kernel
theorem dX7_isPrime_6 : decode cX7_isPrime 6 = .ok (.iconst 1, 1) := by decide +kernel
theorem dX7_isPrime_7 : decode cX7_isPrime 7 = .ok (.invokestatic 62, 3) := by decide +kernel
theorem dX7_isPrime_10 : decode cX7_isPrime 10 = .ok (.aload_n 0, 1) := by decide +kernel
theorem dX7_isPrime_11 : decode cX7_isPrime 11 = .ok (.getfield 9, 3) := by decide +kernel
theorem dX7_isPrime_14 : decode cX7_isPrime 14 = .ok (.iload_n 1, 1) := by decide +kernel
theorem dX7_isPrime_15 : decode cX7_isPrime 15 = .ok (.laload, 1) := by decide +kernel
theorem dX7_isPrime_16 : decode cX7_isPrime 16 = .ok (.invokestatic 66, 3) := by decide +kernel
theorem dX7_isPrime_19 : decode cX7_isPrime 19 = .ok (.bipush 10, 2) := by decide +kernel
theorem dX7_isPrime_21 : decode cX7_isPrime 21 = .ok (.if_icmp .le 6, 3) := by decide +kernel
theorem dX7_isPrime_24 : decode cX7_isPrime 24 = .ok (.bipush (-9), 2) := by decide +kernel
theorem dX7_isPrime_26 : decode cX7_isPrime 26 = .ok (.ireturn, 1) := by decide +kernel
theorem dX7_isPrime_27 : decode cX7_isPrime 27 = .ok (.iload_n 2, 1) := by decide +kernel
theorem dX7_isPrime_28 : decode cX7_isPrime 28 = .ok (.ifCond .ne 15, 3) := by decide +kernel
theorem dX7_isPrime_31 : decode cX7_isPrime 31 = .ok (.aload_n 0, 1) := by decide +kernel
theorem dX7_isPrime_32 : decode cX7_isPrime 32 = .ok (.getfield 9, 3) := by decide +kernel
theorem dX7_isPrime_35 : decode cX7_isPrime 35 = .ok (.iload_n 1, 1) := by decide +kernel
theorem dX7_isPrime_36 : decode cX7_isPrime 36 = .ok (.laload, 1) := by decide +kernel
theorem dX7_isPrime_37 : decode cX7_isPrime 37 = .ok (.invokestatic 237, 3) := by decide +kernel
theorem dX7_isPrime_40 : decode cX7_isPrime 40 = .ok (.goto 12, 3) := by decide +kernel
theorem dX7_isPrime_43 : decode cX7_isPrime 43 = .ok (.aload_n 0, 1) := by decide +kernel
theorem dX7_isPrime_44 : decode cX7_isPrime 44 = .ok (.getfield 9, 3) := by decide +kernel
theorem dX7_isPrime_47 : decode cX7_isPrime 47 = .ok (.iload_n 1, 1) := by decide +kernel
theorem dX7_isPrime_48 : decode cX7_isPrime 48 = .ok (.laload, 1) := by decide +kernel
theorem dX7_isPrime_49 : decode cX7_isPrime 49 = .ok (.invokestatic 240, 3) := by decide +kernel
theorem dX7_isPrime_52 : decode cX7_isPrime 52 = .ok (.istore_n 3, 1) := by decide +kernel
theorem dX7_isPrime_53 : decode cX7_isPrime 53 = .ok (.iload_n 3, 1) := by decide +kernel
theorem dX7_isPrime_54 : decode cX7_isPrime 54 = .ok (.ifCond .eq 7, 3) := by decide +kernel
theorem dX7_isPrime_57 : decode cX7_isPrime 57 = .ok (.iconst 1, 1) := by decide +kernel
theorem dX7_isPrime_58 : decode cX7_isPrime 58 = .ok (.goto 4, 3) := by decide +kernel
theorem dX7_isPrime_61 : decode cX7_isPrime 61 = .ok (.iconst 0, 1) := by decide +kernel
theorem dX7_isPrime_62 : decode cX7_isPrime 62 = .ok (.ireturn, 1) := by decide +kernel
theorem dX7_primes_0 : decode cX7_primes 0 = .ok (.iload_n 2, 1) := by decide +kernel
theorem dX7_primes_1 : decode cX7_primes 1 = .ok (.iconst 0, 1) := by decide +kernel
theorem dX7_primes_2 : decode cX7_primes 2 = .ok (.iconst 1, 1) := by decide +kernel
theorem dX7_primes_3 : decode cX7_primes 3 = .ok (.invokestatic 62, 3) := by decide +kernel
theorem dX7_primes_6 : decode cX7_primes 6 = .ok (.iload_n 1, 1) := by decide +kernel
theorem dX7_primes_7 : decode cX7_primes 7 = .ok (.iconst 1, 1) := by decide +kernel
theorem dX7_primes_8 : decode cX7_primes 8 = .ok (.iload_n 2, 1) := by decide +kernel
theorem dX7_primes_9 : decode cX7_primes 9 = .ok (.ifCond .ne 8, 3) := by decide +kernel
theorem dX7_primes_12 : decode cX7_primes 12 = .ok (.bipush 10, 2) := by decide +kernel
theorem dX7_primes_14 : decode cX7_primes 14 = .ok (.goto 5, 3) := by decide +kernel
theorem dX7_primes_17 : decode cX7_primes 17 = .ok (.bipush 6, 2) := by decide +kernel
theorem dX7_primes_19 : decode cX7_primes 19 = .ok (.invokestatic 62, 3) := by decide +kernel
theorem dX7_primes_22 : decode cX7_primes 22 = .ok (.iload_n 2, 1) := by decide +kernel
theorem dX7_primes_23 : decode cX7_primes 23 = .ok (.ifCond .ne 10, 3) := by decide +kernel
theorem dX7_primes_26 : decode cX7_primes 26 = .ok (.iload_n 1, 1) := by decide +kernel
theorem dX7_primes_27 : decode cX7_primes 27 = .ok (.invokestatic 243, 3) := by decide +kernel
theorem dX7_primes_30 : decode cX7_primes 30 = .ok (.goto 7, 3) := by decide +kernel
theorem dX7_primes_33 : decode cX7_primes 33 = .ok (.iload_n 1, 1) := by decide +kernel
theorem dX7_primes_34 : decode cX7_primes 34 = .ok (.invokestatic 246, 3) := by decide +kernel
theorem dX7_primes_37 : decode cX7_primes 37 = .ok (.ireturn, 1) := by decide +kernel
theorem dX7_prime_0 : decode cX7_prime 0 = .ok (.iload_n 1, 1) := by decide +kernel
theorem dX7_prime_1 : decode cX7_prime 1 = .ok (.iconst 1, 1) := by decide +kernel
theorem dX7_prime_2 : decode cX7_prime 2 = .ok (.bipush 6, 2) := by decide +kernel
theorem dX7_prime_4 : decode cX7_prime 4 = .ok (.invokestatic 62, 3) := by decide +kernel
theorem dX7_prime_7 : decode cX7_prime 7 = .ok (.iload_n 2, 1) := by decide +kernel
theorem dX7_prime_8 : decode cX7_prime 8 = .ok (.iconst 0, 1) := by decide +kernel
theorem dX7_prime_9 : decode cX7_prime 9 = .ok (.bipush 9, 2) := by decide +kernel
theorem dX7_prime_11 : decode cX7_prime 11 = .ok (.invokestatic 62, 3) := by decide +kernel
theorem dX7_prime_14 : decode cX7_prime 14 = .ok (.iload_n 1, 1) := by decide +kernel
theorem dX7_prime_15 : decode cX7_prime 15 = .ok (.iload_n 2, 1) := by decide +kernel
theorem dX7_prime_16 : decode cX7_prime 16 = .ok (.invokestatic 249, 3) := by decide +kernel
theorem dX7_prime_19 : decode cX7_prime 19 = .ok (.ireturn, 1) := by decide +kernel
theorem dX7_period_0 : decode cX7_period 0 = .ok (.iload_n 1, 1) := by decide +kernel
theorem dX7_period_1 : decode cX7_period 1 = .ok (.invokestatic 57, 3) := by decide +kernel
theorem dX7_period_4 : decode cX7_period 4 = .ok (.iload_n 2, 1) := by decide +kernel
theorem dX7_period_5 : decode cX7_period 5 = .ok (.iconst 0, 1) := by decide +kernel
theorem dX7_period_6 : decode cX7_period 6 = .ok (.iconst 2, 1) := by decide +kernel
theorem dX7_period_7 : decode cX7_period 7 = .ok (.invokestatic 62, 3) := by decide +kernel
theorem dX7_period_10 : decode cX7_period 10 = .ok (.aload_n 0, 1) := by decide +kernel
theorem dX7_period_11 : decode cX7_period 11 = .ok (.getfield 9, 3) := by decide +kernel
theorem dX7_period_14 : decode cX7_period 14 = .ok (.iload_n 1, 1) := by decide +kernel
theorem dX7_period_15 : decode cX7_period 15 = .ok (.laload, 1) := by decide +kernel
theorem dX7_period_16 : decode cX7_period 16 = .ok (.invokestatic 209, 3) := by decide +kernel
theorem dX7_period_19 : decode cX7_period 19 = .ok (.ifCond .ne 6, 3) := by decide +kernel
theorem dX7_period_22 : decode cX7_period 22 = .ok (.bipush (-9), 2) := by decide +kernel
theorem dX7_period_24 : decode cX7_period 24 = .ok (.ireturn, 1) := by decide +kernel
theorem dX7_period_25 : decode cX7_period 25 = .ok (.iload_n 2, 1) := by decide +kernel
theorem dX7_period_26 : decode cX7_period 26 = .ok (.ifCond .ne 13, 3) := by decide +kernel
theorem dX7_period_29 : decode cX7_period 29 = .ok (.aload_n 0, 1) := by decide +kernel
theorem dX7_period_30 : decode cX7_period 30 = .ok (.getfield 9, 3) := by decide +kernel
theorem dX7_period_33 : decode cX7_period 33 = .ok (.iload_n 1, 1) := by decide +kernel
theorem dX7_period_34 : decode cX7_period 34 = .ok (.laload, 1) := by decide +kernel
theorem dX7_period_35 : decode cX7_period 35 = .ok (.invokestatic 253, 3) := by decide +kernel
theorem dX7_period_38 : decode cX7_period 38 = .ok (.ireturn, 1) := by decide +kernel
theorem dX7_period_39 : decode cX7_period 39 = .ok (.iload_n 2, 1) := by decide +kernel
