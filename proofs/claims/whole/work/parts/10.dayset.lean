/-! DaySet -/
theorem zd_JI_highestOneBit_0 : decode zc_JI_highestOneBit 0 = .ok (.iload_n 0, 1) := by decide +kernel
theorem zd_JI_highestOneBit_1 : decode zc_JI_highestOneBit 1 = .ok (.ldc 127, 2) := by decide +kernel
theorem zd_JI_highestOneBit_3 : decode zc_JI_highestOneBit 3 = .ok (.iload_n 0, 1) := by decide +kernel
theorem zd_JI_highestOneBit_4 : decode zc_JI_highestOneBit 4 = .ok (.invokestatic 51, 3) := by decide +kernel
theorem zd_JI_highestOneBit_7 : decode zc_JI_highestOneBit 7 = .ok (.iushr, 1) := by decide +kernel
theorem zd_JI_highestOneBit_8 : decode zc_JI_highestOneBit 8 = .ok (.iand, 1) := by decide +kernel
theorem zd_JI_highestOneBit_9 : decode zc_JI_highestOneBit 9 = .ok (.ireturn, 1) := by decide +kernel
theorem zd_JI_numberOfLeadingZeros_0 : decode zc_JI_numberOfLeadingZeros 0 = .ok (.iload_n 0, 1) := by decide +kernel
theorem zd_JI_numberOfLeadingZeros_1 : decode zc_JI_numberOfLeadingZeros 1 = .ok (.ifCond .gt 14, 3) := by decide +kernel
theorem zd_JI_numberOfLeadingZeros_4 : decode zc_JI_numberOfLeadingZeros 4 = .ok (.iload_n 0, 1) := by decide +kernel
theorem zd_JI_numberOfLeadingZeros_5 : decode zc_JI_numberOfLeadingZeros 5 = .ok (.ifCond .ne 8, 3) := by decide +kernel
theorem zd_JI_numberOfLeadingZeros_8 : decode zc_JI_numberOfLeadingZeros 8 = .ok (.bipush 32, 2) := by decide +kernel
theorem zd_JI_numberOfLeadingZeros_10 : decode zc_JI_numberOfLeadingZeros 10 = .ok (.goto 4, 3) := by decide +kernel
theorem zd_JI_numberOfLeadingZeros_13 : decode zc_JI_numberOfLeadingZeros 13 = .ok (.iconst 0, 1) := by decide +kernel
theorem zd_JI_numberOfLeadingZeros_14 : decode zc_JI_numberOfLeadingZeros 14 = .ok (.ireturn, 1) := by decide +kernel
theorem zd_JI_numberOfLeadingZeros_15 : decode zc_JI_numberOfLeadingZeros 15 = .ok (.bipush 31, 2) := by decide +kernel
theorem zd_JI_numberOfLeadingZeros_17 : decode zc_JI_numberOfLeadingZeros 17 = .ok (.istore_n 1, 1) := by decide +kernel
theorem zd_JI_numberOfLeadingZeros_18 : decode zc_JI_numberOfLeadingZeros 18 = .ok (.iload_n 0, 1) := by decide +kernel
theorem zd_JI_numberOfLeadingZeros_19 : decode zc_JI_numberOfLeadingZeros 19 = .ok (.ldc_w 264, 3) := by decide +kernel
theorem zd_JI_numberOfLeadingZeros_22 : decode zc_JI_numberOfLeadingZeros 22 = .ok (.if_icmp .lt 11, 3) := by decide +kernel
theorem zd_JI_numberOfLeadingZeros_25 : decode zc_JI_numberOfLeadingZeros 25 = .ok (.iinc 1 (-16), 3) := by decide +kernel
theorem zd_JI_numberOfLeadingZeros_28 : decode zc_JI_numberOfLeadingZeros 28 = .ok (.iload_n 0, 1) := by decide +kernel
theorem zd_JI_numberOfLeadingZeros_29 : decode zc_JI_numberOfLeadingZeros 29 = .ok (.bipush 16, 2) := by decide +kernel
theorem zd_JI_numberOfLeadingZeros_31 : decode zc_JI_numberOfLeadingZeros 31 = .ok (.iushr, 1) := by decide +kernel
theorem zd_JI_numberOfLeadingZeros_32 : decode zc_JI_numberOfLeadingZeros 32 = .ok (.istore_n 0, 1) := by decide +kernel
theorem zd_JI_numberOfLeadingZeros_33 : decode zc_JI_numberOfLeadingZeros 33 = .ok (.iload_n 0, 1) := by decide +kernel
theorem zd_JI_numberOfLeadingZeros_34 : decode zc_JI_numberOfLeadingZeros 34 = .ok (.sipush 256, 3) := by decide +kernel
theorem zd_JI_numberOfLeadingZeros_37 : decode zc_JI_numberOfLeadingZeros 37 = .ok (.if_icmp .lt 11, 3) := by decide +kernel
theorem zd_JI_numberOfLeadingZeros_40 : decode zc_JI_numberOfLeadingZeros 40 = .ok (.iinc 1 (-8), 3) := by decide +kernel
theorem zd_JI_numberOfLeadingZeros_43 : decode zc_JI_numberOfLeadingZeros 43 = .ok (.iload_n 0, 1) := by decide +kernel
theorem zd_JI_numberOfLeadingZeros_44 : decode zc_JI_numberOfLeadingZeros 44 = .ok (.bipush 8, 2) := by decide +kernel
theorem zd_JI_numberOfLeadingZeros_46 : decode zc_JI_numberOfLeadingZeros 46 = .ok (.iushr, 1) := by decide +kernel
theorem zd_JI_numberOfLeadingZeros_47 : decode zc_JI_numberOfLeadingZeros 47 = .ok (.istore_n 0, 1) := by decide +kernel
theorem zd_JI_numberOfLeadingZeros_48 : decode zc_JI_numberOfLeadingZeros 48 = .ok (.iload_n 0, 1) := by decide +kernel
theorem zd_JI_numberOfLeadingZeros_49 : decode zc_JI_numberOfLeadingZeros 49 = .ok (.bipush 16, 2) := by decide +kernel
theorem zd_JI_numberOfLeadingZeros_51 : decode zc_JI_numberOfLeadingZeros 51 = .ok (.if_icmp .lt 10, 3) := by decide +kernel
theorem zd_JI_numberOfLeadingZeros_54 : decode zc_JI_numberOfLeadingZeros 54 = .ok (.iinc 1 (-4), 3) := by decide +kernel
theorem zd_JI_numberOfLeadingZeros_57 : decode zc_JI_numberOfLeadingZeros 57 = .ok (.iload_n 0, 1) := by decide +kernel
theorem zd_JI_numberOfLeadingZeros_58 : decode zc_JI_numberOfLeadingZeros 58 = .ok (.iconst 4, 1) := by decide +kernel
theorem zd_JI_numberOfLeadingZeros_59 : decode zc_JI_numberOfLeadingZeros 59 = .ok (.iushr, 1) := by decide +kernel
theorem zd_JI_numberOfLeadingZeros_60 : decode zc_JI_numberOfLeadingZeros 60 = .ok (.istore_n 0, 1) := by decide +kernel
theorem zd_JI_numberOfLeadingZeros_61 : decode zc_JI_numberOfLeadingZeros 61 = .ok (.iload_n 0, 1) := by decide +kernel
theorem zd_JI_numberOfLeadingZeros_62 : decode zc_JI_numberOfLeadingZeros 62 = .ok (.iconst 4, 1) := by decide +kernel
theorem zd_JI_numberOfLeadingZeros_63 : decode zc_JI_numberOfLeadingZeros 63 = .ok (.if_icmp .lt 10, 3) := by decide +kernel
theorem zd_JI_numberOfLeadingZeros_66 : decode zc_JI_numberOfLeadingZeros 66 = .ok (.iinc 1 (-2), 3) := by decide +kernel
theorem zd_JI_numberOfLeadingZeros_69 : decode zc_JI_numberOfLeadingZeros 69 = .ok (.iload_n 0, 1) := by decide +kernel
theorem zd_JI_numberOfLeadingZeros_70 : decode zc_JI_numberOfLeadingZeros 70 = .ok (.iconst 2, 1) := by decide +kernel
theorem zd_JI_numberOfLeadingZeros_71 : decode zc_JI_numberOfLeadingZeros 71 = .ok (.iushr, 1) := by decide +kernel
theorem zd_JI_numberOfLeadingZeros_72 : decode zc_JI_numberOfLeadingZeros 72 = .ok (.istore_n 0, 1) := by decide +kernel
theorem zd_JI_numberOfLeadingZeros_73 : decode zc_JI_numberOfLeadingZeros 73 = .ok (.iload_n 1, 1) := by decide +kernel
theorem zd_JI_numberOfLeadingZeros_74 : decode zc_JI_numberOfLeadingZeros 74 = .ok (.iload_n 0, 1) := by decide +kernel
theorem zd_JI_numberOfLeadingZeros_75 : decode zc_JI_numberOfLeadingZeros 75 = .ok (.iconst 1, 1) := by decide +kernel
theorem zd_JI_numberOfLeadingZeros_76 : decode zc_JI_numberOfLeadingZeros 76 = .ok (.iushr, 1) := by decide +kernel
theorem zd_JI_numberOfLeadingZeros_77 : decode zc_JI_numberOfLeadingZeros 77 = .ok (.isub, 1) := by decide +kernel
theorem zd_JI_numberOfLeadingZeros_78 : decode zc_JI_numberOfLeadingZeros 78 = .ok (.ireturn, 1) := by decide +kernel
theorem zd_S_size_0 : decode zc_S_size 0 = .ok (.aload_n 0, 1) := by decide +kernel
theorem zd_S_size_1 : decode zc_S_size 1 = .ok (.getfield 13, 3) := by decide +kernel
theorem zd_S_size_4 : decode zc_S_size 4 = .ok (.ireturn, 1) := by decide +kernel
theorem zd_S_has_0 : decode zc_S_has 0 = .ok (.aload_n 0, 1) := by decide +kernel
theorem zd_S_has_1 : decode zc_S_has 1 = .ok (.iload_n 1, 1) := by decide +kernel
theorem zd_S_has_2 : decode zc_S_has 2 = .ok (.invokevirtual 17, 3) := by decide +kernel
theorem zd_S_has_5 : decode zc_S_has 5 = .ok (.istore_n 2, 1) := by decide +kernel
theorem zd_S_has_6 : decode zc_S_has 6 = .ok (.iload_n 2, 1) := by decide +kernel
theorem zd_S_has_7 : decode zc_S_has 7 = .ok (.aload_n 0, 1) := by decide +kernel
theorem zd_S_has_8 : decode zc_S_has 8 = .ok (.getfield 13, 3) := by decide +kernel
theorem zd_S_has_11 : decode zc_S_has 11 = .ok (.if_icmp .ge 17, 3) := by decide +kernel
theorem zd_S_has_14 : decode zc_S_has 14 = .ok (.aload_n 0, 1) := by decide +kernel
theorem zd_S_has_15 : decode zc_S_has 15 = .ok (.getfield 7, 3) := by decide +kernel
theorem zd_S_has_18 : decode zc_S_has 18 = .ok (.iload_n 2, 1) := by decide +kernel
theorem zd_S_has_19 : decode zc_S_has 19 = .ok (.iaload, 1) := by decide +kernel
theorem zd_S_has_20 : decode zc_S_has 20 = .ok (.iload_n 1, 1) := by decide +kernel
theorem zd_S_has_21 : decode zc_S_has 21 = .ok (.if_icmp .ne 7, 3) := by decide +kernel
theorem zd_S_has_24 : decode zc_S_has 24 = .ok (.iconst 1, 1) := by decide +kernel
theorem zd_S_has_25 : decode zc_S_has 25 = .ok (.goto 4, 3) := by decide +kernel
theorem zd_S_has_28 : decode zc_S_has 28 = .ok (.iconst 0, 1) := by decide +kernel
theorem zd_S_has_29 : decode zc_S_has 29 = .ok (.ireturn, 1) := by decide +kernel
theorem zd_S_add_0 : decode zc_S_add 0 = .ok (.aload_n 0, 1) := by decide +kernel
theorem zd_S_add_1 : decode zc_S_add 1 = .ok (.iload_n 1, 1) := by decide +kernel
theorem zd_S_add_2 : decode zc_S_add 2 = .ok (.invokevirtual 21, 3) := by decide +kernel
theorem zd_S_add_5 : decode zc_S_add 5 = .ok (.ifCond .eq 5, 3) := by decide +kernel
theorem zd_S_add_8 : decode zc_S_add 8 = .ok (.iconst 1, 1) := by decide +kernel
theorem zd_S_add_9 : decode zc_S_add 9 = .ok (.ireturn, 1) := by decide +kernel
theorem zd_S_add_10 : decode zc_S_add 10 = .ok (.aload_n 0, 1) := by decide +kernel
theorem zd_S_add_11 : decode zc_S_add 11 = .ok (.getfield 13, 3) := by decide +kernel
theorem zd_S_add_14 : decode zc_S_add 14 = .ok (.aload_n 0, 1) := by decide +kernel
theorem zd_S_add_15 : decode zc_S_add 15 = .ok (.getfield 7, 3) := by decide +kernel
theorem zd_S_add_18 : decode zc_S_add 18 = .ok (.arraylength, 1) := by decide +kernel
theorem zd_S_add_19 : decode zc_S_add 19 = .ok (.if_icmp .lt 5, 3) := by decide +kernel
theorem zd_S_add_22 : decode zc_S_add 22 = .ok (.iconst 0, 1) := by decide +kernel
theorem zd_S_add_23 : decode zc_S_add 23 = .ok (.ireturn, 1) := by decide +kernel
theorem zd_S_add_24 : decode zc_S_add 24 = .ok (.aload_n 0, 1) := by decide +kernel
theorem zd_S_add_25 : decode zc_S_add 25 = .ok (.iload_n 1, 1) := by decide +kernel
theorem zd_S_add_26 : decode zc_S_add 26 = .ok (.invokevirtual 17, 3) := by decide +kernel
theorem zd_S_add_29 : decode zc_S_add 29 = .ok (.istore_n 2, 1) := by decide +kernel
theorem zd_S_add_30 : decode zc_S_add 30 = .ok (.aload_n 0, 1) := by decide +kernel
theorem zd_S_add_31 : decode zc_S_add 31 = .ok (.getfield 7, 3) := by decide +kernel
theorem zd_S_add_34 : decode zc_S_add 34 = .ok (.iload_n 2, 1) := by decide +kernel
theorem zd_S_add_35 : decode zc_S_add 35 = .ok (.aload_n 0, 1) := by decide +kernel
theorem zd_S_add_36 : decode zc_S_add 36 = .ok (.getfield 7, 3) := by decide +kernel
theorem zd_S_add_39 : decode zc_S_add 39 = .ok (.iload_n 2, 1) := by decide +kernel
theorem zd_S_add_40 : decode zc_S_add 40 = .ok (.iconst 1, 1) := by decide +kernel
theorem zd_S_add_41 : decode zc_S_add 41 = .ok (.iadd, 1) := by decide +kernel
theorem zd_S_add_42 : decode zc_S_add 42 = .ok (.aload_n 0, 1) := by decide +kernel
theorem zd_S_add_43 : decode zc_S_add 43 = .ok (.getfield 13, 3) := by decide +kernel
theorem zd_S_add_46 : decode zc_S_add 46 = .ok (.iload_n 2, 1) := by decide +kernel
theorem zd_S_add_47 : decode zc_S_add 47 = .ok (.isub, 1) := by decide +kernel
theorem zd_S_add_48 : decode zc_S_add 48 = .ok (.invokestatic 25, 3) := by decide +kernel
theorem zd_S_add_51 : decode zc_S_add 51 = .ok (.aload_n 0, 1) := by decide +kernel
theorem zd_S_add_52 : decode zc_S_add 52 = .ok (.getfield 7, 3) := by decide +kernel
theorem zd_S_add_55 : decode zc_S_add 55 = .ok (.iload_n 2, 1) := by decide +kernel
theorem zd_S_add_56 : decode zc_S_add 56 = .ok (.iload_n 1, 1) := by decide +kernel
theorem zd_S_add_57 : decode zc_S_add 57 = .ok (.iastore, 1) := by decide +kernel
theorem zd_S_add_58 : decode zc_S_add 58 = .ok (.aload_n 0, 1) := by decide +kernel
theorem zd_S_add_59 : decode zc_S_add 59 = .ok (.dup, 1) := by decide +kernel
theorem zd_S_add_60 : decode zc_S_add 60 = .ok (.getfield 13, 3) := by decide +kernel
theorem zd_S_add_63 : decode zc_S_add 63 = .ok (.iconst 1, 1) := by decide +kernel
theorem zd_S_add_64 : decode zc_S_add 64 = .ok (.iadd, 1) := by decide +kernel
theorem zd_S_add_65 : decode zc_S_add 65 = .ok (.putfield 13, 3) := by decide +kernel
theorem zd_S_add_68 : decode zc_S_add 68 = .ok (.iconst 1, 1) := by decide +kernel
theorem zd_S_add_69 : decode zc_S_add 69 = .ok (.ireturn, 1) := by decide +kernel
theorem zd_S_remove_0 : decode zc_S_remove 0 = .ok (.aload_n 0, 1) := by decide +kernel
theorem zd_S_remove_1 : decode zc_S_remove 1 = .ok (.iload_n 1, 1) := by decide +kernel
theorem zd_S_remove_2 : decode zc_S_remove 2 = .ok (.invokevirtual 21, 3) := by decide +kernel
theorem zd_S_remove_5 : decode zc_S_remove 5 = .ok (.ifCond .eq 42, 3) := by decide +kernel
theorem zd_S_remove_8 : decode zc_S_remove 8 = .ok (.aload_n 0, 1) := by decide +kernel
theorem zd_S_remove_9 : decode zc_S_remove 9 = .ok (.iload_n 1, 1) := by decide +kernel
theorem zd_S_remove_10 : decode zc_S_remove 10 = .ok (.invokevirtual 17, 3) := by decide +kernel
theorem zd_S_remove_13 : decode zc_S_remove 13 = .ok (.istore_n 2, 1) := by decide +kernel
theorem zd_S_remove_14 : decode zc_S_remove 14 = .ok (.aload_n 0, 1) := by decide +kernel
theorem zd_S_remove_15 : decode zc_S_remove 15 = .ok (.getfield 7, 3) := by decide +kernel
theorem zd_S_remove_18 : decode zc_S_remove 18 = .ok (.iload_n 2, 1) := by decide +kernel
theorem zd_S_remove_19 : decode zc_S_remove 19 = .ok (.iconst 1, 1) := by decide +kernel
theorem zd_S_remove_20 : decode zc_S_remove 20 = .ok (.iadd, 1) := by decide +kernel
theorem zd_S_remove_21 : decode zc_S_remove 21 = .ok (.aload_n 0, 1) := by decide +kernel
theorem zd_S_remove_22 : decode zc_S_remove 22 = .ok (.getfield 7, 3) := by decide +kernel
theorem zd_S_remove_25 : decode zc_S_remove 25 = .ok (.iload_n 2, 1) := by decide +kernel
theorem zd_S_remove_26 : decode zc_S_remove 26 = .ok (.aload_n 0, 1) := by decide +kernel
theorem zd_S_remove_27 : decode zc_S_remove 27 = .ok (.getfield 13, 3) := by decide +kernel
theorem zd_S_remove_30 : decode zc_S_remove 30 = .ok (.iload_n 2, 1) := by decide +kernel
theorem zd_S_remove_31 : decode zc_S_remove 31 = .ok (.isub, 1) := by decide +kernel
theorem zd_S_remove_32 : decode zc_S_remove 32 = .ok (.iconst 1, 1) := by decide +kernel
theorem zd_S_remove_33 : decode zc_S_remove 33 = .ok (.isub, 1) := by decide +kernel
theorem zd_S_remove_34 : decode zc_S_remove 34 = .ok (.invokestatic 25, 3) := by decide +kernel
theorem zd_S_remove_37 : decode zc_S_remove 37 = .ok (.aload_n 0, 1) := by decide +kernel
theorem zd_S_remove_38 : decode zc_S_remove 38 = .ok (.dup, 1) := by decide +kernel
theorem zd_S_remove_39 : decode zc_S_remove 39 = .ok (.getfield 13, 3) := by decide +kernel
theorem zd_S_remove_42 : decode zc_S_remove 42 = .ok (.iconst 1, 1) := by decide +kernel
theorem zd_S_remove_43 : decode zc_S_remove 43 = .ok (.isub, 1) := by decide +kernel
theorem zd_S_remove_44 : decode zc_S_remove 44 = .ok (.putfield 13, 3) := by decide +kernel
theorem zd_S_remove_47 : decode zc_S_remove 47 = .ok (.return_, 1) := by decide +kernel
theorem zd_S_indexOf_0 : decode zc_S_indexOf 0 = .ok (.iconst 0, 1) := by decide +kernel
theorem zd_S_indexOf_1 : decode zc_S_indexOf 1 = .ok (.istore_n 2, 1) := by decide +kernel
theorem zd_S_indexOf_2 : decode zc_S_indexOf 2 = .ok (.aload_n 0, 1) := by decide +kernel
theorem zd_S_indexOf_3 : decode zc_S_indexOf 3 = .ok (.getfield 7, 3) := by decide +kernel
theorem zd_S_indexOf_6 : decode zc_S_indexOf 6 = .ok (.arraylength, 1) := by decide +kernel
theorem zd_S_indexOf_7 : decode zc_S_indexOf 7 = .ok (.invokestatic 31, 3) := by decide +kernel
theorem zd_S_indexOf_10 : decode zc_S_indexOf 10 = .ok (.istore_n 3, 1) := by decide +kernel
theorem zd_S_indexOf_11 : decode zc_S_indexOf 11 = .ok (.iload_n 3, 1) := by decide +kernel
theorem zd_S_indexOf_12 : decode zc_S_indexOf 12 = .ok (.ifCond .le 40, 3) := by decide +kernel
theorem zd_S_indexOf_15 : decode zc_S_indexOf 15 = .ok (.iload_n 2, 1) := by decide +kernel
theorem zd_S_indexOf_16 : decode zc_S_indexOf 16 = .ok (.iload_n 3, 1) := by decide +kernel
theorem zd_S_indexOf_17 : decode zc_S_indexOf 17 = .ok (.iadd, 1) := by decide +kernel
theorem zd_S_indexOf_18 : decode zc_S_indexOf 18 = .ok (.istore 4, 2) := by decide +kernel
theorem zd_S_indexOf_20 : decode zc_S_indexOf 20 = .ok (.iload 4, 2) := by decide +kernel
theorem zd_S_indexOf_22 : decode zc_S_indexOf 22 = .ok (.aload_n 0, 1) := by decide +kernel
theorem zd_S_indexOf_23 : decode zc_S_indexOf 23 = .ok (.getfield 13, 3) := by decide +kernel
theorem zd_S_indexOf_26 : decode zc_S_indexOf 26 = .ok (.if_icmp .gt 19, 3) := by decide +kernel
theorem zd_S_indexOf_29 : decode zc_S_indexOf 29 = .ok (.aload_n 0, 1) := by decide +kernel
theorem zd_S_indexOf_30 : decode zc_S_indexOf 30 = .ok (.getfield 7, 3) := by decide +kernel
theorem zd_S_indexOf_33 : decode zc_S_indexOf 33 = .ok (.iload 4, 2) := by decide +kernel
theorem zd_S_indexOf_35 : decode zc_S_indexOf 35 = .ok (.iconst 1, 1) := by decide +kernel
theorem zd_S_indexOf_36 : decode zc_S_indexOf 36 = .ok (.isub, 1) := by decide +kernel
theorem zd_S_indexOf_37 : decode zc_S_indexOf 37 = .ok (.iaload, 1) := by decide +kernel
theorem zd_S_indexOf_38 : decode zc_S_indexOf 38 = .ok (.iload_n 1, 1) := by decide +kernel
theorem zd_S_indexOf_39 : decode zc_S_indexOf 39 = .ok (.if_icmp .ge 6, 3) := by decide +kernel
theorem zd_S_indexOf_42 : decode zc_S_indexOf 42 = .ok (.iload 4, 2) := by decide +kernel
theorem zd_S_indexOf_44 : decode zc_S_indexOf 44 = .ok (.istore_n 2, 1) := by decide +kernel
theorem zd_S_indexOf_45 : decode zc_S_indexOf 45 = .ok (.iload_n 3, 1) := by decide +kernel
theorem zd_S_indexOf_46 : decode zc_S_indexOf 46 = .ok (.iconst 2, 1) := by decide +kernel
theorem zd_S_indexOf_47 : decode zc_S_indexOf 47 = .ok (.idiv, 1) := by decide +kernel
theorem zd_S_indexOf_48 : decode zc_S_indexOf 48 = .ok (.istore_n 3, 1) := by decide +kernel
theorem zd_S_indexOf_49 : decode zc_S_indexOf 49 = .ok (.goto (-38), 3) := by decide +kernel
theorem zd_S_indexOf_52 : decode zc_S_indexOf 52 = .ok (.iload_n 2, 1) := by decide +kernel
theorem zd_S_indexOf_53 : decode zc_S_indexOf 53 = .ok (.ireturn, 1) := by decide +kernel
section ZCP
variable {p : Program} {l : Launch} {e : Env} {R : Room} {s : State} {m : MethodId} {args : Array Value} {below : List Frame} {meth : Method} {c : Code} {H : Heap} {locs : List Loc} {cells slots : Nat} {Q : State → Prop}
variable {cc : ByteArray} {pc : Nat} {ls : Array Slot} {rest : List Value} {D : va_G} {cl : List vw_C} {A : Nat → Prop} {a : Nat} {tys : List (ClassId × FieldType)} {ws : va_W} {H0 : Heap} {cA : ClassId} {n : Nat}
theorem zaI_cpy (f : Nat → Int) (x y z : Nat) : va_cpy (zaI f) (zaI f) x y z = zaI (va_cpy f f x y z) := by
  funext j
  simp only [va_cpy, zaI]
  split <;> rfl
theorem zi_copyI {f : Nat → Int} {sp dp nn : Int} (hx : p.tables.exec = Jvm.exec) (hb : c.code = cc) (hml : c.maxLocals = ls.size) {own : String} {index : Nat} (hown : s.vm.findClass own = some m.cls) (hlink : (Cond.methodLink own index arraycopyName).before args s = true) (hnat : (Cond.native arraycopyName).before args s = true) (hstat : (Cond.static arraycopyName).before args s = true) (hini : (Cond.initialized "java/lang/System").before args s = true)
    (hK : va_K D cl tys s) (hP : va_P D cl ws H) (hD : va_D A ws) (hS : va_S A H0 H locs) (q0 t0 : Nat) (ha : ws[q0]? = some (a, .inl (cA, n, .inl (zaI f)))) (ht : tys[t0]? = some (cA, .int)) (h : 0 ≤ sp ∧ 0 ≤ dp ∧ 0 ≤ nn ∧ sp + nn ≤ (n : Int) ∧ dp + nn ≤ (n : Int) ∧ (n : Int) < 2147483648)
    (hframes : 1 ≤ R.frames) (hlocals : (rest.map fun v => v.category).sum + (nativeFrameWords "java/lang/System" "arraycopy" 5 + 11) ≤ R.locals) (hdg : decode cc pc = .ok (.invokestatic index, 3))
    (kk : ∀ (H1 : Heap) (locs1 : List Loc), va_P D cl (ws.set q0 (a, .inl (cA, n, .inl (zaI (va_cpy f f sp.toNat dp.toNat nn.toNat))))) H1 → va_D A (ws.set q0 (a, .inl (cA, n, .inl (zaI (va_cpy f f sp.toNat dp.toNat nn.toNat))))) → va_S A H0 H1 locs1 → W p l e R s m args below meth c H1 locs1 cells slots Q (F0 m (pc + 3) ls rest)) : W p l e R s m args below meth c H locs cells slots Q (F0 m pc ls (.int (iI nn) :: .int (iI dp) :: .ref a :: .int (iI sp) :: .ref a :: rest)) := by
  have e1 : (iI sp).toNatClampNeg = sp.toNat := iI_cl (by omega)
  have e2 : (iI dp).toNatClampNeg = dp.toNat := iI_cl (by omega)
  have e3 : (iI nn).toNatClampNeg = nn.toNat := iI_cl (by omega)
  have n0 : ∀ z : Int, 0 ≤ z → z < 2147483648 → ¬ iI z < 0 := fun z h1 h2 q => by rw [iI_0, iI_lt (by omega)] at q; omega
  refine va_copyi hx hb hml hown hlink hnat hstat hini hK hP hD hS q0 q0 t0 t0 ha ha ht ht rfl (n0 sp (by omega) (by omega)) (n0 dp (by omega) (by omega)) (n0 nn (by omega) (by omega)) (by rw [e1, e3]; omega) (by rw [e2, e3]; omega) (fun i hi => rfl) hframes hlocals hdg ?_
  rw [e1, e2, e3, zaI_cpy]
  exact kk
end ZCP
def dsN (h : Nat → Int) (cnt d N : Int) : Prop := 0 ≤ N ∧ N ≤ cnt ∧ (∀ j : Nat, (j : Int) < N → h j < d) ∧ ∀ j : Nat, N ≤ (j : Int) → (j : Int) < cnt → d ≤ h j
def dsR (h : Nat → Int) (cnt : Int) (hol : Int → Bool) : Prop := 0 ≤ cnt ∧ cnt ≤ 200 ∧ (∀ j : Nat, (j : Int) < cnt → 0 ≤ h j ∧ h j ≤ 120529) ∧ (∀ i j : Nat, i < j → (j : Int) < cnt → h i < h j) ∧ ∀ x, hol x = true ↔ ∃ j : Nat, (j : Int) < cnt ∧ h j = x
theorem dsN_ge {h : Nat → Int} {cnt d N i : Int} (hN : dsN h cnt d N) (h0 : 0 ≤ i) (h1 : d ≤ h i.toNat) : N ≤ i := by
  rcases (show i < N ∨ N ≤ i by omega) with q | q
  · have := hN.2.2.1 i.toNat (by omega); omega
  · exact q
theorem dsN_lt {h : Nat → Int} {cnt d N i : Int} (hN : dsN h cnt d N) (h0 : 0 ≤ i ∧ i < cnt) (h1 : h i.toNat < d) : i + 1 ≤ N := by
  rcases (show i < N ∨ N ≤ i by omega) with q | q
  · omega
  · have := hN.2.2.2 i.toNat (by omega) (by omega); omega
theorem dsN_ex {h : Nat → Int} {cnt : Int} {hol : Int → Bool} (hR : dsR h cnt hol) (d : Int) : ∃ N, dsN h cnt d N := by
  have key : ∀ k : Nat, (k : Int) ≤ cnt → ∃ N : Int, 0 ≤ N ∧ N ≤ k ∧ (∀ j : Nat, (j : Int) < N → h j < d) ∧ ∀ j : Nat, N ≤ (j : Int) → (j : Int) < k → d ≤ h j := by
    intro k
    induction k with
    | zero => intro _; exact ⟨0, by omega, by omega, fun j hj => by omega, fun j h1 h2 => by omega⟩
    | succ k ih =>
      intro hk
      obtain ⟨N, h1, h2, h3, h4⟩ := ih (by omega)
      by_cases q : h k < d
      · refine ⟨(k : Int) + 1, by omega, by omega, fun j hj => ?_, fun j h5 h6 => by omega⟩
        by_cases q2 : j = k
        · rw [q2]; exact q
        · have := hR.2.2.2.1 j k (by omega) (by omega); omega
      · refine ⟨N, h1, by omega, h3, fun j h5 h6 => ?_⟩
        by_cases q2 : j = k
        · rw [q2]; omega
        · exact h4 j h5 (by omega)
  obtain ⟨N, h1, h2, h3, h4⟩ := key cnt.toNat (by have := hR.1; omega)
  have h0 := hR.1
  exact ⟨N, h1, by omega, h3, fun j h5 h6 => h4 j h5 (by omega)⟩
theorem dsH_t {h : Nat → Int} {cnt d N : Int} {hol : Int → Bool} (hR : dsR h cnt hol) (hN : dsN h cnt d N) (h1 : N < cnt) (h2 : h N.toNat = d) : hol d = true := (hR.2.2.2.2 d).mpr ⟨N.toNat, by have := hN.1; omega, h2⟩
theorem dsH_f {h : Nat → Int} {cnt d N : Int} {hol : Int → Bool} (hR : dsR h cnt hol) (hN : dsN h cnt d N) (h1 : N < cnt → ¬ h N.toNat = d) : hol d = false := by
  cases hh : hol d with
  | false => rfl
  | true =>
    obtain ⟨j, h3, h4⟩ := (hR.2.2.2.2 d).mp hh
    have h0 := hN.1
    rcases (show (j : Int) < N ∨ N ≤ (j : Int) by omega) with q | q
    · have := hN.2.2.1 j q; omega
    · by_cases q2 : (j : Int) = N
      · have : N.toNat = j := by omega
        exact absurd (by rw [this]; exact h4) (h1 (by omega))
      · have g1 := hN.2.2.2 N.toNat (by omega) (by omega)
        have g2 := hR.2.2.2.1 N.toNat j (by omega) h3
        omega
def dsAdd (h : Nat → Int) (cnt d N : Int) : Nat → Int := zu (va_cpy h h N.toNat (N + 1).toNat (cnt - N).toNat) N.toNat d
def dsRem (h : Nat → Int) (cnt N : Int) : Nat → Int := va_cpy h h (N + 1).toNat N.toNat (cnt - N - 1).toNat
theorem dsAdd_at {h : Nat → Int} {cnt d N : Int} (h0 : 0 ≤ N ∧ N ≤ cnt) (j : Nat) (hj : (j : Int) ≤ cnt) : dsAdd h cnt d N j = if (j : Int) < N then h j else if (j : Int) = N then d else h (j - 1) := by
  unfold dsAdd
  by_cases q : (j : Int) = N
  · rw [show N.toNat = j by omega, zu_s, if_neg (by omega), if_pos q]
  · rw [zu_n _ _ (by omega)]
    unfold va_cpy
    by_cases q2 : (j : Int) < N
    · rw [if_neg (by omega), if_pos q2]
    · rw [if_pos (by omega), if_neg q2, if_neg q, show N.toNat + (j - (N + 1).toNat) = j - 1 by omega]
theorem dsAdd_R {h : Nat → Int} {cnt d N : Int} {hol : Int → Bool} (hR : dsR h cnt hol) (hN : dsN h cnt d N) (hf : hol d = false) (hc : cnt < 200) (hd : 0 ≤ d ∧ d ≤ 120529) : dsR (dsAdd h cnt d N) (cnt + 1) (fun x => decide (x = d) || hol x) := by
  obtain ⟨r1, r2, r3, r4, r5⟩ := hR
  obtain ⟨n1, n2, n3, n4⟩ := hN
  have hne : ∀ j : Nat, (j : Int) < cnt → ¬ h j = d := fun j hj q => by
    have := (r5 d).mpr ⟨j, hj, q⟩; rw [hf] at this; cases this
  have e := fun (j : Nat) (hj : (j : Int) ≤ cnt) => dsAdd_at (h := h) (d := d) ⟨n1, n2⟩ j hj
  refine ⟨by omega, by omega, fun j hj => ?_, fun i j hij hj => ?_, fun x => ?_⟩
  · rw [e j (by omega)]
    split
    · exact r3 j (by omega)
    · split
      · exact hd
      · exact r3 (j - 1) (by omega)
  · rw [e i (by omega), e j (by omega)]
    by_cases a1 : (j : Int) < N
    · rw [if_pos (by omega), if_pos a1]; exact r4 i j hij (by omega)
    · by_cases a2 : (j : Int) = N
      · rw [if_pos (by omega), if_neg a1, if_pos a2]; exact n3 i (by omega)
      · rw [if_neg a1, if_neg a2]
        have g1 := n4 (j - 1) (by omega) (by omega)
        have g2 := hne (j - 1) (by omega)
        by_cases b1 : (i : Int) < N
        · rw [if_pos b1]; exact r4 i (j - 1) (by omega) (by omega)
        · by_cases b2 : (i : Int) = N
          · rw [if_neg b1, if_pos b2]; omega
          · rw [if_neg b1, if_neg b2]; exact r4 (i - 1) (j - 1) (by omega) (by omega)
  · simp only [Bool.or_eq_true, decide_eq_true_eq, r5]
    constructor
    · rintro (q | ⟨j, hj, q⟩)
      · exact ⟨N.toNat, by omega, by rw [e _ (by omega), if_neg (by omega), if_pos (by omega), q]⟩
      · by_cases b1 : (j : Int) < N
        · exact ⟨j, by omega, by rw [e j (by omega), if_pos b1, q]⟩
        · exact ⟨j + 1, by omega, by rw [e (j + 1) (by omega), if_neg (by omega), if_neg (by omega)]; exact q⟩
    · rintro ⟨j, hj, q⟩
      rw [e j (by omega)] at q
      by_cases b1 : (j : Int) < N
      · rw [if_pos b1] at q; exact Or.inr ⟨j, by omega, q⟩
      · by_cases b2 : (j : Int) = N
        · rw [if_neg b1, if_pos b2] at q; exact Or.inl q.symm
        · rw [if_neg b1, if_neg b2] at q; exact Or.inr ⟨j - 1, by omega, q⟩
theorem dsRem_at {h : Nat → Int} {cnt N : Int} (h0 : 0 ≤ N ∧ N < cnt) (j : Nat) (hj : (j : Int) < cnt - 1) : dsRem h cnt N j = if (j : Int) < N then h j else h (j + 1) := by
  unfold dsRem va_cpy
  by_cases q : (j : Int) < N
  · rw [if_neg (by omega), if_pos q]
  · rw [if_pos (by omega), if_neg q, show (N + 1).toNat + (j - N.toNat) = j + 1 by omega]
theorem dsRem_R {h : Nat → Int} {cnt d N : Int} {hol : Int → Bool} (hR : dsR h cnt hol) (hN : dsN h cnt d N) (hf : hol d = true) : dsR (dsRem h cnt N) (cnt - 1) (fun x => decide (¬ x = d) && hol x) := by
  have hlt : N < cnt ∧ h N.toNat = d := by
    by_cases q : N < cnt ∧ h N.toNat = d
    · exact q
    · rw [dsH_f hR hN (fun h1 h2 => q ⟨h1, h2⟩)] at hf; cases hf
  obtain ⟨r1, r2, r3, r4, r5⟩ := hR
  obtain ⟨n1, n2, n3, n4⟩ := hN
  have e := fun (j : Nat) (hj : (j : Int) < cnt - 1) => dsRem_at (h := h) ⟨n1, hlt.1⟩ j hj
  refine ⟨by omega, by omega, fun j hj => ?_, fun i j hij hj => ?_, fun x => ?_⟩
  · rw [e j (by omega)]
    split
    · exact r3 j (by omega)
    · exact r3 (j + 1) (by omega)
  · rw [e i (by omega), e j (by omega)]
    by_cases a1 : (j : Int) < N
    · rw [if_pos (by omega), if_pos a1]; exact r4 i j hij (by omega)
    · rw [if_neg a1]
      by_cases b1 : (i : Int) < N
      · rw [if_pos b1]; exact r4 i (j + 1) (by omega) (by omega)
      · rw [if_neg b1]; exact r4 (i + 1) (j + 1) (by omega) (by omega)
  · simp only [Bool.and_eq_true, decide_eq_true_eq, r5]
    constructor
    · rintro ⟨q, j, hj, q2⟩
      by_cases b1 : (j : Int) < N
      · exact ⟨j, by omega, by rw [e j (by omega), if_pos b1, q2]⟩
      · have b2 : ¬ (j : Int) = N := fun b2 => q (by rw [← q2, show j = N.toNat by omega]; exact hlt.2)
        exact ⟨j - 1, by omega, by rw [e (j - 1) (by omega), if_neg (by omega), show j - 1 + 1 = j by omega, q2]⟩
    · rintro ⟨j, hj, q⟩
      rw [e j (by omega)] at q
      by_cases b1 : (j : Int) < N
      · rw [if_pos b1] at q
        exact ⟨fun q2 => by have := n3 j b1; omega, j, by omega, q⟩
      · rw [if_neg b1] at q
        refine ⟨fun q2 => ?_, j + 1, by omega, q⟩
        have := r4 N.toNat (j + 1) (by omega) (by omega)
        omega
set_option maxHeartbeats 4000000 in
set_option maxRecDepth 100000 in
theorem c_nlz (l : Launch) (g : zGl)  : zSi l zy_JI_numberOfLeadingZeros zc_JI_numberOfLeadingZeros 2 (some .int) ({ frames := 0, cells := 0, slots := 0, locals := 0 }) g zN [.int (iI (200))] [] (some (.int (iI (24)))) := by
  refine zs_open (by decide +kernel) (Nat.le_of_ble_eq_true rfl) ?_
  intro p e s m below meth c ls hx hb hml hr hlk hown hw hK hT hP hl
  have hown : s.vm.findClass "java/lang/Integer" = some m.cls := hown
  have hl : lv_has ls 2 [(0, .int (iI (200)))] := hl
  refine lv_iload_n hx hb zd_JI_numberOfLeadingZeros_0 rfl (lv_at hl 0 rfl) ?_
  refine zi_if_gt (tgt := 15) hx hb zd_JI_numberOfLeadingZeros_1 (by decide) (by omega) (fun c1 => ?_) (fun c1 => ?_)
  · refine zi_bipush hx hb zd_JI_numberOfLeadingZeros_15 (by decide) ?_
    refine lv_istore_n (lv' := [(1, .int (iI (31))), (0, .int (iI (200)))]) hx hb zd_JI_numberOfLeadingZeros_17 rfl hl (by decide) rfl (fun ls hl => ?_)
    refine lv_iload_n hx hb zd_JI_numberOfLeadingZeros_18 rfl (lv_at hl 1 rfl) ?_
    refine lv_ldcw hx hb hown (hw _ zw_2_236) zd_JI_numberOfLeadingZeros_19 ?_
    refine zi_asx _ 65536 (by decide) ?_
    refine zi_icmp_lt (tgt := 33) hx hb zd_JI_numberOfLeadingZeros_22 (by decide) (by omega) (fun c22 => ?_) (fun c22 => ?_)
    · refine lv_iload_n hx hb zd_JI_numberOfLeadingZeros_33 rfl (lv_at hl 1 rfl) ?_
      refine zi_sipush hx hb zd_JI_numberOfLeadingZeros_34 (by decide) ?_
      refine zi_icmp_lt (tgt := 48) hx hb zd_JI_numberOfLeadingZeros_37 (by decide) (by omega) (fun c37 => ?_) (fun c37 => ?_)
      · refine lv_iload_n hx hb zd_JI_numberOfLeadingZeros_48 rfl (lv_at hl 1 rfl) ?_
        refine zi_bipush hx hb zd_JI_numberOfLeadingZeros_49 (by decide) ?_
        refine zi_icmp_lt (tgt := 61) hx hb zd_JI_numberOfLeadingZeros_51 (by decide) (by omega) (fun c51 => ?_) (fun c51 => ?_)
        · exact absurd c51 (by omega)
        · refine lv_iinc (v := iI (31 + (-4))) (lv' := [(1, .int (iI (31 + (-4)))), (0, .int (iI (200)))]) hx hb zd_JI_numberOfLeadingZeros_54 hl (k := 0) rfl (iI_add _ _) (by decide) rfl (fun ls hl => ?_)
          refine lv_iload_n hx hb zd_JI_numberOfLeadingZeros_57 rfl (lv_at hl 1 rfl) ?_
          refine zi_iconst hx hb zd_JI_numberOfLeadingZeros_58 ?_
          refine lv_iushr (v := iI 12) hx hb zd_JI_numberOfLeadingZeros_59 (by decide) ?_
          refine lv_istore_n (lv' := [(0, .int (iI (12))), (1, .int (iI (31 + (-4))))]) hx hb zd_JI_numberOfLeadingZeros_60 rfl hl (by decide) rfl (fun ls hl => ?_)
          refine lv_iload_n hx hb zd_JI_numberOfLeadingZeros_61 rfl (lv_at hl 0 rfl) ?_
          refine zi_iconst hx hb zd_JI_numberOfLeadingZeros_62 ?_
          refine zi_icmp_lt (tgt := 73) hx hb zd_JI_numberOfLeadingZeros_63 (by decide) (by omega) (fun c63 => ?_) (fun c63 => ?_)
          · exact absurd c63 (by omega)
          · refine lv_iinc (v := iI (31 + (-4) + (-2))) (lv' := [(1, .int (iI (31 + (-4) + (-2)))), (0, .int (iI (12)))]) hx hb zd_JI_numberOfLeadingZeros_66 hl (k := 1) rfl (iI_add _ _) (by decide) rfl (fun ls hl => ?_)
            refine lv_iload_n hx hb zd_JI_numberOfLeadingZeros_69 rfl (lv_at hl 1 rfl) ?_
            refine zi_iconst hx hb zd_JI_numberOfLeadingZeros_70 ?_
            refine lv_iushr (v := iI 3) hx hb zd_JI_numberOfLeadingZeros_71 (by decide) ?_
            refine lv_istore_n (lv' := [(0, .int (iI (3))), (1, .int (iI (31 + (-4) + (-2))))]) hx hb zd_JI_numberOfLeadingZeros_72 rfl hl (by decide) rfl (fun ls hl => ?_)
            refine lv_iload_n hx hb zd_JI_numberOfLeadingZeros_73 rfl (lv_at hl 1 rfl) ?_
            refine lv_iload_n hx hb zd_JI_numberOfLeadingZeros_74 rfl (lv_at hl 0 rfl) ?_
            refine zi_iconst hx hb zd_JI_numberOfLeadingZeros_75 ?_
            refine lv_iushr (v := iI 1) hx hb zd_JI_numberOfLeadingZeros_76 (by decide) ?_
            refine zi_isub hx hb zd_JI_numberOfLeadingZeros_77 ?_
            refine zi_as (24) (by decide) ?_
            exact zs_iret hx hb hr hlk zd_JI_numberOfLeadingZeros_78
      · exact absurd c37 (by omega)
    · exact absurd c22 (by omega)
  · exact absurd c1 (by omega)
set_option maxHeartbeats 4000000 in
set_option maxRecDepth 100000 in
theorem c_hob (l : Launch) (g : zGl)  : zSi l zy_JI_highestOneBit zc_JI_highestOneBit 1 (some .int) ({ frames := 1, cells := 0, slots := 0, locals := 21 }) g zN [.int (iI (200))] [] (some (.int (iI (128)))) := by
  refine zs_open (by decide +kernel) (Nat.le_of_ble_eq_true rfl) ?_
  intro p e s m below meth c ls hx hb hml hr hlk hown hw hK hT hP hl
  have hown : s.vm.findClass "java/lang/Integer" = some m.cls := hown
  have hl : lv_has ls 1 [(0, .int (iI (200)))] := hl
  refine lv_iload_n hx hb zd_JI_highestOneBit_0 rfl (lv_at hl 0 rfl) ?_
  refine lv_ldc hx hb hown (hw _ zw_2_232) zd_JI_highestOneBit_1 ?_
  refine zi_asx _ (-2147483648) (by decide) ?_
  refine lv_iload_n hx hb zd_JI_highestOneBit_3 rfl (lv_at hl 0 rfl) ?_
  refine zk_S (As := [.int (iI (200))]) (own := "java/lang/Integer") (nL := 1) (rest := [.int (iI ((-2147483648))), .int (iI (200))]) hx hb hml hown hw (c_nlz l g) zw_2_233 zw_2_234 zw_1_20 zw_2_235 (np := 1) (by decide +kernel) rfl (by decide) zN_mv hK trivial (hP.sub (ws' := []) [] rfl) hl.1 rfl (Nat.le_of_ble_eq_true rfl) (by decide) zd_JI_highestOneBit_4 ?_
  refine lv_iushr (v := iI 128) hx hb zd_JI_highestOneBit_7 (by decide) ?_
  refine lv_iand hx hb zd_JI_highestOneBit_8 ?_
  refine zi_asx _ 128 (by decide) ?_
  refine zi_as (128) (rfl) ?_
  exact zs_iret hx hb hr hlk zd_JI_highestOneBit_9
set_option maxHeartbeats 4000000 in
set_option maxRecDepth 100000 in
theorem c_S_size (l : Launch) (g : zGl) (q a : Nat) (h : Nat → Int) (cnt : Int) : zSi l zy_S_size zc_S_size 1 (some .int) ({ frames := 0, cells := 0, slots := 0, locals := 0 }) g zN [.ref (q)] [(q, .inr (1, [.ref (a), .int (iI (cnt))])), (a, .inl (g.2 0, 200, .inl (zaI h)))] (some (.int (iI (cnt)))) := by
  refine zs_open (by decide +kernel) (Nat.le_of_ble_eq_true rfl) ?_
  intro p e s m below meth c ls hx hb hml hr hlk hown hw hK hT hP hl
  have hown : s.vm.findClass "CronFinder$DaySet" = some m.cls := hown
  have hl : lv_has ls 1 [(0, .ref (q))] := hl
  refine lv_aload_n hx hb zd_S_size_0 rfl (lv_at hl 0 rfl) ?_
  refine va_get (D := g.1) (ci := 1) (v := .int (iI (cnt))) (C := zR_S) (T := zT_S) (N := 2) hx hb hw zin_S hown hK hP 0 rfl rfl 1 (by decide) (hw _ zw_1_99) (fun _ h9 => h9) rfl zd_S_size_1 ?_
  refine zi_as (cnt) (rfl) ?_
  exact zs_iret hx hb hr hlk zd_S_size_4
set_option maxHeartbeats 4000000 in
set_option maxRecDepth 100000 in
theorem c_S_indexOf (l : Launch) (g : zGl) (q a : Nat) (h : Nat → Int) (cnt : Int) (hol : Int → Bool) (hR : dsR h cnt hol) (d N : Int) (hd : -2147483648 ≤ d ∧ d < 2147483648) (hN : dsN h cnt d N) : zSi l zy_S_indexOf zc_S_indexOf 5 (some .int) ({ frames := 2, cells := 0, slots := 0, locals := 41 }) g zN [.ref (q), .int (iI (d))] [(q, .inr (1, [.ref (a), .int (iI (cnt))])), (a, .inl (g.2 0, 200, .inl (zaI h)))] (some (.int (iI (N)))) := by
  refine zs_open (by decide +kernel) (Nat.le_of_ble_eq_true rfl) ?_
  intro p e s m below meth c ls hx hb hml hr hlk hown hw hK hT hP hl
  have hown : s.vm.findClass "CronFinder$DaySet" = some m.cls := hown
  have hl : lv_has ls 5 [(0, .ref (q)), (1, .int (iI (d)))] := hl
  refine zi_iconst hx hb zd_S_indexOf_0 ?_
  refine lv_istore_n (lv' := [(2, .int (iI (0))), (0, .ref (q)), (1, .int (iI (d)))]) hx hb zd_S_indexOf_1 rfl hl (by decide) rfl (fun ls hl => ?_)
  refine lv_aload_n hx hb zd_S_indexOf_2 rfl (lv_at hl 1 rfl) ?_
  refine va_get (D := g.1) (ci := 1) (v := .ref (a)) (C := zR_S) (T := zT_S) (N := 2) hx hb hw zin_S hown hK hP 0 rfl rfl 0 (by decide) (hw _ zw_1_98) (fun _ h9 => h9) rfl zd_S_indexOf_3 ?_
  refine va_alen hx hb hK hP 1 0 rfl rfl (v := iI 200) (iI_nat 200) zd_S_indexOf_6 ?_
  refine zk_S (As := [.int (iI (200))]) (own := "CronFinder$DaySet") (nL := 5) (rest := []) hx hb hml hown hw (c_hob l g) zw_2_229 zw_2_230 zw_1_20 zw_2_231 (np := 1) (by decide +kernel) rfl (by decide) zN_mv hK trivial (hP.sub (ws' := []) [] rfl) hl.1 rfl (Nat.le_of_ble_eq_true rfl) (by decide) zd_S_indexOf_7 ?_
  refine lv_istore_n (lv' := [(3, .int (iI (128))), (2, .int (iI (0))), (0, .ref (q)), (1, .int (iI (d)))]) hx hb zd_S_indexOf_10 rfl hl (by decide) rfl (fun ls hl => ?_)
  have hv : ∀ j : Nat, (j : Int) < cnt → 0 ≤ h j ∧ h j ≤ 120529 := hR.2.2.1
  have hc1 := hR.1
  have hc2 := hR.2.1
  have hn1 := hN.1
  have hn2 := hN.2.1
  have loop : ∀ (n : Nat) (stp b : Int) (ls : Array Slot), (0 ≤ b ∧ b ≤ N) → (stp = 0 ∨ stp = 1 ∨ stp = 2 ∨ stp = 4 ∨ stp = 8 ∨ stp = 16 ∨ stp = 32 ∨ stp = 64 ∨ stp = 128) → ((stp = 0 ∧ N = b) ∨ (0 < stp ∧ N < b + 2 * stp)) → (stp.toNat < n) → lv_has ls 5 [(3, .int (iI (stp))), (2, .int (iI (b))), (0, .ref (q)), (1, .int (iI (d)))] → W p l e ({ frames := 2, cells := 0, slots := 0, locals := 41 }) s m [.ref (q), .int (iI (d))].toArray below meth c s.heap [] 0 0 (MQ below (zSil (some (.int (iI (N))))) [.ref (q), .int (iI (d))].toArray s 0 0 (fun _ => False)) (F0 m 11 ls []) := by
    intro n
    induction n with
    | zero =>
      intro stp b ls h1 h3 h4 h2 hl
      exact absurd h2 (by omega)
    | succ n ih =>
      intro stp b ls h1 h3 h4 h2 hl
      refine lv_iload_n hx hb zd_S_indexOf_11 rfl (lv_at hl 0 rfl) ?_
      refine zi_if_le (tgt := 52) hx hb zd_S_indexOf_12 (by decide) (by omega) (fun c12 => ?_) (fun c12 => ?_)
      · refine lv_iload_n hx hb zd_S_indexOf_52 rfl (lv_at hl 1 rfl) ?_
        refine zi_as (N) (by omega) ?_
        exact zs_iret hx hb hr hlk zd_S_indexOf_53
      · refine lv_iload_n hx hb zd_S_indexOf_15 rfl (lv_at hl 1 rfl) ?_
        refine lv_iload_n hx hb zd_S_indexOf_16 rfl (lv_at hl 0 rfl) ?_
        refine zi_iadd hx hb zd_S_indexOf_17 ?_
        refine lv_istore (lv' := [(4, .int (iI (b + stp))), (3, .int (iI (stp))), (2, .int (iI (b))), (0, .ref (q)), (1, .int (iI (d)))]) hx hb zd_S_indexOf_18 hl (by decide) rfl (fun ls hl => ?_)
        refine lv_iload hx hb zd_S_indexOf_20 (lv_at hl 0 rfl) ?_
        refine lv_aload_n hx hb zd_S_indexOf_22 rfl (lv_at hl 3 rfl) ?_
        refine va_get (D := g.1) (ci := 1) (v := .int (iI (cnt))) (C := zR_S) (T := zT_S) (N := 2) hx hb hw zin_S hown hK hP 0 rfl rfl 1 (by decide) (hw _ zw_1_99) (fun _ h9 => h9) rfl zd_S_indexOf_23 ?_
        refine zi_icmp_gt (tgt := 45) hx hb zd_S_indexOf_26 (by decide) (by omega) (fun c26 => ?_) (fun c26 => ?_)
        · have hw1 : N < b + stp := by first | omega | (have := dsN_ge hN (i := b + stp - 1) (by omega) c39; omega)
          refine lv_iload_n hx hb zd_S_indexOf_45 rfl (lv_at hl 1 rfl) ?_
          refine zi_iconst hx hb zd_S_indexOf_46 ?_
          refine zi_idiv hx hb zd_S_indexOf_47 (by omega) ?_
          refine lv_istore_n (lv' := [(3, .int (iI (stp / 2))), (4, .int (iI (b + stp))), (2, .int (iI (b))), (0, .ref (q)), (1, .int (iI (d)))]) hx hb zd_S_indexOf_48 rfl hl (by decide) rfl (fun ls hl => ?_)
          refine lv_goto (tgt := 11) hx hb zd_S_indexOf_49 (by decide) ?_
          exact ih (stp / 2) (b) ls (by omega) (by omega) (by omega) (by omega) (lv_sub hl [0, 2, 3, 4] rfl)
        · refine lv_aload_n hx hb zd_S_indexOf_29 rfl (lv_at hl 3 rfl) ?_
          refine va_get (D := g.1) (ci := 1) (v := .ref (a)) (C := zR_S) (T := zT_S) (N := 2) hx hb hw zin_S hown hK hP 0 rfl rfl 0 (by decide) (hw _ zw_1_98) (fun _ h9 => h9) rfl zd_S_indexOf_30 ?_
          refine lv_iload hx hb zd_S_indexOf_33 (lv_at hl 0 rfl) ?_
          refine zi_iconst hx hb zd_S_indexOf_35 ?_
          refine zi_isub hx hb zd_S_indexOf_36 ?_
          refine zi_iald hx hb hK hP 1 0 rfl rfl (by omega) zd_S_indexOf_37 ?_
          have hv1 := hv (b + stp - 1).toNat (by omega)
          refine lv_iload_n hx hb zd_S_indexOf_38 rfl (lv_at hl 4 rfl) ?_
          refine zi_icmp_ge (tgt := 45) hx hb zd_S_indexOf_39 (by decide) (by omega) (fun c39 => ?_) (fun c39 => ?_)
          · have hw1 : N < b + stp := by first | omega | (have := dsN_ge hN (i := b + stp - 1) (by omega) c39; omega)
            refine lv_iload_n hx hb zd_S_indexOf_45 rfl (lv_at hl 1 rfl) ?_
            refine zi_iconst hx hb zd_S_indexOf_46 ?_
            refine zi_idiv hx hb zd_S_indexOf_47 (by omega) ?_
            refine lv_istore_n (lv' := [(3, .int (iI (stp / 2))), (4, .int (iI (b + stp))), (2, .int (iI (b))), (0, .ref (q)), (1, .int (iI (d)))]) hx hb zd_S_indexOf_48 rfl hl (by decide) rfl (fun ls hl => ?_)
            refine lv_goto (tgt := 11) hx hb zd_S_indexOf_49 (by decide) ?_
            exact ih (stp / 2) (b) ls (by omega) (by omega) (by omega) (by omega) (lv_sub hl [0, 2, 3, 4] rfl)
          · refine lv_iload hx hb zd_S_indexOf_42 (lv_at hl 0 rfl) ?_
            refine lv_istore_n (lv' := [(2, .int (iI (b + stp))), (4, .int (iI (b + stp))), (3, .int (iI (stp))), (0, .ref (q)), (1, .int (iI (d)))]) hx hb zd_S_indexOf_44 rfl hl (by decide) rfl (fun ls hl => ?_)
            have hw1 := dsN_lt hN (i := b + stp - 1) (by omega) c39
            refine lv_iload_n hx hb zd_S_indexOf_45 rfl (lv_at hl 2 rfl) ?_
            refine zi_iconst hx hb zd_S_indexOf_46 ?_
            refine zi_idiv hx hb zd_S_indexOf_47 (by omega) ?_
            refine lv_istore_n (lv' := [(3, .int (iI (stp / 2))), (2, .int (iI (b + stp))), (4, .int (iI (b + stp))), (0, .ref (q)), (1, .int (iI (d)))]) hx hb zd_S_indexOf_48 rfl hl (by decide) rfl (fun ls hl => ?_)
            refine lv_goto (tgt := 11) hx hb zd_S_indexOf_49 (by decide) ?_
            exact ih (stp / 2) (b + stp) ls (by omega) (by omega) (by omega) (by omega) (lv_sub hl [0, 1, 3, 4] rfl)
  exact loop 129 128 0 ls (by omega) (by omega) (by omega) (by omega) (lv_sub hl [0, 1, 2, 3] rfl)
set_option maxHeartbeats 4000000 in
set_option maxRecDepth 100000 in
theorem c_S_has (l : Launch) (g : zGl) (q a : Nat) (h : Nat → Int) (cnt : Int) (hol : Int → Bool) (hR : dsR h cnt hol) (d : Int) (hd : -2147483648 ≤ d ∧ d < 2147483648) : zSi l zy_S_has zc_S_has 3 (some .boolean) ({ frames := 3, cells := 0, slots := 0, locals := 65 }) g zN [.ref (q), .int (iI (d))] [(q, .inr (1, [.ref (a), .int (iI (cnt))])), (a, .inl (g.2 0, 200, .inl (zaI h)))] (some (.int (iI (bI (hol d))))) := by
  refine zs_open (by decide +kernel) (Nat.le_of_ble_eq_true rfl) ?_
  intro p e s m below meth c ls hx hb hml hr hlk hown hw hK hT hP hl
  have hown : s.vm.findClass "CronFinder$DaySet" = some m.cls := hown
  have hl : lv_has ls 3 [(0, .ref (q)), (1, .int (iI (d)))] := hl
  obtain ⟨N, hN⟩ := dsN_ex hR d
  have hc1 := hR.1
  have hc2 := hR.2.1
  have hn1 := hN.1
  have hn2 := hN.2.1
  refine lv_aload_n hx hb zd_S_has_0 rfl (lv_at hl 0 rfl) ?_
  refine lv_iload_n hx hb zd_S_has_1 rfl (lv_at hl 1 rfl) ?_
  refine zk_V (As := [.int (iI (d))]) (b := q) (own := "CronFinder$DaySet") (nL := 3) (rest := []) hx hb hml hown hw (c_S_indexOf l g q a h cnt hol hR (d) N hd hN) zw_2_225 zw_2_227 zw_0_14 zw_1_6 zw_2_228 (np := 1) (by decide +kernel) rfl (by decide) zN_mv hK trivial (hP.sub (ws' := [(q, .inr (1, [.ref (a), .int (iI (cnt))])), (a, .inl (g.2 0, 200, .inl (zaI h)))]) [0, 1] rfl) (va_recv hK hP (ci := 1) (q0 := 0) rfl rfl) hl.1 rfl (Nat.le_of_ble_eq_true rfl) (by decide) zd_S_has_2 ?_
  refine lv_istore_n (lv' := [(2, .int (iI (N))), (0, .ref (q)), (1, .int (iI (d)))]) hx hb zd_S_has_5 rfl hl (by decide) rfl (fun ls hl => ?_)
  refine lv_iload_n hx hb zd_S_has_6 rfl (lv_at hl 0 rfl) ?_
  refine lv_aload_n hx hb zd_S_has_7 rfl (lv_at hl 1 rfl) ?_
  refine va_get (D := g.1) (ci := 1) (v := .int (iI (cnt))) (C := zR_S) (T := zT_S) (N := 2) hx hb hw zin_S hown hK hP 0 rfl rfl 1 (by decide) (hw _ zw_1_99) (fun _ h9 => h9) rfl zd_S_has_8 ?_
  refine zi_icmp_ge (tgt := 28) hx hb zd_S_has_11 (by decide) (by omega) (fun c11 => ?_) (fun c11 => ?_)
  · refine zi_iconst hx hb zd_S_has_28 ?_
    refine zb_as (x := hol d) (by first | exact bI_t (dsH_t hR hN c11 c21) | exact bI_f (dsH_f hR hN (fun q1 q2 => c21 q2)) | exact bI_f (dsH_f hR hN (fun q1 => absurd q1 (by omega)))) ?_
    exact zs_zret hx hb hr hlk zd_S_has_29
  · refine lv_aload_n hx hb zd_S_has_14 rfl (lv_at hl 1 rfl) ?_
    refine va_get (D := g.1) (ci := 1) (v := .ref (a)) (C := zR_S) (T := zT_S) (N := 2) hx hb hw zin_S hown hK hP 0 rfl rfl 0 (by decide) (hw _ zw_1_98) (fun _ h9 => h9) rfl zd_S_has_15 ?_
    refine lv_iload_n hx hb zd_S_has_18 rfl (lv_at hl 0 rfl) ?_
    refine zi_iald hx hb hK hP 1 0 rfl rfl (by omega) zd_S_has_19 ?_
    have hv1 := hR.2.2.1 N.toNat (by omega)
    refine lv_iload_n hx hb zd_S_has_20 rfl (lv_at hl 2 rfl) ?_
    refine zi_icmp_ne (tgt := 28) hx hb zd_S_has_21 (by decide) (by omega) (fun c21 => ?_) (fun c21 => ?_)
    · refine zi_iconst hx hb zd_S_has_28 ?_
      refine zb_as (x := hol d) (by first | exact bI_t (dsH_t hR hN c11 c21) | exact bI_f (dsH_f hR hN (fun q1 q2 => c21 q2)) | exact bI_f (dsH_f hR hN (fun q1 => absurd q1 (by omega)))) ?_
      exact zs_zret hx hb hr hlk zd_S_has_29
    · refine zi_iconst hx hb zd_S_has_24 ?_
      refine lv_goto (tgt := 29) hx hb zd_S_has_25 (by decide) ?_
      refine zb_as (x := hol d) (by first | exact bI_t (dsH_t hR hN c11 c21) | exact bI_f (dsH_f hR hN (fun q1 q2 => c21 q2)) | exact bI_f (dsH_f hR hN (fun q1 => absurd q1 (by omega)))) ?_
      exact zs_zret hx hb hr hlk zd_S_has_29
set_option maxHeartbeats 4000000 in
set_option maxRecDepth 100000 in
theorem c_S_add_in (l : Launch) (g : zGl) (q a : Nat) (h : Nat → Int) (cnt : Int) (hol : Int → Bool) (hR : dsR h cnt hol) (d N : Int) (hd0 : 0 ≤ d ∧ d ≤ 120529) (hN : dsN h cnt d N) (hh : hol d = true) : zSi l zy_S_add zc_S_add 3 (some .boolean) ({ frames := 4, cells := 0, slots := 0, locals := 87 }) g zN [.ref (q), .int (iI (d))] [(q, .inr (1, [.ref (a), .int (iI (cnt))])), (a, .inl (g.2 0, 200, .inl (zaI h)))] (some (.int (iI (bI (true))))) := by
  refine zs_open (by decide +kernel) (Nat.le_of_ble_eq_true rfl) ?_
  intro p e s m below meth c ls hx hb hml hr hlk hown hw hK hT hP hl
  have hown : s.vm.findClass "CronFinder$DaySet" = some m.cls := hown
  have hl : lv_has ls 3 [(0, .ref (q)), (1, .int (iI (d)))] := hl
  have hd : -2147483648 ≤ d ∧ d < 2147483648 := by omega
  have hc1 := hR.1
  have hc2 := hR.2.1
  have hn1 := hN.1
  have hn2 := hN.2.1
  refine lv_aload_n hx hb zd_S_add_0 rfl (lv_at hl 0 rfl) ?_
  refine lv_iload_n hx hb zd_S_add_1 rfl (lv_at hl 1 rfl) ?_
  refine zk_V (As := [.int (iI (d))]) (b := q) (own := "CronFinder$DaySet") (nL := 3) (rest := []) hx hb hml hown hw (c_S_has l g q a h cnt hol hR (d) hd) zw_2_221 zw_2_222 zw_2_223 zw_1_6 zw_2_224 (np := 1) (by decide +kernel) rfl (by decide) zN_mv hK trivial (hP.sub (ws' := [(q, .inr (1, [.ref (a), .int (iI (cnt))])), (a, .inl (g.2 0, 200, .inl (zaI h)))]) [0, 1] rfl) (va_recv hK hP (ci := 1) (q0 := 0) rfl rfl) hl.1 rfl (Nat.le_of_ble_eq_true rfl) (by decide) zd_S_add_2 ?_
  refine zb_if_eq (tgt := 10) hx hb zd_S_add_5 (by decide) (fun c5 => ?_) (fun c5 => ?_)
  · rw [hh] at c5; cases c5
  · refine zi_iconst hx hb zd_S_add_8 ?_
    refine zb_as (x := true) (rfl) ?_
    exact zs_zret hx hb hr hlk zd_S_add_9
set_option maxHeartbeats 4000000 in
set_option maxRecDepth 100000 in
theorem c_S_add_full (l : Launch) (g : zGl) (q a : Nat) (h : Nat → Int) (cnt : Int) (hol : Int → Bool) (hR : dsR h cnt hol) (d N : Int) (hd0 : 0 ≤ d ∧ d ≤ 120529) (hN : dsN h cnt d N) (hh : hol d = false) (hf : 200 ≤ cnt) : zSi l zy_S_add zc_S_add 3 (some .boolean) ({ frames := 4, cells := 0, slots := 0, locals := 87 }) g zN [.ref (q), .int (iI (d))] [(q, .inr (1, [.ref (a), .int (iI (cnt))])), (a, .inl (g.2 0, 200, .inl (zaI h)))] (some (.int (iI (bI (false))))) := by
  refine zs_open (by decide +kernel) (Nat.le_of_ble_eq_true rfl) ?_
  intro p e s m below meth c ls hx hb hml hr hlk hown hw hK hT hP hl
  have hown : s.vm.findClass "CronFinder$DaySet" = some m.cls := hown
  have hl : lv_has ls 3 [(0, .ref (q)), (1, .int (iI (d)))] := hl
  have hd : -2147483648 ≤ d ∧ d < 2147483648 := by omega
  have hc1 := hR.1
  have hc2 := hR.2.1
  have hn1 := hN.1
  have hn2 := hN.2.1
  refine lv_aload_n hx hb zd_S_add_0 rfl (lv_at hl 0 rfl) ?_
  refine lv_iload_n hx hb zd_S_add_1 rfl (lv_at hl 1 rfl) ?_
  refine zk_V (As := [.int (iI (d))]) (b := q) (own := "CronFinder$DaySet") (nL := 3) (rest := []) hx hb hml hown hw (c_S_has l g q a h cnt hol hR (d) hd) zw_2_221 zw_2_222 zw_2_223 zw_1_6 zw_2_224 (np := 1) (by decide +kernel) rfl (by decide) zN_mv hK trivial (hP.sub (ws' := [(q, .inr (1, [.ref (a), .int (iI (cnt))])), (a, .inl (g.2 0, 200, .inl (zaI h)))]) [0, 1] rfl) (va_recv hK hP (ci := 1) (q0 := 0) rfl rfl) hl.1 rfl (Nat.le_of_ble_eq_true rfl) (by decide) zd_S_add_2 ?_
  refine zb_if_eq (tgt := 10) hx hb zd_S_add_5 (by decide) (fun c5 => ?_) (fun c5 => ?_)
  · refine lv_aload_n hx hb zd_S_add_10 rfl (lv_at hl 0 rfl) ?_
    refine va_get (D := g.1) (ci := 1) (v := .int (iI (cnt))) (C := zR_S) (T := zT_S) (N := 2) hx hb hw zin_S hown hK hP 0 rfl rfl 1 (by decide) (hw _ zw_1_99) (fun _ h9 => h9) rfl zd_S_add_11 ?_
    refine lv_aload_n hx hb zd_S_add_14 rfl (lv_at hl 0 rfl) ?_
    refine va_get (D := g.1) (ci := 1) (v := .ref (a)) (C := zR_S) (T := zT_S) (N := 2) hx hb hw zin_S hown hK hP 0 rfl rfl 0 (by decide) (hw _ zw_1_98) (fun _ h9 => h9) rfl zd_S_add_15 ?_
    refine va_alen hx hb hK hP 1 0 rfl rfl (v := iI 200) (iI_nat 200) zd_S_add_18 ?_
    refine zi_icmp_lt (tgt := 24) hx hb zd_S_add_19 (by decide) (by omega) (fun c19 => ?_) (fun c19 => ?_)
    · exact absurd c19 (by omega)
    · refine zi_iconst hx hb zd_S_add_22 ?_
      refine zb_as (x := false) (rfl) ?_
      exact zs_zret hx hb hr hlk zd_S_add_23
  · rw [hh] at c5; cases c5
set_option maxHeartbeats 4000000 in
set_option maxRecDepth 100000 in
theorem c_S_add_new (l : Launch) (g : zGl) (q a : Nat) (h : Nat → Int) (cnt : Int) (hol : Int → Bool) (hR : dsR h cnt hol) (d N : Int) (hd0 : 0 ≤ d ∧ d ≤ 120529) (hN : dsN h cnt d N) (hh : hol d = false) (hf : cnt < 200) : zWi l zy_S_add zc_S_add 3 (some .boolean) ({ frames := 4, cells := 0, slots := 0, locals := 87 }) g (fun _ => zN) [.ref (q), .int (iI (d))] [(q, .inr (1, [.ref (a), .int (iI (cnt))])), (a, .inl (g.2 0, 200, .inl (zaI h)))] (some (.int (iI (bI (true))))) [(q, .inr (1, [.ref (a), .int (iI (cnt + 1))])), (a, .inl (g.2 0, 200, .inl (zaI (dsAdd h cnt d N))))] 0 0 := by
  refine zw_open (by decide +kernel) (Nat.le_of_ble_eq_true rfl) ?_
  intro p e s m below meth c ls A hx hb hml hr hlk hown hin hw hK hT hP hD hS hA hl
  have hown : s.vm.findClass "CronFinder$DaySet" = some m.cls := hown
  have hl : lv_has ls 3 [(0, .ref (q)), (1, .int (iI (d)))] := hl
  have hd : -2147483648 ≤ d ∧ d < 2147483648 := by omega
  have hc1 := hR.1
  have hc2 := hR.2.1
  have hn1 := hN.1
  have hn2 := hN.2.1
  refine lv_aload_n hx hb zd_S_add_0 rfl (lv_at hl 0 rfl) ?_
  refine lv_iload_n hx hb zd_S_add_1 rfl (lv_at hl 1 rfl) ?_
  refine zk_V (As := [.int (iI (d))]) (b := q) (own := "CronFinder$DaySet") (nL := 3) (rest := []) hx hb hml hown hw (c_S_has l g q a h cnt hol hR (d) hd) zw_2_221 zw_2_222 zw_2_223 zw_1_6 zw_2_224 (np := 1) (by decide +kernel) rfl (by decide) zN_mv hK trivial (hP.sub (ws' := [(q, .inr (1, [.ref (a), .int (iI (cnt))])), (a, .inl (g.2 0, 200, .inl (zaI h)))]) [0, 1] rfl) (va_recv hK hP (ci := 1) (q0 := 0) rfl rfl) hl.1 rfl (Nat.le_of_ble_eq_true rfl) (by decide) zd_S_add_2 ?_
  refine zb_if_eq (tgt := 10) hx hb zd_S_add_5 (by decide) (fun c5 => ?_) (fun c5 => ?_)
  · refine lv_aload_n hx hb zd_S_add_10 rfl (lv_at hl 0 rfl) ?_
    refine va_get (D := g.1) (ci := 1) (v := .int (iI (cnt))) (C := zR_S) (T := zT_S) (N := 2) hx hb hw zin_S hown hK hP 0 rfl rfl 1 (by decide) (hw _ zw_1_99) (fun _ h9 => h9) rfl zd_S_add_11 ?_
    refine lv_aload_n hx hb zd_S_add_14 rfl (lv_at hl 0 rfl) ?_
    refine va_get (D := g.1) (ci := 1) (v := .ref (a)) (C := zR_S) (T := zT_S) (N := 2) hx hb hw zin_S hown hK hP 0 rfl rfl 0 (by decide) (hw _ zw_1_98) (fun _ h9 => h9) rfl zd_S_add_15 ?_
    refine va_alen hx hb hK hP 1 0 rfl rfl (v := iI 200) (iI_nat 200) zd_S_add_18 ?_
    refine zi_icmp_lt (tgt := 24) hx hb zd_S_add_19 (by decide) (by omega) (fun c19 => ?_) (fun c19 => ?_)
    · refine lv_aload_n hx hb zd_S_add_24 rfl (lv_at hl 0 rfl) ?_
      refine lv_iload_n hx hb zd_S_add_25 rfl (lv_at hl 1 rfl) ?_
      refine zk_V (As := [.int (iI (d))]) (b := q) (own := "CronFinder$DaySet") (nL := 3) (rest := []) hx hb hml hown hw (c_S_indexOf l g q a h cnt hol hR (d) N hd hN) zw_2_225 zw_2_227 zw_0_14 zw_1_6 zw_2_228 (np := 1) (by decide +kernel) rfl (by decide) zN_mv hK trivial (hP.sub (ws' := [(q, .inr (1, [.ref (a), .int (iI (cnt))])), (a, .inl (g.2 0, 200, .inl (zaI h)))]) [0, 1] rfl) (va_recv hK hP (ci := 1) (q0 := 0) rfl rfl) hl.1 rfl (Nat.le_of_ble_eq_true rfl) (by decide) zd_S_add_26 ?_
      refine lv_istore_n (lv' := [(2, .int (iI (N))), (0, .ref (q)), (1, .int (iI (d)))]) hx hb zd_S_add_29 rfl hl (by decide) rfl (fun ls hl => ?_)
      refine lv_aload_n hx hb zd_S_add_30 rfl (lv_at hl 1 rfl) ?_
      refine va_get (D := g.1) (ci := 1) (v := .ref (a)) (C := zR_S) (T := zT_S) (N := 2) hx hb hw zin_S hown hK hP 0 rfl rfl 0 (by decide) (hw _ zw_1_98) (fun _ h9 => h9) rfl zd_S_add_31 ?_
      refine lv_iload_n hx hb zd_S_add_34 rfl (lv_at hl 0 rfl) ?_
      refine lv_aload_n hx hb zd_S_add_35 rfl (lv_at hl 1 rfl) ?_
      refine va_get (D := g.1) (ci := 1) (v := .ref (a)) (C := zR_S) (T := zT_S) (N := 2) hx hb hw zin_S hown hK hP 0 rfl rfl 0 (by decide) (hw _ zw_1_98) (fun _ h9 => h9) rfl zd_S_add_36 ?_
      refine lv_iload_n hx hb zd_S_add_39 rfl (lv_at hl 0 rfl) ?_
      refine zi_iconst hx hb zd_S_add_40 ?_
      refine zi_iadd hx hb zd_S_add_41 ?_
      refine lv_aload_n hx hb zd_S_add_42 rfl (lv_at hl 1 rfl) ?_
      refine va_get (D := g.1) (ci := 1) (v := .int (iI (cnt))) (C := zR_S) (T := zT_S) (N := 2) hx hb hw zin_S hown hK hP 0 rfl rfl 1 (by decide) (hw _ zw_1_99) (fun _ h9 => h9) rfl zd_S_add_43 ?_
      refine lv_iload_n hx hb zd_S_add_46 rfl (lv_at hl 0 rfl) ?_
      refine zi_isub hx hb zd_S_add_47 ?_
      refine zi_copyI hx hb (hml.trans hl.1.symm) hown (hw _ zw_2_237) (hw _ zw_2_239) (hw _ zw_2_238) (hw _ zw_1_21) hK hP hD hS 1 0 rfl rfl (by omega) (by decide) (by decide) zd_S_add_48 (fun H locs hP hD hS => ?_)
      have hP : va_P g.1 zCl [(q, .inr (1, [.ref (a), .int (iI (cnt))])), (a, .inl (g.2 0, 200, .inl (zaI (va_cpy h h (N).toNat (N + 1).toNat (cnt - N).toNat))))] H := hP
      have hD : va_D A [(q, .inr (1, [.ref (a), .int (iI (cnt))])), (a, .inl (g.2 0, 200, .inl (zaI (va_cpy h h (N).toNat (N + 1).toNat (cnt - N).toNat))))] := hD
      refine lv_aload_n hx hb zd_S_add_51 rfl (lv_at hl 1 rfl) ?_
      refine va_get (D := g.1) (ci := 1) (v := .ref (a)) (C := zR_S) (T := zT_S) (N := 2) hx hb hw zin_S hown hK hP 0 rfl rfl 0 (by decide) (hw _ zw_1_98) (fun _ h9 => h9) rfl zd_S_add_52 ?_
      refine lv_iload_n hx hb zd_S_add_55 rfl (lv_at hl 0 rfl) ?_
      refine lv_iload_n hx hb zd_S_add_56 rfl (lv_at hl 2 rfl) ?_
      refine zi_iast hx hb hK hP hD hS 1 0 rfl rfl (by omega) zd_S_add_57 (fun H locs hP hD hS => ?_)
      have hP : va_P g.1 zCl [(q, .inr (1, [.ref (a), .int (iI (cnt))])), (a, .inl (g.2 0, 200, .inl (zaI (zu (va_cpy h h (N).toNat (N + 1).toNat (cnt - N).toNat) (N).toNat (d)))))] H := hP
      have hD : va_D A [(q, .inr (1, [.ref (a), .int (iI (cnt))])), (a, .inl (g.2 0, 200, .inl (zaI (zu (va_cpy h h (N).toNat (N + 1).toNat (cnt - N).toNat) (N).toNat (d)))))] := hD
      refine lv_aload_n hx hb zd_S_add_58 rfl (lv_at hl 1 rfl) ?_
      refine lv_dup hx hb zd_S_add_59 rfl ?_
      refine va_get (D := g.1) (ci := 1) (v := .int (iI (cnt))) (C := zR_S) (T := zT_S) (N := 2) hx hb hw zin_S hown hK hP 0 rfl rfl 1 (by decide) (hw _ zw_1_99) (fun _ h9 => h9) rfl zd_S_add_60 ?_
      refine zi_iconst hx hb zd_S_add_63 ?_
      refine zi_iadd hx hb zd_S_add_64 ?_
      refine va_put (D := g.1) (ci := 1) (v := .int (iI (cnt + 1))) (ty := .int) (C := zR_S) (T := zT_S) (N := 2) hx hb hw zin_S zt_S zto_S zn_S hown hK hP hD hS 0 rfl rfl 1 (by decide) (hw _ zw_1_99) (fun _ h9 => h9) rfl  (by decide +kernel) rfl rfl (Nat.le_of_ble_eq_true rfl) zd_S_add_65 (fun H locs hP hD hS => ?_)
      have hP : va_P g.1 zCl [(q, .inr (1, [.ref (a), .int (iI (cnt + 1))])), (a, .inl (g.2 0, 200, .inl (zaI (zu (va_cpy h h (N).toNat (N + 1).toNat (cnt - N).toNat) (N).toNat (d)))))] H := hP
      have hD : va_D A [(q, .inr (1, [.ref (a), .int (iI (cnt + 1))])), (a, .inl (g.2 0, 200, .inl (zaI (zu (va_cpy h h (N).toNat (N + 1).toNat (cnt - N).toNat) (N).toNat (d)))))] := hD
      refine zi_iconst hx hb zd_S_add_68 ?_
      refine zb_as (x := true) (rfl) ?_
      exact zw_zret hx hb hr hlk (ws := [(q, .inr (1, [.ref (a), .int (iI (cnt + 1))])), (a, .inl (g.2 0, 200, .inl (zaI (dsAdd h cnt d N))))]) hP hS zd_S_add_69
    · exact absurd c19 (by omega)
  · rw [hh] at c5; cases c5
set_option maxHeartbeats 4000000 in
set_option maxRecDepth 100000 in
theorem c_S_remove (l : Launch) (g : zGl) (q a : Nat) (h : Nat → Int) (cnt : Int) (hol : Int → Bool) (hR : dsR h cnt hol) (d N : Int) (hd0 : 0 ≤ d ∧ d ≤ 120529) (hN : dsN h cnt d N) (hh : hol d = true) (hlt : N < cnt) : zWi l zy_S_remove zc_S_remove 3 none ({ frames := 4, cells := 0, slots := 0, locals := 87 }) g (fun _ => zN) [.ref (q), .int (iI (d))] [(q, .inr (1, [.ref (a), .int (iI (cnt))])), (a, .inl (g.2 0, 200, .inl (zaI h)))] (none) [(q, .inr (1, [.ref (a), .int (iI (cnt - 1))])), (a, .inl (g.2 0, 200, .inl (zaI (dsRem h cnt N))))] 0 0 := by
  refine zw_open (by decide +kernel) (Nat.le_of_ble_eq_true rfl) ?_
  intro p e s m below meth c ls A hx hb hml hr hlk hown hin hw hK hT hP hD hS hA hl
  have hown : s.vm.findClass "CronFinder$DaySet" = some m.cls := hown
  have hl : lv_has ls 3 [(0, .ref (q)), (1, .int (iI (d)))] := hl
  have hd : -2147483648 ≤ d ∧ d < 2147483648 := by omega
  have hc1 := hR.1
  have hc2 := hR.2.1
  have hn1 := hN.1
  have hn2 := hN.2.1
  refine lv_aload_n hx hb zd_S_remove_0 rfl (lv_at hl 0 rfl) ?_
  refine lv_iload_n hx hb zd_S_remove_1 rfl (lv_at hl 1 rfl) ?_
  refine zk_V (As := [.int (iI (d))]) (b := q) (own := "CronFinder$DaySet") (nL := 3) (rest := []) hx hb hml hown hw (c_S_has l g q a h cnt hol hR (d) hd) zw_2_221 zw_2_222 zw_2_223 zw_1_6 zw_2_224 (np := 1) (by decide +kernel) rfl (by decide) zN_mv hK trivial (hP.sub (ws' := [(q, .inr (1, [.ref (a), .int (iI (cnt))])), (a, .inl (g.2 0, 200, .inl (zaI h)))]) [0, 1] rfl) (va_recv hK hP (ci := 1) (q0 := 0) rfl rfl) hl.1 rfl (Nat.le_of_ble_eq_true rfl) (by decide) zd_S_remove_2 ?_
  refine zb_if_eq (tgt := 47) hx hb zd_S_remove_5 (by decide) (fun c5 => ?_) (fun c5 => ?_)
  · rw [hh] at c5; cases c5
  · refine lv_aload_n hx hb zd_S_remove_8 rfl (lv_at hl 0 rfl) ?_
    refine lv_iload_n hx hb zd_S_remove_9 rfl (lv_at hl 1 rfl) ?_
    refine zk_V (As := [.int (iI (d))]) (b := q) (own := "CronFinder$DaySet") (nL := 3) (rest := []) hx hb hml hown hw (c_S_indexOf l g q a h cnt hol hR (d) N hd hN) zw_2_225 zw_2_227 zw_0_14 zw_1_6 zw_2_228 (np := 1) (by decide +kernel) rfl (by decide) zN_mv hK trivial (hP.sub (ws' := [(q, .inr (1, [.ref (a), .int (iI (cnt))])), (a, .inl (g.2 0, 200, .inl (zaI h)))]) [0, 1] rfl) (va_recv hK hP (ci := 1) (q0 := 0) rfl rfl) hl.1 rfl (Nat.le_of_ble_eq_true rfl) (by decide) zd_S_remove_10 ?_
    refine lv_istore_n (lv' := [(2, .int (iI (N))), (0, .ref (q)), (1, .int (iI (d)))]) hx hb zd_S_remove_13 rfl hl (by decide) rfl (fun ls hl => ?_)
    refine lv_aload_n hx hb zd_S_remove_14 rfl (lv_at hl 1 rfl) ?_
    refine va_get (D := g.1) (ci := 1) (v := .ref (a)) (C := zR_S) (T := zT_S) (N := 2) hx hb hw zin_S hown hK hP 0 rfl rfl 0 (by decide) (hw _ zw_1_98) (fun _ h9 => h9) rfl zd_S_remove_15 ?_
    refine lv_iload_n hx hb zd_S_remove_18 rfl (lv_at hl 0 rfl) ?_
    refine zi_iconst hx hb zd_S_remove_19 ?_
    refine zi_iadd hx hb zd_S_remove_20 ?_
    refine lv_aload_n hx hb zd_S_remove_21 rfl (lv_at hl 1 rfl) ?_
    refine va_get (D := g.1) (ci := 1) (v := .ref (a)) (C := zR_S) (T := zT_S) (N := 2) hx hb hw zin_S hown hK hP 0 rfl rfl 0 (by decide) (hw _ zw_1_98) (fun _ h9 => h9) rfl zd_S_remove_22 ?_
    refine lv_iload_n hx hb zd_S_remove_25 rfl (lv_at hl 0 rfl) ?_
    refine lv_aload_n hx hb zd_S_remove_26 rfl (lv_at hl 1 rfl) ?_
    refine va_get (D := g.1) (ci := 1) (v := .int (iI (cnt))) (C := zR_S) (T := zT_S) (N := 2) hx hb hw zin_S hown hK hP 0 rfl rfl 1 (by decide) (hw _ zw_1_99) (fun _ h9 => h9) rfl zd_S_remove_27 ?_
    refine lv_iload_n hx hb zd_S_remove_30 rfl (lv_at hl 0 rfl) ?_
    refine zi_isub hx hb zd_S_remove_31 ?_
    refine zi_iconst hx hb zd_S_remove_32 ?_
    refine zi_isub hx hb zd_S_remove_33 ?_
    refine zi_copyI hx hb (hml.trans hl.1.symm) hown (hw _ zw_2_237) (hw _ zw_2_239) (hw _ zw_2_238) (hw _ zw_1_21) hK hP hD hS 1 0 rfl rfl (by omega) (by decide) (by decide) zd_S_remove_34 (fun H locs hP hD hS => ?_)
    have hP : va_P g.1 zCl [(q, .inr (1, [.ref (a), .int (iI (cnt))])), (a, .inl (g.2 0, 200, .inl (zaI (va_cpy h h (N + 1).toNat (N).toNat ((cnt - N) - 1).toNat))))] H := hP
    have hD : va_D A [(q, .inr (1, [.ref (a), .int (iI (cnt))])), (a, .inl (g.2 0, 200, .inl (zaI (va_cpy h h (N + 1).toNat (N).toNat ((cnt - N) - 1).toNat))))] := hD
    refine lv_aload_n hx hb zd_S_remove_37 rfl (lv_at hl 1 rfl) ?_
    refine lv_dup hx hb zd_S_remove_38 rfl ?_
    refine va_get (D := g.1) (ci := 1) (v := .int (iI (cnt))) (C := zR_S) (T := zT_S) (N := 2) hx hb hw zin_S hown hK hP 0 rfl rfl 1 (by decide) (hw _ zw_1_99) (fun _ h9 => h9) rfl zd_S_remove_39 ?_
    refine zi_iconst hx hb zd_S_remove_42 ?_
    refine zi_isub hx hb zd_S_remove_43 ?_
    refine va_put (D := g.1) (ci := 1) (v := .int (iI (cnt - 1))) (ty := .int) (C := zR_S) (T := zT_S) (N := 2) hx hb hw zin_S zt_S zto_S zn_S hown hK hP hD hS 0 rfl rfl 1 (by decide) (hw _ zw_1_99) (fun _ h9 => h9) rfl  (by decide +kernel) rfl rfl (Nat.le_of_ble_eq_true rfl) zd_S_remove_44 (fun H locs hP hD hS => ?_)
    have hP : va_P g.1 zCl [(q, .inr (1, [.ref (a), .int (iI (cnt - 1))])), (a, .inl (g.2 0, 200, .inl (zaI (va_cpy h h (N + 1).toNat (N).toNat ((cnt - N) - 1).toNat))))] H := hP
    have hD : va_D A [(q, .inr (1, [.ref (a), .int (iI (cnt - 1))])), (a, .inl (g.2 0, 200, .inl (zaI (va_cpy h h (N + 1).toNat (N).toNat ((cnt - N) - 1).toNat))))] := hD
    exact zw_vret hx hb hr hlk (ws := [(q, .inr (1, [.ref (a), .int (iI (cnt - 1))])), (a, .inl (g.2 0, 200, .inl (zaI (dsRem h cnt N))))]) hP hS zd_S_remove_47
set_option maxHeartbeats 4000000 in
set_option maxRecDepth 100000 in
theorem c_S_remove_no (l : Launch) (g : zGl) (q a : Nat) (h : Nat → Int) (cnt : Int) (hol : Int → Bool) (hR : dsR h cnt hol) (d N : Int) (hd0 : 0 ≤ d ∧ d ≤ 120529) (hN : dsN h cnt d N) (hh : hol d = false) : zSi l zy_S_remove zc_S_remove 3 none ({ frames := 4, cells := 0, slots := 0, locals := 87 }) g zN [.ref (q), .int (iI (d))] [(q, .inr (1, [.ref (a), .int (iI (cnt))])), (a, .inl (g.2 0, 200, .inl (zaI h)))] (none) := by
  refine zs_open (by decide +kernel) (Nat.le_of_ble_eq_true rfl) ?_
  intro p e s m below meth c ls hx hb hml hr hlk hown hw hK hT hP hl
  have hown : s.vm.findClass "CronFinder$DaySet" = some m.cls := hown
  have hl : lv_has ls 3 [(0, .ref (q)), (1, .int (iI (d)))] := hl
  have hd : -2147483648 ≤ d ∧ d < 2147483648 := by omega
  have hc1 := hR.1
  have hc2 := hR.2.1
  have hn1 := hN.1
  have hn2 := hN.2.1
  refine lv_aload_n hx hb zd_S_remove_0 rfl (lv_at hl 0 rfl) ?_
  refine lv_iload_n hx hb zd_S_remove_1 rfl (lv_at hl 1 rfl) ?_
  refine zk_V (As := [.int (iI (d))]) (b := q) (own := "CronFinder$DaySet") (nL := 3) (rest := []) hx hb hml hown hw (c_S_has l g q a h cnt hol hR (d) hd) zw_2_221 zw_2_222 zw_2_223 zw_1_6 zw_2_224 (np := 1) (by decide +kernel) rfl (by decide) zN_mv hK trivial (hP.sub (ws' := [(q, .inr (1, [.ref (a), .int (iI (cnt))])), (a, .inl (g.2 0, 200, .inl (zaI h)))]) [0, 1] rfl) (va_recv hK hP (ci := 1) (q0 := 0) rfl rfl) hl.1 rfl (Nat.le_of_ble_eq_true rfl) (by decide) zd_S_remove_2 ?_
  refine zb_if_eq (tgt := 47) hx hb zd_S_remove_5 (by decide) (fun c5 => ?_) (fun c5 => ?_)
  · exact zs_vret hx hb hr hlk zd_S_remove_47
  · rw [hh] at c5; cases c5
