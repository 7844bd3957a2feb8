section OP
variable {L i : Nat} {xs : Nat → Int32} {M : pzM} {J : pzJ} {Q : Option Value → List pzS → pzM → pzJ → Prop}
set_option maxRecDepth 100000 in
set_option maxHeartbeats 4000000 in
theorem lw_t0 : pz_tsw 33 1175 0 30 #[139, 192, 225, 259, 292, 325, 358, 391, 414, 437, 500, 523, 536, 569, 632, 685, 708, 731, 754, 777, 831, 874, 897, 940, 984, 1047, 1070, 1093, 1126, 1139, 1152] (nI 0) = some 172 := by decide
set_option maxRecDepth 100000 in
set_option maxHeartbeats 4000000 in
theorem lw_t1 : pz_tsw 33 1175 0 30 #[139, 192, 225, 259, 292, 325, 358, 391, 414, 437, 500, 523, 536, 569, 632, 685, 708, 731, 754, 777, 831, 874, 897, 940, 984, 1047, 1070, 1093, 1126, 1139, 1152] (nI 1) = some 225 := by decide
set_option maxRecDepth 100000 in
set_option maxHeartbeats 4000000 in
theorem lw_t2 : pz_tsw 33 1175 0 30 #[139, 192, 225, 259, 292, 325, 358, 391, 414, 437, 500, 523, 536, 569, 632, 685, 708, 731, 754, 777, 831, 874, 897, 940, 984, 1047, 1070, 1093, 1126, 1139, 1152] (nI 2) = some 258 := by decide
set_option maxRecDepth 100000 in
set_option maxHeartbeats 4000000 in
theorem lw_t3 : pz_tsw 33 1175 0 30 #[139, 192, 225, 259, 292, 325, 358, 391, 414, 437, 500, 523, 536, 569, 632, 685, 708, 731, 754, 777, 831, 874, 897, 940, 984, 1047, 1070, 1093, 1126, 1139, 1152] (nI 3) = some 292 := by decide
set_option maxRecDepth 100000 in
set_option maxHeartbeats 4000000 in
theorem lw_t4 : pz_tsw 33 1175 0 30 #[139, 192, 225, 259, 292, 325, 358, 391, 414, 437, 500, 523, 536, 569, 632, 685, 708, 731, 754, 777, 831, 874, 897, 940, 984, 1047, 1070, 1093, 1126, 1139, 1152] (nI 4) = some 325 := by decide
set_option maxRecDepth 100000 in
set_option maxHeartbeats 4000000 in
theorem lw_t5 : pz_tsw 33 1175 0 30 #[139, 192, 225, 259, 292, 325, 358, 391, 414, 437, 500, 523, 536, 569, 632, 685, 708, 731, 754, 777, 831, 874, 897, 940, 984, 1047, 1070, 1093, 1126, 1139, 1152] (nI 5) = some 358 := by decide
set_option maxRecDepth 100000 in
set_option maxHeartbeats 4000000 in
theorem lw_t6 : pz_tsw 33 1175 0 30 #[139, 192, 225, 259, 292, 325, 358, 391, 414, 437, 500, 523, 536, 569, 632, 685, 708, 731, 754, 777, 831, 874, 897, 940, 984, 1047, 1070, 1093, 1126, 1139, 1152] (nI 6) = some 391 := by decide
set_option maxRecDepth 100000 in
set_option maxHeartbeats 4000000 in
theorem lw_t7 : pz_tsw 33 1175 0 30 #[139, 192, 225, 259, 292, 325, 358, 391, 414, 437, 500, 523, 536, 569, 632, 685, 708, 731, 754, 777, 831, 874, 897, 940, 984, 1047, 1070, 1093, 1126, 1139, 1152] (nI 7) = some 424 := by decide
set_option maxRecDepth 100000 in
set_option maxHeartbeats 4000000 in
theorem lw_t8 : pz_tsw 33 1175 0 30 #[139, 192, 225, 259, 292, 325, 358, 391, 414, 437, 500, 523, 536, 569, 632, 685, 708, 731, 754, 777, 831, 874, 897, 940, 984, 1047, 1070, 1093, 1126, 1139, 1152] (nI 8) = some 447 := by decide
set_option maxRecDepth 100000 in
set_option maxHeartbeats 4000000 in
theorem lw_t9 : pz_tsw 33 1175 0 30 #[139, 192, 225, 259, 292, 325, 358, 391, 414, 437, 500, 523, 536, 569, 632, 685, 708, 731, 754, 777, 831, 874, 897, 940, 984, 1047, 1070, 1093, 1126, 1139, 1152] (nI 9) = some 470 := by decide
set_option maxRecDepth 100000 in
set_option maxHeartbeats 4000000 in
theorem lw_t10 : pz_tsw 33 1175 0 30 #[139, 192, 225, 259, 292, 325, 358, 391, 414, 437, 500, 523, 536, 569, 632, 685, 708, 731, 754, 777, 831, 874, 897, 940, 984, 1047, 1070, 1093, 1126, 1139, 1152] (nI 10) = some 533 := by decide
set_option maxRecDepth 100000 in
set_option maxHeartbeats 4000000 in
theorem lw_t11 : pz_tsw 33 1175 0 30 #[139, 192, 225, 259, 292, 325, 358, 391, 414, 437, 500, 523, 536, 569, 632, 685, 708, 731, 754, 777, 831, 874, 897, 940, 984, 1047, 1070, 1093, 1126, 1139, 1152] (nI 11) = some 556 := by decide
set_option maxRecDepth 100000 in
set_option maxHeartbeats 4000000 in
theorem lw_t12 : pz_tsw 33 1175 0 30 #[139, 192, 225, 259, 292, 325, 358, 391, 414, 437, 500, 523, 536, 569, 632, 685, 708, 731, 754, 777, 831, 874, 897, 940, 984, 1047, 1070, 1093, 1126, 1139, 1152] (nI 12) = some 569 := by decide
set_option maxRecDepth 100000 in
set_option maxHeartbeats 4000000 in
theorem lw_t13 : pz_tsw 33 1175 0 30 #[139, 192, 225, 259, 292, 325, 358, 391, 414, 437, 500, 523, 536, 569, 632, 685, 708, 731, 754, 777, 831, 874, 897, 940, 984, 1047, 1070, 1093, 1126, 1139, 1152] (nI 13) = some 602 := by decide
set_option maxRecDepth 100000 in
set_option maxHeartbeats 4000000 in
theorem lw_t14 : pz_tsw 33 1175 0 30 #[139, 192, 225, 259, 292, 325, 358, 391, 414, 437, 500, 523, 536, 569, 632, 685, 708, 731, 754, 777, 831, 874, 897, 940, 984, 1047, 1070, 1093, 1126, 1139, 1152] (nI 14) = some 665 := by decide
set_option maxRecDepth 100000 in
set_option maxHeartbeats 4000000 in
theorem lw_t15 : pz_tsw 33 1175 0 30 #[139, 192, 225, 259, 292, 325, 358, 391, 414, 437, 500, 523, 536, 569, 632, 685, 708, 731, 754, 777, 831, 874, 897, 940, 984, 1047, 1070, 1093, 1126, 1139, 1152] (nI 15) = some 718 := by decide
set_option maxRecDepth 100000 in
set_option maxHeartbeats 4000000 in
theorem lw_t16 : pz_tsw 33 1175 0 30 #[139, 192, 225, 259, 292, 325, 358, 391, 414, 437, 500, 523, 536, 569, 632, 685, 708, 731, 754, 777, 831, 874, 897, 940, 984, 1047, 1070, 1093, 1126, 1139, 1152] (nI 16) = some 741 := by decide
set_option maxRecDepth 100000 in
set_option maxHeartbeats 4000000 in
theorem lw_t17 : pz_tsw 33 1175 0 30 #[139, 192, 225, 259, 292, 325, 358, 391, 414, 437, 500, 523, 536, 569, 632, 685, 708, 731, 754, 777, 831, 874, 897, 940, 984, 1047, 1070, 1093, 1126, 1139, 1152] (nI 17) = some 764 := by decide
set_option maxRecDepth 100000 in
set_option maxHeartbeats 4000000 in
theorem lw_t18 : pz_tsw 33 1175 0 30 #[139, 192, 225, 259, 292, 325, 358, 391, 414, 437, 500, 523, 536, 569, 632, 685, 708, 731, 754, 777, 831, 874, 897, 940, 984, 1047, 1070, 1093, 1126, 1139, 1152] (nI 18) = some 787 := by decide
set_option maxRecDepth 100000 in
set_option maxHeartbeats 4000000 in
theorem lw_t19 : pz_tsw 33 1175 0 30 #[139, 192, 225, 259, 292, 325, 358, 391, 414, 437, 500, 523, 536, 569, 632, 685, 708, 731, 754, 777, 831, 874, 897, 940, 984, 1047, 1070, 1093, 1126, 1139, 1152] (nI 19) = some 810 := by decide
set_option maxRecDepth 100000 in
set_option maxHeartbeats 4000000 in
theorem lw_t20 : pz_tsw 33 1175 0 30 #[139, 192, 225, 259, 292, 325, 358, 391, 414, 437, 500, 523, 536, 569, 632, 685, 708, 731, 754, 777, 831, 874, 897, 940, 984, 1047, 1070, 1093, 1126, 1139, 1152] (nI 20) = some 864 := by decide
set_option maxRecDepth 100000 in
set_option maxHeartbeats 4000000 in
theorem lw_t21 : pz_tsw 33 1175 0 30 #[139, 192, 225, 259, 292, 325, 358, 391, 414, 437, 500, 523, 536, 569, 632, 685, 708, 731, 754, 777, 831, 874, 897, 940, 984, 1047, 1070, 1093, 1126, 1139, 1152] (nI 21) = some 907 := by decide
set_option maxRecDepth 100000 in
set_option maxHeartbeats 4000000 in
theorem lw_t22 : pz_tsw 33 1175 0 30 #[139, 192, 225, 259, 292, 325, 358, 391, 414, 437, 500, 523, 536, 569, 632, 685, 708, 731, 754, 777, 831, 874, 897, 940, 984, 1047, 1070, 1093, 1126, 1139, 1152] (nI 22) = some 930 := by decide
set_option maxRecDepth 100000 in
set_option maxHeartbeats 4000000 in
theorem lw_t23 : pz_tsw 33 1175 0 30 #[139, 192, 225, 259, 292, 325, 358, 391, 414, 437, 500, 523, 536, 569, 632, 685, 708, 731, 754, 777, 831, 874, 897, 940, 984, 1047, 1070, 1093, 1126, 1139, 1152] (nI 23) = some 973 := by decide
set_option maxRecDepth 100000 in
set_option maxHeartbeats 4000000 in
theorem lw_t24 : pz_tsw 33 1175 0 30 #[139, 192, 225, 259, 292, 325, 358, 391, 414, 437, 500, 523, 536, 569, 632, 685, 708, 731, 754, 777, 831, 874, 897, 940, 984, 1047, 1070, 1093, 1126, 1139, 1152] (nI 24) = some 1017 := by decide
set_option maxRecDepth 100000 in
set_option maxHeartbeats 4000000 in
theorem lw_t25 : pz_tsw 33 1175 0 30 #[139, 192, 225, 259, 292, 325, 358, 391, 414, 437, 500, 523, 536, 569, 632, 685, 708, 731, 754, 777, 831, 874, 897, 940, 984, 1047, 1070, 1093, 1126, 1139, 1152] (nI 25) = some 1080 := by decide
set_option maxRecDepth 100000 in
set_option maxHeartbeats 4000000 in
theorem lw_t26 : pz_tsw 33 1175 0 30 #[139, 192, 225, 259, 292, 325, 358, 391, 414, 437, 500, 523, 536, 569, 632, 685, 708, 731, 754, 777, 831, 874, 897, 940, 984, 1047, 1070, 1093, 1126, 1139, 1152] (nI 26) = some 1103 := by decide
set_option maxRecDepth 100000 in
set_option maxHeartbeats 4000000 in
theorem lw_t27 : pz_tsw 33 1175 0 30 #[139, 192, 225, 259, 292, 325, 358, 391, 414, 437, 500, 523, 536, 569, 632, 685, 708, 731, 754, 777, 831, 874, 897, 940, 984, 1047, 1070, 1093, 1126, 1139, 1152] (nI 27) = some 1126 := by decide
set_option maxRecDepth 100000 in
set_option maxHeartbeats 4000000 in
theorem lw_t28 : pz_tsw 33 1175 0 30 #[139, 192, 225, 259, 292, 325, 358, 391, 414, 437, 500, 523, 536, 569, 632, 685, 708, 731, 754, 777, 831, 874, 897, 940, 984, 1047, 1070, 1093, 1126, 1139, 1152] (nI 28) = some 1159 := by decide
set_option maxRecDepth 100000 in
set_option maxHeartbeats 4000000 in
theorem lw_t29 : pz_tsw 33 1175 0 30 #[139, 192, 225, 259, 292, 325, 358, 391, 414, 437, 500, 523, 536, 569, 632, 685, 708, 731, 754, 777, 831, 874, 897, 940, 984, 1047, 1070, 1093, 1126, 1139, 1152] (nI 29) = some 1172 := by decide
set_option maxRecDepth 100000 in
set_option maxHeartbeats 4000000 in
theorem lw_t30 : pz_tsw 33 1175 0 30 #[139, 192, 225, 259, 292, 325, 358, 391, 414, 437, 500, 523, 536, 569, 632, 685, 708, 731, 754, 777, 831, 874, 897, 940, 984, 1047, 1070, 1093, 1126, 1139, 1152] (nI 30) = some 1185 := by decide
set_option maxRecDepth 100000 in
set_option maxHeartbeats 4000000 in
theorem lw_t31 : pz_tsw 33 1175 0 30 #[139, 192, 225, 259, 292, 325, 358, 391, 414, 437, 500, 523, 536, 569, 632, 685, 708, 731, 754, 777, 831, 874, 897, 940, 984, 1047, 1070, 1093, 1126, 1139, 1152] (nI 31) = some 1208 := by decide
set_option maxRecDepth 100000 in
set_option maxHeartbeats 4000000 in
theorem lw_one (h : pzInv i M J) (hL : L ≤ 384) (hl : 6 * i + 6 ≤ L) (K : ∀ M' J', pzInv (i + 1) M' J' → pz_wp (L, xs) 1000 0 (pz_blk 0 18) [some (.retAddr 0), some (.ref 0), some (.ref 44), some (.int (nI (6 * (i + 1))))] [] pzS0 M' J' Q) : pz_wp (L, xs) 1000 0 (pz_blk 0 18) [some (.retAddr 0), some (.ref 0), some (.ref 44), some (.int (nI (6 * i)))] [] pzS0 M J Q := by
  have hi : i ≤ 64 := by omega
  have g : (nI L - 6 < nI (6 * i)) = False := by rw [lw_gt hL hi]; exact eq_false (by omega)
  have e0 : pz_ix (nI (6 * i)) L = some (6 * i) := xI_ix (by omega) (by omega)
  have n6 : nI (6 * i) + 6 = nI (6 * (i + 1)) := nI_add (6 * i) 6
  have eL : Int32.ofNat L = nI L := rfl
  have K8 : ∀ M' J', pzInv (i + 1) M' J' → pz_wp (L, xs) 1000 0 (pz_blk 0 1208) [some (.retAddr 0), some (.ref 0), some (.ref 44), some (.int (nI (6 * i)))] [] pzS0 M' J' Q := by
    intro M' J' h2
    rw [bL_law_1208, kL_law_1208]
    simp (decide := true) only [w_ft, w_goto, w_icmp_eq, w_if_eq, w_icmp_ne, w_if_ne, w_icmp_lt, w_if_lt, w_icmp_ge, w_if_ge, w_icmp_gt, w_if_gt, w_icmp_le, w_if_le, w_iconst, w_bipush, w_sipush, w_ldc, w_ldc_w, w_ldc2, w_lconst, w_iload, w_lload, w_aload, w_iload_0, w_lload_0, w_aload_0, w_iload_1, w_lload_1, w_aload_1, w_iload_2, w_lload_2, w_aload_2, w_iload_3, w_lload_3, w_aload_3, w_istore, w_lstore, w_astore, w_istore_0, w_lstore_0, w_astore_0, w_istore_1, w_lstore_1, w_astore_1, w_istore_2, w_lstore_2, w_astore_2, w_istore_3, w_lstore_3, w_astore_3, pz_lk0, pz_lkn, pz_lks, pz_st0i, pz_st0r, pz_st0l, pz_sts, pz_kln, pz_kli, pz_klr, pz_kla, pz_kll, pz_al0, pz_ali, pz_alr, pz_all, pz_tk0, pz_tks, pz_rc0, pz_rc1, pz_cati, pz_catr, pz_cata, pz_catl, pz_mkL, pz_ct_s, pz_ct_n, w_iinc, w_iadd, w_isub, w_imul, w_iand, w_ior, w_ishl, w_iushr, w_idiv, w_irem, w_ineg, w_ladd, w_lsub, w_ldiv, w_lrem, w_lneg, w_lcmp, w_i2l, w_l2i, w_i2b, w_i2s, w_dup_r, w_dup_i, w_dup2, w_getfield, w_putI, w_getstatic, w_slen, w_iaload, w_baload, w_laload, w_iaro, w_aaload, w_iastore, w_lastore, w_bastore, w_ireturn, w_zr0, w_zr1, w_zrb, w_lreturn, w_return, w_callv, w_calls, w_abs, w_labs, w_min, w_tsw, w_lsw, pz_sr_self, pz_sr_ne, pz_srJ_self, pz_srJ_ne, List.map_cons, List.map_nil, List.sum_cons, List.sum_nil, List.length_cons, List.length_nil, List.cons_append, List.nil_append, List.append_nil, List.replicate_succ, List.replicate_zero, Nat.reduceAdd, Nat.reduceMod, Nat.reduceDiv, Nat.reduceSub, Nat.reduceLT, Nat.reduceLeDiff, Nat.reduceEqDiff, ↓reduceIte, if_true, if_false, true_and, and_true, true_or, or_true, false_or, or_false, Nat.zero_add, Nat.add_zero, not_true_eq_false, not_false_eq_true, Int32.reduceLT, Int32.reduceLE, Int32.reduceAdd, Int32.reduceSub, Nat.sub_self, Nat.le_refl, Nat.zero_le, eq_self, pz_b01, pz_b0, pz_b1, decide_true, Nat.lt_add_one, Option.some.injEq, Nat.not_lt, and_self, or_self, Nat.zero_lt_succ, Nat.succ_ne_zero, reduceCtorEq, false_and, and_false, Nat.one_ne_zero, Nat.zero_ne_one, ne_eq, fk_0_0, fk_0_1, fk_0_2, fk_0_3, fk_0_4, fk_0_5, fk_0_6, fk_0_7, fk_2_0, fk_2_1, fk_2_2, fk_2_3, fk_2_4, fk_2_5, fk_2_6, fk_2_7, fk_2_8, fk_2_9, fk_10_0, fk_10_1, fk_10_2, fk_10_3, fk_10_4, fk_10_5, fk_10_6, fk_10_7, fk_10_8, fk_10_9, fk_18_0, fk_18_1, fk_19_0, fk_19_1, fk_19_2, fk_19_3, fk_19_4, fk_19_5, fk_19_6, fk_19_7, fk_19_8, fk_19_9, fk_27_0, fk_27_1, fk_27_2, fk_27_3, fk_27_4, fk_32_0, fk_32_1, fk_32_2, fk_32_3, fk_36_0, fk_36_1, fk_36_2, fk_36_3, fk_38_0, fk_38_1, fk_38_2, fk_38_3, fk_40_0, fk_40_1, fk_40_2, fk_40_3, fk_42_0, fk_42_1, fk_42_2, fk_42_3, fk_44_0, fk_44_1, fk_44_2, fk_44_3, fk_44_4, fk_44_5, fk_44_6, fk_44_7, fk_44_8, fk_44_9, fk_44_10, fk_44_11, fk_44_12, fk_44_13, fk_44_14, fk_44_15, fk_44_16, fk_44_17, fk_44_18, fk_44_19, fk_44_20, fk_44_21, fk_44_22, fk_44_23, fk_44_24, fk_44_25, fk_44_26, fk_44_27, fk_44_28, fk_44_29, fk_44_30, fk_44_31, fk_44_32, fk_44_33, as_1, as_3, as_4, as_5, as_6, as_7, as_8, as_9, as_11, as_12, as_13, as_14, as_15, as_16, as_17, as_20, as_21, as_22, as_23, as_24, as_25, as_26, as_28, as_29, as_30, as_31, as_33, as_34, as_35, as_37, as_39, as_41, as_43, as_45, as_46, as_47, as_48, as_49, as_50, as_51, as_52, as_53, as_54, as_55, as_56, as_57, as_58, as_59, as_60, as_61, as_62, as_63, as_64, as_65, as_66, oc_0, oc_2, oc_10, oc_18, oc_19, oc_27, oc_32, oc_36, oc_38, oc_40, oc_42, oc_44, rk_1_0, rk_1_1, rk_1_2, rk_1_3, n6]
    exact K M' J' h2
  obtain ⟨j, hj, hx⟩ := pk_andE (xs (6 * i)) (m := 31) 5 (by decide)
  rw [bL_law_18, kL_law_18]
  simp (decide := true) only [w_ft, w_goto, w_icmp_eq, w_if_eq, w_icmp_ne, w_if_ne, w_icmp_lt, w_if_lt, w_icmp_ge, w_if_ge, w_icmp_gt, w_if_gt, w_icmp_le, w_if_le, w_iconst, w_bipush, w_sipush, w_ldc, w_ldc_w, w_ldc2, w_lconst, w_iload, w_lload, w_aload, w_iload_0, w_lload_0, w_aload_0, w_iload_1, w_lload_1, w_aload_1, w_iload_2, w_lload_2, w_aload_2, w_iload_3, w_lload_3, w_aload_3, w_istore, w_lstore, w_astore, w_istore_0, w_lstore_0, w_astore_0, w_istore_1, w_lstore_1, w_astore_1, w_istore_2, w_lstore_2, w_astore_2, w_istore_3, w_lstore_3, w_astore_3, pz_lk0, pz_lkn, pz_lks, pz_st0i, pz_st0r, pz_st0l, pz_sts, pz_kln, pz_kli, pz_klr, pz_kla, pz_kll, pz_al0, pz_ali, pz_alr, pz_all, pz_tk0, pz_tks, pz_rc0, pz_rc1, pz_cati, pz_catr, pz_cata, pz_catl, pz_mkL, pz_ct_s, pz_ct_n, w_iinc, w_iadd, w_isub, w_imul, w_iand, w_ior, w_ishl, w_iushr, w_idiv, w_irem, w_ineg, w_ladd, w_lsub, w_ldiv, w_lrem, w_lneg, w_lcmp, w_i2l, w_l2i, w_i2b, w_i2s, w_dup_r, w_dup_i, w_dup2, w_getfield, w_putI, w_getstatic, w_slen, w_iaload, w_baload, w_laload, w_iaro, w_aaload, w_iastore, w_lastore, w_bastore, w_ireturn, w_zr0, w_zr1, w_zrb, w_lreturn, w_return, w_callv, w_calls, w_abs, w_labs, w_min, w_tsw, w_lsw, pz_sr_self, pz_sr_ne, pz_srJ_self, pz_srJ_ne, List.map_cons, List.map_nil, List.sum_cons, List.sum_nil, List.length_cons, List.length_nil, List.cons_append, List.nil_append, List.append_nil, List.replicate_succ, List.replicate_zero, Nat.reduceAdd, Nat.reduceMod, Nat.reduceDiv, Nat.reduceSub, Nat.reduceLT, Nat.reduceLeDiff, Nat.reduceEqDiff, ↓reduceIte, if_true, if_false, true_and, and_true, true_or, or_true, false_or, or_false, Nat.zero_add, Nat.add_zero, not_true_eq_false, not_false_eq_true, Int32.reduceLT, Int32.reduceLE, Int32.reduceAdd, Int32.reduceSub, Nat.sub_self, Nat.le_refl, Nat.zero_le, eq_self, pz_b01, pz_b0, pz_b1, decide_true, Nat.lt_add_one, Option.some.injEq, Nat.not_lt, and_self, or_self, Nat.zero_lt_succ, Nat.succ_ne_zero, reduceCtorEq, false_and, and_false, Nat.one_ne_zero, Nat.zero_ne_one, ne_eq, fk_0_0, fk_0_1, fk_0_2, fk_0_3, fk_0_4, fk_0_5, fk_0_6, fk_0_7, fk_2_0, fk_2_1, fk_2_2, fk_2_3, fk_2_4, fk_2_5, fk_2_6, fk_2_7, fk_2_8, fk_2_9, fk_10_0, fk_10_1, fk_10_2, fk_10_3, fk_10_4, fk_10_5, fk_10_6, fk_10_7, fk_10_8, fk_10_9, fk_18_0, fk_18_1, fk_19_0, fk_19_1, fk_19_2, fk_19_3, fk_19_4, fk_19_5, fk_19_6, fk_19_7, fk_19_8, fk_19_9, fk_27_0, fk_27_1, fk_27_2, fk_27_3, fk_27_4, fk_32_0, fk_32_1, fk_32_2, fk_32_3, fk_36_0, fk_36_1, fk_36_2, fk_36_3, fk_38_0, fk_38_1, fk_38_2, fk_38_3, fk_40_0, fk_40_1, fk_40_2, fk_40_3, fk_42_0, fk_42_1, fk_42_2, fk_42_3, fk_44_0, fk_44_1, fk_44_2, fk_44_3, fk_44_4, fk_44_5, fk_44_6, fk_44_7, fk_44_8, fk_44_9, fk_44_10, fk_44_11, fk_44_12, fk_44_13, fk_44_14, fk_44_15, fk_44_16, fk_44_17, fk_44_18, fk_44_19, fk_44_20, fk_44_21, fk_44_22, fk_44_23, fk_44_24, fk_44_25, fk_44_26, fk_44_27, fk_44_28, fk_44_29, fk_44_30, fk_44_31, fk_44_32, fk_44_33, as_1, as_3, as_4, as_5, as_6, as_7, as_8, as_9, as_11, as_12, as_13, as_14, as_15, as_16, as_17, as_20, as_21, as_22, as_23, as_24, as_25, as_26, as_28, as_29, as_30, as_31, as_33, as_34, as_35, as_37, as_39, as_41, as_43, as_45, as_46, as_47, as_48, as_49, as_50, as_51, as_52, as_53, as_54, as_55, as_56, as_57, as_58, as_59, as_60, as_61, as_62, as_63, as_64, as_65, as_66, oc_0, oc_2, oc_10, oc_18, oc_19, oc_27, oc_32, oc_36, oc_38, oc_40, oc_42, oc_44, rk_1_0, rk_1_1, rk_1_2, rk_1_3, pz_ro0, eL, g, e0, hx]
  match j, hj with
  | 0, _ => rw [lw_t0]; exact lw_0 h hL hl K8
  | 1, _ => rw [lw_t1]; exact lw_1 h hL hl K8
  | 2, _ => rw [lw_t2]; exact lw_2 h hL hl K8
  | 3, _ => rw [lw_t3]; exact lw_3 h hL hl K8
  | 4, _ => rw [lw_t4]; exact lw_4 h hL hl K8
  | 5, _ => rw [lw_t5]; exact lw_5 h hL hl K8
  | 6, _ => rw [lw_t6]; exact lw_6 h hL hl K8
  | 7, _ => rw [lw_t7]; exact lw_7 h hL hl K8
  | 8, _ => rw [lw_t8]; exact lw_8 h hL hl K8
  | 9, _ => rw [lw_t9]; exact lw_9 h hL hl K8
  | 10, _ => rw [lw_t10]; exact lw_10 h hL hl K8
  | 11, _ => rw [lw_t11]; exact lw_11 h hL hl K8
  | 12, _ => rw [lw_t12]; exact lw_12 h hL hl K8
  | 13, _ => rw [lw_t13]; exact lw_13 h hL hl K8
  | 14, _ => rw [lw_t14]; exact lw_14 h hL hl K8
  | 15, _ => rw [lw_t15]; exact lw_15 h hL hl K8
  | 16, _ => rw [lw_t16]; exact lw_16 h hL hl K8
  | 17, _ => rw [lw_t17]; exact lw_17 h hL hl K8
  | 18, _ => rw [lw_t18]; exact lw_18 h hL hl K8
  | 19, _ => rw [lw_t19]; exact lw_19 h hL hl K8
  | 20, _ => rw [lw_t20]; exact lw_20 h hL hl K8
  | 21, _ => rw [lw_t21]; exact lw_21 h hL hl K8
  | 22, _ => rw [lw_t22]; exact lw_22 h hL hl K8
  | 23, _ => rw [lw_t23]; exact lw_23 h hL hl K8
  | 24, _ => rw [lw_t24]; exact lw_24 h hL hl K8
  | 25, _ => rw [lw_t25]; exact lw_25 h hL hl K8
  | 26, _ => rw [lw_t26]; exact lw_26 h hL hl K8
  | 27, _ => rw [lw_t27]; exact lw_27 h hL hl K8
  | 28, _ => rw [lw_t28]; exact lw_28 h hL hl K8
  | 29, _ => rw [lw_t29]; exact lw_29 h hL hl K8
  | 30, _ => rw [lw_t30]; exact lw_30 h hL hl K8
  | 31, _ => rw [lw_t31]; exact K8 M J (pzInv_up h)
  | j + 32, hj => exact absurd hj (by omega)
end OP
