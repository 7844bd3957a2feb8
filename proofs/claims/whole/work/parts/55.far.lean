set_option maxRecDepth 100000 in
set_option maxHeartbeats 4000000 in
theorem xL_toInt {x : Int} (h : -4000000000 ≤ x ∧ x ≤ 4000000000) : (Int64.ofInt x).toInt = x := by
  rw [Int64.toInt_ofInt, Int.bmod_eq_of_le (by simp only [Int64.size]; omega) (by simp only [Int64.size]; omega)]
set_option maxRecDepth 100000 in
set_option maxHeartbeats 4000000 in
theorem xI_toInt {x : Int} (h : -2000000000 ≤ x ∧ x ≤ 2000000000) : (Int32.ofInt x).toInt = x := by
  rw [Int32.toInt_ofInt, Int.bmod_eq_of_le (by simp only [Int32.size]; omega) (by simp only [Int32.size]; omega)]
set_option maxRecDepth 100000 in
set_option maxHeartbeats 4000000 in
theorem xL_mul {a : Nat} {w : Int} (ha : a ≤ 8) (hw : -15 ≤ w ∧ w ≤ 15) : (nI a * Int32.ofInt w).toInt64 = Int64.ofInt ((a : Int) * w) := by
  rw [xO_nI, ← Int32.ofInt_mul]
  have e : a = 0 ∨ a = 1 ∨ a = 2 ∨ a = 3 ∨ a = 4 ∨ a = 5 ∨ a = 6 ∨ a = 7 ∨ a = 8 := by omega
  apply xL_i2l
  · rcases e with rfl | rfl | rfl | rfl | rfl | rfl | rfl | rfl | rfl <;> omega
  · rcases e with rfl | rfl | rfl | rfl | rfl | rfl | rfl | rfl | rfl <;> omega
set_option maxRecDepth 100000 in
set_option maxHeartbeats 4000000 in
theorem xL_abs {v : Int} (h : -2000000000 ≤ v ∧ v ≤ 2000000000) : (if 0 < Int64.ofInt v then Int64.ofInt v else -Int64.ofInt v) = Int64.ofInt (v.natAbs : Int) := by
  have e : (0 < Int64.ofInt v) = (0 < v) := by
    rw [Int64.lt_iff_toInt_lt, xL_toInt (by omega)]
    rfl
  by_cases hv : 0 < v
  · rw [if_pos (by rw [e]; exact hv)]
    congr 1
    omega
  · rw [if_neg (by rw [e]; exact hv), ← Int64.ofInt_neg]
    congr 1
    omega
set_option maxRecDepth 100000 in
set_option maxHeartbeats 4000000 in
theorem xL_ge {a b : Nat} (ha : a ≤ 2000000000) (hb : b ≤ 2000000000) : (0 ≤ lg_cmp (Int64.ofInt (a : Int)) (Int64.ofInt (b : Int))) = (b ≤ a) := by
  apply propext
  rw [lg_cmp_ge, Int64.le_iff_toInt_le, xL_toInt (by omega), xL_toInt (by omega)]
  omega
set_option maxRecDepth 100000 in
set_option maxHeartbeats 4000000 in
theorem xL_l2i {a : Nat} : (Int64.ofInt (a : Int)).toInt32 = nI a := by
  rw [xO_nI]
  apply Int32.toBitVec_inj.mp
  simp
set_option maxRecDepth 100000 in
set_option maxHeartbeats 4000000 in
theorem xI_ap {a b : Int} (ha : -100000000 ≤ a ∧ a ≤ 100000000) (hb : -100000000 ≤ b ∧ b ≤ 100000000) : (if Int32.ofInt b ≤ Int32.ofInt a then Int32.ofInt a - Int32.ofInt b else Int32.ofInt b - Int32.ofInt a) = nI (a - b).natAbs := by
  have e : (Int32.ofInt b ≤ Int32.ofInt a) = (b ≤ a) := by
    rw [Int32.le_iff_toInt_le, xI_toInt (by omega), xI_toInt (by omega)]
  rw [xO_nI]
  by_cases hv : b ≤ a
  · rw [if_pos (by rw [e]; exact hv), ← Int32.ofInt_sub]
    congr 1
    omega
  · rw [if_neg (by rw [e]; exact hv), ← Int32.ofInt_sub]
    congr 1
    omega
def zlin (c0 w1 w2 : Int) (u t : Nat) : Int := c0 + ((u - t : Nat) : Int) * w1 + (t : Int) * w2
def zfar (c1 c2 c3 r1 r2 r3 xx yy : Int) (u t : Nat) : Nat := (zlin c1 c2 c3 u t - xx).natAbs + (zlin r1 r2 r3 u t - yy).natAbs
def zbb (g : Nat → Nat) : Nat → Nat × Nat
  | 0 => (g 0, 0)
  | t + 1 => if g (t + 1) < (zbb g t).1 then (g (t + 1), t + 1) else zbb g t
set_option maxRecDepth 100000 in
set_option maxHeartbeats 4000000 in
theorem zbb_le (g : Nat → Nat) {B : Nat} (h : ∀ t, t ≤ 8 → g t ≤ B) : ∀ t, t ≤ 8 → (zbb g t).1 ≤ B ∧ (zbb g t).2 ≤ t
  | 0, ht => ⟨h 0 ht, Nat.le_refl _⟩
  | t + 1, ht => by
    have ih := zbb_le g h t (by omega)
    unfold zbb
    split
    · exact ⟨h _ ht, Nat.le_refl _⟩
    · exact ⟨ih.1, by omega⟩
set_option maxRecDepth 100000 in
set_option maxHeartbeats 4000000 in
theorem zlin_b {c0 w1 w2 : Int} {u t : Nat} (hu : u ≤ 8) (ht : t ≤ u) (h0 : -2000000 ≤ c0 ∧ c0 ≤ 2000000) (h1 : -15 ≤ w1 ∧ w1 ≤ 15) (h2 : -15 ≤ w2 ∧ w2 ≤ 15) : -2001000 ≤ zlin c0 w1 w2 u t ∧ zlin c0 w1 w2 u t ≤ 2001000 := by
  unfold zlin
  have e : t = 0 ∨ t = 1 ∨ t = 2 ∨ t = 3 ∨ t = 4 ∨ t = 5 ∨ t = 6 ∨ t = 7 ∨ t = 8 := by omega
  have e2 : u - t = 0 ∨ u - t = 1 ∨ u - t = 2 ∨ u - t = 3 ∨ u - t = 4 ∨ u - t = 5 ∨ u - t = 6 ∨ u - t = 7 ∨ u - t = 8 := by omega
  rcases e2 with e2 | e2 | e2 | e2 | e2 | e2 | e2 | e2 | e2 <;> rw [e2] <;> rcases e with rfl | rfl | rfl | rfl | rfl | rfl | rfl | rfl | rfl <;> omega
set_option maxRecDepth 100000 in
set_option maxHeartbeats 4000000 in
theorem xI_lin {c0 w1 w2 : Int} {u t : Nat} (ht : t ≤ u) : Int32.ofInt c0 + (nI u - nI t) * Int32.ofInt w1 + nI t * Int32.ofInt w2 = Int32.ofInt (zlin c0 w1 w2 u t) := by
  unfold zlin
  rw [pk_sub ht, xO_nI, xO_nI, ← Int32.ofInt_mul, ← Int32.ofInt_mul, ← Int32.ofInt_add, ← Int32.ofInt_add]
set_option maxRecDepth 100000 in
set_option maxHeartbeats 4000000 in
theorem xI_oft (x : Int32) : x = Int32.ofInt x.toInt := (Int32.ofInt_toInt x).symm
section OP
variable {X : pzX} {d i : Nat} {M : pzM} {J : pzJ} {Q : Option Value → List pzS → pzM → pzJ → Prop} {n noon hour : Nat} {k s w : Nat → Nat} {m : Nat → Option Nat} {f : Nat → Bool} {c r : Nat → Int}
set_option maxRecDepth 100000 in
set_option maxHeartbeats 4000000 in
theorem sp_farAfter {p q u t : Nat} {xx yy : Int} (h : RR (M 2 0) (M 2 1) (M 2 2) (M 3) (M 4) (M 5) (M 6) (M 7) n noon hour k s w m f) (hw : WF n noon k s w m f) (hl : RLc (J 8) (J 9) n c r) (hp : p < n) (hm : m p = some q) (hu : u ≤ 8) (ht : t ≤ u) (hx : -99 ≤ xx ∧ xx ≤ 99) (hy : -99 ≤ yy ∧ yy ≤ 99) (hc : -1000000 ≤ c p ∧ c p ≤ 1000000 ∧ -1000000 ≤ r p ∧ r p ≤ 1000000) : pz_wp X (d + 2) 29 (pz_blk 29 0) [some (.ref 2), some (.int (nI p)), some (.int (nI (u - t))), some (.int (nI t)), some (.int (Int32.ofInt xx)), some (.int (Int32.ofInt yy)), none, none, none, none, none] [] pzS0 M J Q = Q (some (.long (Int64.ofInt (zfar (c p) (zwC k s w p q) (zwC k s w q p) (r p) (zwR k s w p q) (zwR k s w q p) xx yy u t : Int)))) pzS0 M J := by
  have hn := hw.1
  obtain ⟨q1, -⟩ := hw.2.2.1 p hp q hm
  have e := xI_ix (show p < 8 by omega) (by decide)
  have px := (h.2.2.2 p hp).2.2.2.1
  rw [hm] at px
  have px : M 6 p = nI q := px
  obtain ⟨cx, rx⟩ := hl p hp
  have w1 := hw.2.1 p hp
  have w2 := hw.2.1 q q1
  have b1 := zwC_b (k := k) (w := w) w1.2.1 w2.2.1
  have b2 := zwC_b (k := k) (w := w) w2.2.1 w1.2.1
  have b3 := zwR_b (k := k) (w := w) w1.2.1 w2.2.1
  have b4 := zwR_b (k := k) (w := w) w2.2.1 w1.2.1
  have m1 := xL_mul (a := u - t) (by omega) b1
  have m2 := xL_mul (a := t) (by omega) b2
  have m3 := xL_mul (a := u - t) (by omega) b3
  have m4 := xL_mul (a := t) (by omega) b4
  have i1 := xL_i2l (x := xx) (by omega) (by omega)
  have i2 := xL_i2l (x := yy) (by omega) (by omega)
  have l1 : Int64.ofInt (c p) + Int64.ofInt (((u - t : Nat) : Int) * zwC k s w p q) + Int64.ofInt ((t : Int) * zwC k s w q p) - Int64.ofInt xx = Int64.ofInt (zlin (c p) (zwC k s w p q) (zwC k s w q p) u t - xx) := by
    unfold zlin
    rw [← Int64.ofInt_add, ← Int64.ofInt_add, ← Int64.ofInt_sub]
  have l2 : Int64.ofInt (r p) + Int64.ofInt (((u - t : Nat) : Int) * zwR k s w p q) + Int64.ofInt ((t : Int) * zwR k s w q p) - Int64.ofInt yy = Int64.ofInt (zlin (r p) (zwR k s w p q) (zwR k s w q p) u t - yy) := by
    unfold zlin
    rw [← Int64.ofInt_add, ← Int64.ofInt_add, ← Int64.ofInt_sub]
  have z1 := zlin_b (c0 := c p) hu ht (by omega) b1 b2
  have z2 := zlin_b (c0 := r p) hu ht (by omega) b3 b4
  have a1 := xL_abs (v := zlin (c p) (zwC k s w p q) (zwC k s w q p) u t - xx) (by omega)
  have a2 := xL_abs (v := zlin (r p) (zwR k s w p q) (zwR k s w q p) u t - yy) (by omega)
  simp (decide := true) only [w_ft, w_goto, w_icmp_eq, w_if_eq, w_icmp_ne, w_if_ne, w_icmp_lt, w_if_lt, w_icmp_ge, w_if_ge, w_icmp_gt, w_if_gt, w_icmp_le, w_if_le, w_iconst, w_bipush, w_sipush, w_ldc, w_ldc_w, w_ldc2, w_lconst, w_iload, w_lload, w_aload, w_iload_0, w_lload_0, w_aload_0, w_iload_1, w_lload_1, w_aload_1, w_iload_2, w_lload_2, w_aload_2, w_iload_3, w_lload_3, w_aload_3, w_istore, w_lstore, w_astore, w_istore_0, w_lstore_0, w_astore_0, w_istore_1, w_lstore_1, w_astore_1, w_istore_2, w_lstore_2, w_astore_2, w_istore_3, w_lstore_3, w_astore_3, pz_lk0, pz_lkn, pz_lks, pz_st0i, pz_st0r, pz_st0l, pz_sts, pz_kln, pz_kli, pz_klr, pz_kla, pz_kll, pz_al0, pz_ali, pz_alr, pz_all, pz_tk0, pz_tks, pz_rc0, pz_rc1, pz_cati, pz_catr, pz_cata, pz_catl, pz_mkL, pz_ct_s, pz_ct_n, w_iinc, w_iadd, w_isub, w_imul, w_iand, w_ior, w_ishl, w_iushr, w_idiv, w_irem, w_ineg, w_ladd, w_lsub, w_ldiv, w_lrem, w_lneg, w_lcmp, w_i2l, w_l2i, w_i2b, w_i2s, w_dup_r, w_dup_i, w_dup2, w_getfield, w_putI, w_getstatic, w_slen, w_iaload, w_baload, w_laload, w_iaro, w_aaload, w_iastore, w_lastore, w_bastore, w_ireturn, w_zr0, w_zr1, w_zrb, w_lreturn, w_return, w_callv, w_calls, w_abs, w_labs, w_min, w_tsw, w_lsw, pz_sr_self, pz_sr_ne, pz_srJ_self, pz_srJ_ne, List.map_cons, List.map_nil, List.sum_cons, List.sum_nil, List.length_cons, List.length_nil, List.cons_append, List.nil_append, List.append_nil, List.replicate_succ, List.replicate_zero, Nat.reduceAdd, Nat.reduceMod, Nat.reduceDiv, Nat.reduceSub, Nat.reduceLT, Nat.reduceLeDiff, Nat.reduceEqDiff, ↓reduceIte, if_true, if_false, true_and, and_true, true_or, or_true, false_or, or_false, Nat.zero_add, Nat.add_zero, not_true_eq_false, not_false_eq_true, Int32.reduceLT, Int32.reduceLE, Int32.reduceAdd, Int32.reduceSub, Nat.sub_self, Nat.le_refl, Nat.zero_le, eq_self, pz_b01, pz_b0, pz_b1, decide_true, Nat.lt_add_one, Option.some.injEq, Nat.not_lt, and_self, or_self, Nat.zero_lt_succ, Nat.succ_ne_zero, reduceCtorEq, false_and, and_false, Nat.one_ne_zero, Nat.zero_ne_one, ne_eq, fk_0_0, fk_0_1, fk_0_2, fk_0_3, fk_0_4, fk_0_5, fk_0_6, fk_0_7, fk_2_0, fk_2_1, fk_2_2, fk_2_3, fk_2_4, fk_2_5, fk_2_6, fk_2_7, fk_2_8, fk_2_9, fk_10_0, fk_10_1, fk_10_2, fk_10_3, fk_10_4, fk_10_5, fk_10_6, fk_10_7, fk_10_8, fk_10_9, fk_18_0, fk_18_1, fk_19_0, fk_19_1, fk_19_2, fk_19_3, fk_19_4, fk_19_5, fk_19_6, fk_19_7, fk_19_8, fk_19_9, fk_27_0, fk_27_1, fk_27_2, fk_27_3, fk_27_4, fk_32_0, fk_32_1, fk_32_2, fk_32_3, fk_36_0, fk_36_1, fk_36_2, fk_36_3, fk_38_0, fk_38_1, fk_38_2, fk_38_3, fk_40_0, fk_40_1, fk_40_2, fk_40_3, fk_42_0, fk_42_1, fk_42_2, fk_42_3, fk_44_0, fk_44_1, fk_44_2, fk_44_3, fk_44_4, fk_44_5, fk_44_6, fk_44_7, fk_44_8, fk_44_9, fk_44_10, fk_44_11, fk_44_12, fk_44_13, fk_44_14, fk_44_15, fk_44_16, fk_44_17, fk_44_18, fk_44_19, fk_44_20, fk_44_21, fk_44_22, fk_44_23, fk_44_24, fk_44_25, fk_44_26, fk_44_27, fk_44_28, fk_44_29, fk_44_30, fk_44_31, fk_44_32, fk_44_33, as_1, as_3, as_4, as_5, as_6, as_7, as_8, as_9, as_11, as_12, as_13, as_14, as_15, as_16, as_17, as_20, as_21, as_22, as_23, as_24, as_25, as_26, as_28, as_29, as_30, as_31, as_33, as_34, as_35, as_37, as_39, as_41, as_43, as_45, as_46, as_47, as_48, as_49, as_50, as_51, as_52, as_53, as_54, as_55, as_56, as_57, as_58, as_59, as_60, as_61, as_62, as_63, as_64, as_65, as_66, oc_0, oc_2, oc_10, oc_18, oc_19, oc_27, oc_32, oc_36, oc_38, oc_40, oc_42, oc_44, rk_1_0, rk_1_1, rk_1_2, rk_1_3, bX1_farAfter_0, kX1_farAfter_0, e, px, cx, rx, sp_wayColumns_2 h hw hp q1, sp_wayColumns_2 h hw q1 hp, sp_wayRows_2 h hw hp q1, sp_wayRows_2 h hw q1 hp, m1, m2, m3, m4, i1, i2, l1, l2, a1, a2]
  rw [← Int64.ofInt_add]
  rfl
end OP
