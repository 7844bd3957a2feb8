section PZS
variable {p : Program} {l : Launch} {e : Env} {R : Room} {s : State} {m : MethodId} {args : Array Value} {below : List Frame} {meth : Method} {c : Code} {H : Heap} {locs : List Loc} {cells slots : Nat} {Q : State → Prop}
theorem pz_W_sz {g : JFrame} (k : H.size ≤ s.heap.size + cells → W p l e R s m args below meth c H locs cells slots Q g) : W p l e R s m args below meth c H locs cells slots Q g := fun T hT X => k (by rw [← hT]; exact X.same.2.2.1) T hT X
set_option maxHeartbeats 4000000 in
set_option maxRecDepth 100000 in
theorem pz_step {X : pzX} {G : pzG} {d k pc c0 s0 : Nat} {i : pzI} {is is' : List pzI} {ls ls' : pzL} {st st' : List Value} {S S' : List pzS} {M M' : pzM} {J J' : pzJ} {lsC : Array Slot}
    (C : pz_ctx X G p R s m args meth c d k) (hnx : pz_nx X d k i is ls st S M J = some (.inl (is', ls', st', S', M', J'))) (hok : pz_ok k pc (i :: is) = true)
    (hlen : ls.length = (pz_mt k).2.2.1) (hrel : pz_rel G s ls S M J lsC H locs) (h0 : s.heap.size = G.1 + c0 ∧ c0 ≤ S.length ∧ s0 ≤ pz_sl S) (hcap : S'.length - c0 ≤ R.cells ∧ pz_sl S' - s0 ≤ R.slots)
    (K : ∀ pc' lsC' H' locs', pz_ok k pc' is' = true → ls'.length = ls.length → pz_rel G s ls' S' M' J' lsC' H' locs' → W p l e R s m args below meth c H' locs' (S'.length - c0) (pz_sl S' - s0) Q (F0 m pc' lsC' (st'.map (pz_cz G)))) :
    W p l e R s m args below meth c H locs (S.length - c0) (pz_sl S - s0) Q (F0 m pc lsC (st.map (pz_cz G))) := by
  obtain ⟨hx, hb, hr, hml, hown, hts, hlocks, hnm, E, hfr, hlo⟩ := C
  obtain ⟨hl, hP, hsz, hS⟩ := id hrel
  have hK := E.1
  have hD := pz_D G S M J
  unfold pz_nx at hnx
  split at hnx
  · cases hnx
    unfold pz_ok at hok
    have e : _ = pc := of_decide_eq_true hok
    subst e
    exact K _ lsC H locs (pz_okb _ _) rfl hrel
  · obtain ⟨hd, hp, hk⟩ := pz_ok_cons (fun h => Instr.noConfusion h) hok
    cases hnx
    exact lv_goto hx hb hd (of_decide_eq_true hp) (K _ lsC H locs (pz_okb _ _) rfl hrel)
  · rename_i cnd off t _ _ _ y x r
    obtain ⟨hd, hp, hk⟩ := pz_ok_cons (fun h => Instr.noConfusion h) hok
    cases hnx
    have ht : (pc : Int) + off = (t : Int) := of_decide_eq_true hp
    cases cnd
    · exact lv_icmp_eq hx hb hd ht (fun h => K t lsC H locs (by rw [if_pos (by simp [pz_cnd, h])]; exact pz_okb _ _) rfl hrel) (fun h => K (pc + 3) lsC H locs (by rw [if_neg (by simp [pz_cnd, h])]; exact hk) rfl hrel)
    · exact lv_icmp_ne hx hb hd ht (fun h => K t lsC H locs (by rw [if_pos (by simp [pz_cnd, h])]; exact pz_okb _ _) rfl hrel) (fun h => K (pc + 3) lsC H locs (by rw [if_neg (by simp [pz_cnd, h])]; exact hk) rfl hrel)
    · exact lv_icmp_lt hx hb hd ht (fun h => K t lsC H locs (by rw [if_pos (by simp [pz_cnd, h])]; exact pz_okb _ _) rfl hrel) (fun h => K (pc + 3) lsC H locs (by rw [if_neg (by simp [pz_cnd, h])]; exact hk) rfl hrel)
    · exact lv_icmp_ge hx hb hd ht (fun h => K t lsC H locs (by rw [if_pos (by simp [pz_cnd, h])]; exact pz_okb _ _) rfl hrel) (fun h => K (pc + 3) lsC H locs (by rw [if_neg (by simp [pz_cnd, h])]; exact hk) rfl hrel)
    · exact lv_icmp_gt hx hb hd ht (fun h => K t lsC H locs (by rw [if_pos (by simp [pz_cnd, h])]; exact pz_okb _ _) rfl hrel) (fun h => K (pc + 3) lsC H locs (by rw [if_neg (by simp [pz_cnd, h])]; exact hk) rfl hrel)
    · exact lv_icmp_le hx hb hd ht (fun h => K t lsC H locs (by rw [if_pos (by simp [pz_cnd, h])]; exact pz_okb _ _) rfl hrel) (fun h => K (pc + 3) lsC H locs (by rw [if_neg (by simp [pz_cnd, h])]; exact hk) rfl hrel)
  · rename_i cnd off t _ _ _ x r
    obtain ⟨hd, hp, hk⟩ := pz_ok_cons (fun h => Instr.noConfusion h) hok
    cases hnx
    have ht : (pc : Int) + off = (t : Int) := of_decide_eq_true hp
    cases cnd
    · exact lv_if_eq hx hb hd ht (fun h => K t lsC H locs (by rw [if_pos (by simp [pz_cnd, h])]; exact pz_okb _ _) rfl hrel) (fun h => K (pc + 3) lsC H locs (by rw [if_neg (by simp [pz_cnd, h])]; exact hk) rfl hrel)
    · exact lv_if_ne hx hb hd ht (fun h => K t lsC H locs (by rw [if_pos (by simp [pz_cnd, h])]; exact pz_okb _ _) rfl hrel) (fun h => K (pc + 3) lsC H locs (by rw [if_neg (by simp [pz_cnd, h])]; exact hk) rfl hrel)
    · exact lv_if_lt hx hb hd ht (fun h => K t lsC H locs (by rw [if_pos (by simp [pz_cnd, h])]; exact pz_okb _ _) rfl hrel) (fun h => K (pc + 3) lsC H locs (by rw [if_neg (by simp [pz_cnd, h])]; exact hk) rfl hrel)
    · exact lv_if_ge hx hb hd ht (fun h => K t lsC H locs (by rw [if_pos (by simp [pz_cnd, h])]; exact pz_okb _ _) rfl hrel) (fun h => K (pc + 3) lsC H locs (by rw [if_neg (by simp [pz_cnd, h])]; exact hk) rfl hrel)
    · exact lv_if_gt hx hb hd ht (fun h => K t lsC H locs (by rw [if_pos (by simp [pz_cnd, h])]; exact pz_okb _ _) rfl hrel) (fun h => K (pc + 3) lsC H locs (by rw [if_neg (by simp [pz_cnd, h])]; exact hk) rfl hrel)
    · exact lv_if_le hx hb hd ht (fun h => K t lsC H locs (by rw [if_pos (by simp [pz_cnd, h])]; exact pz_okb _ _) rfl hrel) (fun h => K (pc + 3) lsC H locs (by rw [if_neg (by simp [pz_cnd, h])]; exact hk) rfl hrel)
  · rename_i df lo hi offs pcx _ _ _ x r
    obtain ⟨hd, hp, hk⟩ := pz_ok_cons (fun h => Instr.noConfusion h) hok
    have e : pcx = pc := of_decide_eq_true hp
    subst e
    split at hnx
    · rename_i t ht
      cases hnx
      unfold pz_tsw at ht
      split at ht
      · rename_i hc
        unfold pz_to at ht
        split at ht
        · cases ht
        · cases ht
          exact lv_tableOut hx hb hd hc (by omega) (K _ lsC H locs (pz_okb _ _) rfl hrel)
      · rename_i hc
        split at ht
        · rename_i off ho
          unfold pz_to at ht
          split at ht
          · cases ht
          · cases ht
            exact lv_tableIn hx hb hd (fun z => hc (Or.inl z)) (fun z => hc (Or.inr z)) ho (by omega) (K _ lsC H locs (pz_okb _ _) rfl hrel)
        · cases ht
    · cases hnx
  · rename_i df ps pcx _ _ _ x r
    obtain ⟨hd, hp, hk⟩ := pz_ok_cons (fun h => Instr.noConfusion h) hok
    have hp2 : (decide (pcx = pc) && (ps.toList.zip (ps.toList.drop 1)).all (fun (a, next) => a.1 < next.1)) = true := hp
    rw [Bool.and_eq_true] at hp2
    have e : pcx = pc := of_decide_eq_true hp2.1
    subst e
    split at hnx
    · rename_i t ht
      cases hnx
      unfold pz_lsw pz_to at ht
      split at ht
      · cases ht
      · cases ht
        exact lv_lookup hx hb hd hp2.2 rfl (by omega) (K _ lsC H locs (pz_okb _ _) rfl hrel)
    · cases hnx
  · split at hnx <;> cases hnx
  · cases hnx
  · cases hnx
  · unfold pz_ca at hnx
    split at hnx
    · split at hnx <;> cases hnx
    · cases hnx
  · rename_i xi kk na cx vx
    obtain ⟨hd, hp, hk⟩ := pz_ok_cons (fun h => Instr.noConfusion h) hok
    split at hnx
    · rename_i h9
      have hp : (if kk = 998 then pzLAC.any (fun q => q.1 == (pz_mt k).2.2.2.2 && q.2.1 == xi) else if 900 ≤ kk then pzLMA.any (fun q => q.1 == (pz_mt k).2.2.2.2 && q.2.1 == xi && q.2.2.1 == kk) else pzLS.any (fun q => q.1 == (pz_mt k).2.2.2.2 && q.2.1 == xi && q.2.2.1 == kk) && pz_cl_ k kk na cx) = true := hp
      split at hnx
      · rename_i d' r M1 hsp
        cases hnx
        have hfr1 : 1 ≤ R.frames := by omega
        have hlo1 : 64 ≤ R.locals := by omega
        have hmls : c.maxLocals = lsC.size := by rw [hml, hl.1, hlen]
        unfold pz_sp at hsp
        split at hsp
        · rename_i h998
          rw [if_pos h998] at hp
          obtain ⟨q, hq, hqe⟩ := pz_any hp
          simp only [Bool.and_eq_true, beq_iff_eq] at hqe
          have hlk := pz_lac_ok q hq
          rw [hqe.1, hqe.2] at hlk
          unfold pz_cp at hsp
          split at hsp
          · rename_i n dp a1 sp a0 r
            split at hsp
            · rename_i n0 n1 ha0 ha1
              obtain ⟨rs0, e0⟩ := pz_as_get ha0
              obtain ⟨rs1, e1⟩ := pz_as_get ha1
              split at hsp
              · rename_i hcn
                obtain ⟨g1, g2, g3, g4, g5, g6⟩ := hcn
                cases hsp
                refine va_copyi (f := M a0) (g := M a1) (ty := .int) hx hb hmls hown (hts _ (pz_gw _ hlk rfl)) (hts _ pz_an) (hts _ pz_at) (hts _ pz_si) hK hP hD (pz_S_rf hS) a0 a1 0 0 (pz_ws_get e0) (pz_ws_get e1) rfl rfl rfl g1 g2 g3 g4 g5 (fun _ _ => rfl) hfr1 ?_ hd (fun H1 locs1 hP1 hD1 hS1 => ?_)
                · rw [pz_cz_sum]
                  have : nativeFrameWords "java/lang/System" "arraycopy" 5 ≤ 40 := by decide
                  omega
                · rw [pz_ws_setM e1 (Or.inl rfl)] at hP1
                  exact K _ lsC H1 locs1 hk rfl ⟨hl, hP1, Nat.le_trans hsz hS1.1, pz_S_tr hS hS1⟩
              · cases hsp
            · cases hsp
          · cases hsp
        · rename_i h998
          rw [if_neg h998, if_pos h9] at hp
          obtain ⟨q, hq, hqe⟩ := pz_any hp
          simp only [Bool.and_eq_true, beq_iff_eq] at hqe
          have hlk := (pz_lma_ok q hq).2
          rw [hqe.1.1, hqe.1.2, hqe.2] at hlk
          split at hsp
          · rename_i h997
            subst h997
            split at hsp
            · split at hsp
              · rename_i g6
                cases hsp
                exact va_mabs hx hb hmls hown (hts _ (pz_gw _ hlk rfl)) (hts _ pz_ms997) (hts _ pz_mi) (hts _ pz_mc997) hfr1 (by rw [pz_cz_sum]; omega) hcap.1 hcap.2 hd (K _ lsC H locs hk rfl hrel)
              · cases hsp
            · cases hsp
          · rename_i h997
            split at hsp
            · rename_i h996
              subst h996
              split at hsp
              · split at hsp
                · rename_i g6
                  cases hsp
                  exact va_mabs_long hx hb hmls hown (hts _ (pz_gw _ hlk rfl)) (hts _ pz_ms996) (hts _ pz_mi) (hts _ pz_mc996) hfr1 (by rw [pz_cz_sum]; omega) hcap.1 hcap.2 hd (K _ lsC H locs hk rfl hrel)
                · cases hsp
              · cases hsp
            · rename_i h996
              split at hsp
              · rename_i h995
                subst h995
                split at hsp
                · split at hsp
                  · rename_i g6
                    cases hsp
                    exact va_mmin hx hb hmls hown (hts _ (pz_gw _ hlk rfl)) (hts _ pz_ms995) (hts _ pz_mi) (hts _ pz_mc995) hfr1 (by rw [pz_cz_sum]; omega) hcap.1 hcap.2 hd (K _ lsC H locs hk rfl hrel)
                  · cases hsp
                · cases hsp
              · cases hsp
      · cases hnx
    · unfold pz_ca at hnx
      split at hnx
      · split at hnx <;> cases hnx
      · cases hnx
  · rename_i xi kk na cx vx
    obtain ⟨hd, hp, hk⟩ := pz_ok_cons (fun h => Instr.noConfusion h) hok
    split at hnx
    · rename_i h9
      subst h9
      obtain ⟨q, hq, hqe⟩ := pz_any (show pzLO.any (fun q => q.1 == (pz_mt k).2.2.2.2 && q.2.1 == xi) = true from hp)
      simp only [Bool.and_eq_true, beq_iff_eq] at hqe
      have hlk := pz_lo_ok q hq
      rw [hqe.1, hqe.2] at hlk
      split at hnx
      · split at hnx
        · rename_i g6
          cases hnx
          refine W.objInit hx hb hown (hts _ (pz_gw _ hlk rfl)) (hts _ pz_oi) (hts _ pz_oc_) rfl (by rw [hml, ← hlen]; exact hl.1) rfl hd (by omega) ?_ ?_
          · rw [pz_cz_sum]
            show 2 * 0 + _ + 12 ≤ _
            omega
          · exact K _ lsC H locs hk rfl hrel
        · cases hnx
      · cases hnx
    · unfold pz_ca at hnx
      split at hnx
      · split at hnx <;> cases hnx
      · cases hnx
  · obtain ⟨hd, hp, hk⟩ := pz_ok_cons (fun h => Instr.noConfusion h) hok
    cases hnx
    exact lv_iconst hx hb hd (of_decide_eq_true hp) (K _ lsC H locs hk rfl hrel)
  · obtain ⟨hd, hp, hk⟩ := pz_ok_cons (fun h => Instr.noConfusion h) hok
    cases hnx
    exact lv_bipush hx hb hd (of_decide_eq_true hp) (K _ lsC H locs hk rfl hrel)
  · obtain ⟨hd, hp, hk⟩ := pz_ok_cons (fun h => Instr.noConfusion h) hok
    cases hnx
    exact lv_sipush hx hb hd (of_decide_eq_true hp) (K _ lsC H locs hk rfl hrel)
  · obtain ⟨hd, hp, hk⟩ := pz_ok_cons (fun h => Instr.noConfusion h) hok
    cases hnx
    obtain ⟨q, hq, hqe⟩ := pz_any hp
    simp only [Bool.and_eq_true, beq_iff_eq, decide_eq_true_eq] at hqe
    have hlk := pz_lki_ok q hq
    rw [hqe.1.1, hqe.1.2, hqe.2] at hlk
    exact lv_ldc hx hb hown (hts _ (pz_gw _ hlk rfl)) hd (K _ lsC H locs hk rfl hrel)
  · obtain ⟨hd, hp, hk⟩ := pz_ok_cons (fun h => Instr.noConfusion h) hok
    cases hnx
    obtain ⟨q, hq, hqe⟩ := pz_any hp
    simp only [Bool.and_eq_true, beq_iff_eq, decide_eq_true_eq] at hqe
    have hlk := pz_lki_ok q hq
    rw [hqe.1.1, hqe.1.2, hqe.2] at hlk
    exact lv_ldcw hx hb hown (hts _ (pz_gw _ hlk rfl)) hd (K _ lsC H locs hk rfl hrel)
  · obtain ⟨hd, hp, hk⟩ := pz_ok_cons (fun h => Instr.noConfusion h) hok
    cases hnx
    obtain ⟨q, hq, hqe⟩ := pz_any hp
    simp only [Bool.and_eq_true, beq_iff_eq, decide_eq_true_eq] at hqe
    have hlk := pz_lkl_ok q hq
    rw [hqe.1.1, hqe.1.2, hqe.2] at hlk
    exact lv_ldc2 hx hb hown (hts _ (pz_gw _ hlk rfl)) hd (K _ lsC H locs hk rfl hrel)
  · obtain ⟨hd, hp, hk⟩ := pz_ok_cons (fun h => Instr.noConfusion h) hok
    cases hnx
    exact lv_lconst hx hb hd rfl (K _ lsC H locs hk rfl hrel)
  · obtain ⟨hd, hp, hk⟩ := pz_ok_cons (fun h => Instr.noConfusion h) hok
    split at hnx
    · rename_i hlk
      cases hnx
      exact lv_iload_n hx hb hd rfl (pz_lk_at hl hlk) (K _ lsC H locs hk rfl hrel)
    · cases hnx
  · obtain ⟨hd, hp, hk⟩ := pz_ok_cons (fun h => Instr.noConfusion h) hok
    split at hnx
    · rename_i hlk
      cases hnx
      exact lv_iload hx hb hd (pz_lk_at hl hlk) (K _ lsC H locs hk rfl hrel)
    · cases hnx
  · obtain ⟨hd, hp, hk⟩ := pz_ok_cons (fun h => Instr.noConfusion h) hok
    split at hnx
    · rename_i hlk
      cases hnx
      exact lv_lload_n hx hb hd rfl (pz_lk_at hl hlk) (K _ lsC H locs hk rfl hrel)
    · cases hnx
  · obtain ⟨hd, hp, hk⟩ := pz_ok_cons (fun h => Instr.noConfusion h) hok
    split at hnx
    · rename_i hlk
      cases hnx
      exact lv_lload hx hb hd (pz_lk_at hl hlk) (K _ lsC H locs hk rfl hrel)
    · cases hnx
  · obtain ⟨hd, hp, hk⟩ := pz_ok_cons (fun h => Instr.noConfusion h) hok
    split at hnx
    · rename_i hlk
      cases hnx
      exact lv_aload_n hx hb hd rfl (pz_lk_at hl hlk) (K _ lsC H locs hk rfl hrel)
    · rename_i hlk
      cases hnx
      exact lv_aload_n hx hb hd rfl (pz_lk_at hl hlk) (K _ lsC H locs hk rfl hrel)
    · cases hnx
  · obtain ⟨hd, hp, hk⟩ := pz_ok_cons (fun h => Instr.noConfusion h) hok
    split at hnx
    · rename_i hlk
      cases hnx
      exact lv_aload hx hb hd (pz_lk_at hl hlk) (K _ lsC H locs hk rfl hrel)
    · rename_i hlk
      cases hnx
      exact lv_aload hx hb hd (pz_lk_at hl hlk) (K _ lsC H locs hk rfl hrel)
    · cases hnx
  · obtain ⟨hd, hp, hk⟩ := pz_ok_cons (fun h => Instr.noConfusion h) hok
    split at hnx
    · rename_i hlt
      cases hnx
      exact lv_istore_n hx hb hd rfl hl hlt rfl (fun ls1 hl1 => K _ ls1 H locs hk (pz_st_len _ _ _) ⟨by rw [pz_st_len]; exact pz_st_has1 rfl hl1, hP, hsz, hS⟩)
    · cases hnx
  · obtain ⟨hd, hp, hk⟩ := pz_ok_cons (fun h => Instr.noConfusion h) hok
    split at hnx
    · rename_i hlt
      cases hnx
      exact lv_istore hx hb hd hl hlt rfl (fun ls1 hl1 => K _ ls1 H locs hk (pz_st_len _ _ _) ⟨by rw [pz_st_len]; exact pz_st_has1 rfl hl1, hP, hsz, hS⟩)
    · cases hnx
  · obtain ⟨hd, hp, hk⟩ := pz_ok_cons (fun h => Instr.noConfusion h) hok
    split at hnx
    · rename_i hlt
      cases hnx
      exact lv_lstore_n hx hb hd rfl hl hlt rfl (fun ls1 hl1 => K _ ls1 H locs hk (pz_st_len _ _ _) ⟨by rw [pz_st_len]; exact pz_st_has2 rfl hl1, hP, hsz, hS⟩)
    · cases hnx
  · obtain ⟨hd, hp, hk⟩ := pz_ok_cons (fun h => Instr.noConfusion h) hok
    split at hnx
    · rename_i hlt
      cases hnx
      exact lv_lstore hx hb hd hl hlt rfl (fun ls1 hl1 => K _ ls1 H locs hk (pz_st_len _ _ _) ⟨by rw [pz_st_len]; exact pz_st_has2 rfl hl1, hP, hsz, hS⟩)
    · cases hnx
  · obtain ⟨hd, hp, hk⟩ := pz_ok_cons (fun h => Instr.noConfusion h) hok
    split at hnx
    · rename_i hlt
      cases hnx
      exact lv_astore_n hx hb hd rfl hl hlt rfl (fun ls1 hl1 => K _ ls1 H locs hk (pz_st_len _ _ _) ⟨by rw [pz_st_len]; exact pz_st_has1 rfl hl1, hP, hsz, hS⟩)
    · cases hnx
  · obtain ⟨hd, hp, hk⟩ := pz_ok_cons (fun h => Instr.noConfusion h) hok
    split at hnx
    · rename_i hlt
      cases hnx
      exact lv_astore hx hb hd hl hlt rfl (fun ls1 hl1 => K _ ls1 H locs hk (pz_st_len _ _ _) ⟨by rw [pz_st_len]; exact pz_st_has1 rfl hl1, hP, hsz, hS⟩)
    · cases hnx
  · obtain ⟨hd, hp, hk⟩ := pz_ok_cons (fun h => Instr.noConfusion h) hok
    split at hnx
    · rename_i hlk
      split at hnx
      · rename_i hlt
        cases hnx
        obtain ⟨j, hj⟩ := pz_lk_mem (G := G) hlk
        exact lv_iinc hx hb hd hl hj (by rw [of_decide_eq_true hp]) hlt rfl (fun ls1 hl1 => K _ ls1 H locs hk (pz_st_len _ _ _) ⟨by rw [pz_st_len]; exact pz_st_has1 rfl hl1, hP, hsz, hS⟩)
      · cases hnx
    · cases hnx
  · obtain ⟨hd, hp, hk⟩ := pz_ok_cons (fun h => Instr.noConfusion h) hok
    cases hnx
    exact lv_iadd hx hb hd (K _ lsC H locs hk rfl hrel)
  · obtain ⟨hd, hp, hk⟩ := pz_ok_cons (fun h => Instr.noConfusion h) hok
    cases hnx
    exact lv_isub hx hb hd (K _ lsC H locs hk rfl hrel)
  · obtain ⟨hd, hp, hk⟩ := pz_ok_cons (fun h => Instr.noConfusion h) hok
    cases hnx
    exact lv_imul hx hb hd (K _ lsC H locs hk rfl hrel)
  · obtain ⟨hd, hp, hk⟩ := pz_ok_cons (fun h => Instr.noConfusion h) hok
    cases hnx
    exact lv_iand hx hb hd (K _ lsC H locs hk rfl hrel)
  · obtain ⟨hd, hp, hk⟩ := pz_ok_cons (fun h => Instr.noConfusion h) hok
    cases hnx
    exact lv_ior hx hb hd (K _ lsC H locs hk rfl hrel)
  · obtain ⟨hd, hp, hk⟩ := pz_ok_cons (fun h => Instr.noConfusion h) hok
    split at hnx
    · cases hnx
    · rename_i hne
      cases hnx
      exact lv_idiv hx hb hd hne (K _ lsC H locs hk rfl hrel)
  · obtain ⟨hd, hp, hk⟩ := pz_ok_cons (fun h => Instr.noConfusion h) hok
    split at hnx
    · cases hnx
    · rename_i hne
      cases hnx
      exact lv_irem hx hb hd hne (K _ lsC H locs hk rfl hrel)
  · obtain ⟨hd, hp, hk⟩ := pz_ok_cons (fun h => Instr.noConfusion h) hok
    cases hnx
    exact lv_ineg hx hb hd (K _ lsC H locs hk rfl hrel)
  · obtain ⟨hd, hp, hk⟩ := pz_ok_cons (fun h => Instr.noConfusion h) hok
    cases hnx
    exact lv_ishl hx hb hd (K _ lsC H locs hk rfl hrel)
  · obtain ⟨hd, hp, hk⟩ := pz_ok_cons (fun h => Instr.noConfusion h) hok
    cases hnx
    exact lv_iushr hx hb hd rfl (K _ lsC H locs hk rfl hrel)
  · obtain ⟨hd, hp, hk⟩ := pz_ok_cons (fun h => Instr.noConfusion h) hok
    cases hnx
    exact lv_ladd hx hb hd (K _ lsC H locs hk rfl hrel)
  · obtain ⟨hd, hp, hk⟩ := pz_ok_cons (fun h => Instr.noConfusion h) hok
    cases hnx
    exact lv_lsub hx hb hd (K _ lsC H locs hk rfl hrel)
  · obtain ⟨hd, hp, hk⟩ := pz_ok_cons (fun h => Instr.noConfusion h) hok
    split at hnx
    · cases hnx
    · rename_i hne
      cases hnx
      exact lv_ldiv hx hb hd hne (K _ lsC H locs hk rfl hrel)
  · obtain ⟨hd, hp, hk⟩ := pz_ok_cons (fun h => Instr.noConfusion h) hok
    split at hnx
    · cases hnx
    · rename_i hne
      cases hnx
      exact lv_lrem hx hb hd hne (K _ lsC H locs hk rfl hrel)
  · obtain ⟨hd, hp, hk⟩ := pz_ok_cons (fun h => Instr.noConfusion h) hok
    cases hnx
    exact lv_lneg hx hb hd (K _ lsC H locs hk rfl hrel)
  · obtain ⟨hd, hp, hk⟩ := pz_ok_cons (fun h => Instr.noConfusion h) hok
    cases hnx
    exact W.lcmp hx hb hd (K _ lsC H locs hk rfl hrel)
  · obtain ⟨hd, hp, hk⟩ := pz_ok_cons (fun h => Instr.noConfusion h) hok
    cases hnx
    exact lv_i2l hx hb hd rfl (K _ lsC H locs hk rfl hrel)
  · obtain ⟨hd, hp, hk⟩ := pz_ok_cons (fun h => Instr.noConfusion h) hok
    cases hnx
    exact lv_l2i hx hb hd rfl (K _ lsC H locs hk rfl hrel)
  · obtain ⟨hd, hp, hk⟩ := pz_ok_cons (fun h => Instr.noConfusion h) hok
    cases hnx
    exact lv_i2b hx hb hd rfl (K _ lsC H locs hk rfl hrel)
  · obtain ⟨hd, hp, hk⟩ := pz_ok_cons (fun h => Instr.noConfusion h) hok
    cases hnx
    exact lv_i2s hx hb hd rfl (K _ lsC H locs hk rfl hrel)
  · obtain ⟨hd, hp, hk⟩ := pz_ok_cons (fun h => Instr.noConfusion h) hok
    split at hnx
    · rename_i hc
      cases hnx
      exact lv_dup hx hb hd (by rw [pz_cz_cat]; exact hc) (K _ lsC H locs hk rfl hrel)
    · cases hnx
  · obtain ⟨hd, hp, hk⟩ := pz_ok_cons (fun h => Instr.noConfusion h) hok
    split at hnx
    · rename_i hc
      cases hnx
      exact lv_dup2_11 hx hb hd (by rw [pz_cz_cat]; exact hc.1) (by rw [pz_cz_cat]; exact hc.2) (K _ lsC H locs hk rfl hrel)
    · cases hnx
  · rename_i xi ci kf _ _ a r
    obtain ⟨hd, hp, hk⟩ := pz_ok_cons (fun h => Instr.noConfusion h) hok
    obtain ⟨q, hq1, hq2, hq3⟩ := pz_fl hp
    split at hnx
    · rename_i hfs
      cases hnx
      obtain ⟨rs, e1, e2⟩ := pz_fs_get hfs
      exact va_get hx hb hts (pz_cl_in (List.mem_of_getElem? hq1)) hown hK hP a (pz_ws_get e1) hq1 kf hq2 (hts _ hq3) (fun _ h => h) (pz_fs0 (S := S) e2) hd (K _ lsC H locs hk rfl hrel)
    · rename_i hfs
      cases hnx
      obtain ⟨rs, e1, e2⟩ := pz_fs_get hfs
      exact va_get hx hb hts (pz_cl_in (List.mem_of_getElem? hq1)) hown hK hP a (pz_ws_get e1) hq1 kf hq2 (hts _ hq3) (fun _ h => h) (pz_fs0 (S := S) e2) hd (K _ lsC H locs hk rfl hrel)
    · cases hnx
  · rename_i xi ci kf fl _ v a r
    obtain ⟨hd, hp, hk⟩ := pz_ok_cons (fun h => Instr.noConfusion h) hok
    have hp2 : (pzLF.any (fun q => q.1 == (pz_mt k).2.2.2.2 && q.2.1 == xi && q.2.2.1 == ci && q.2.2.2.1 == kf) && decide ((pzFT.getD ci []).getD kf 9 = fl) && (fl != 2 || (decide ((pz_mt k).2.2.2.2 = ci) && decide ((pz_y k).name = "<init>")))) = true := hp
    rw [Bool.and_eq_true, Bool.and_eq_true] at hp2
    obtain ⟨⟨hp3, hp4⟩, hp5⟩ := hp2
    have hp4 := of_decide_eq_true hp4
    obtain ⟨q, hq1, hq2, hq3⟩ := pz_fl hp3
    obtain ⟨t1, t2, -, -⟩ := pz_cl_ty ci q hq1
    obtain ⟨t20, t21, t22⟩ := t2 kf hq2
    split at hnx
    · rename_i hfl
      split at hnx
      · rename_i hfs
        cases hnx
        obtain ⟨rs, e1, e2⟩ := pz_fs_get hfs
        have hl3 : kf < (rs.mapIdx (fun j c => pz_fv G M a j c)).length := by rw [List.length_mapIdx]; exact (List.getElem?_eq_some_iff.mp e2).1
        rcases hfl with hfl | ⟨hfl, hv⟩
        · obtain ⟨ty1, ty2⟩ := t20 (hp4.trans hfl)
          refine va_put (ty := .int) (v := .int v) hx hb hts (pz_cl_in (List.mem_of_getElem? hq1)) (pz_ty ci) t1 (pz_cl_nm q (List.mem_of_getElem? hq1)) hown hK hP hD (pz_S_rf hS) a (pz_ws_get e1) hq1 kf hq2 (hts _ hq3) (fun _ h => h) ty2 (by rw [t1 kf hq2, ty1]) rfl rfl hl3 hd (fun H1 locs1 hP1 hD1 hS1 => ?_)
          rw [pz_ws_setF e1 e2] at hP1
          exact K _ lsC H1 locs1 hk rfl ⟨hl, hP1, Nat.le_trans hsz hS1.1, pz_S_tr hS hS1⟩
        · obtain ⟨ty1, ty2⟩ := t21 (hp4.trans hfl)
          refine va_put (ty := .boolean) (v := .int v) hx hb hts (pz_cl_in (List.mem_of_getElem? hq1)) (pz_ty ci) t1 (pz_cl_nm q (List.mem_of_getElem? hq1)) hown hK hP hD (pz_S_rf hS) a (pz_ws_get e1) hq1 kf hq2 (hts _ hq3) (fun _ h => h) ty2 (by rw [t1 kf hq2, ty1]) (by rcases hv with rfl | rfl <;> rfl) (by rcases hv with rfl | rfl <;> rfl) hl3 hd (fun H1 locs1 hP1 hD1 hS1 => ?_)
          rw [pz_ws_setF e1 e2] at hP1
          exact K _ lsC H1 locs1 hk rfl ⟨hl, hP1, Nat.le_trans hsz hS1.1, pz_S_tr hS hS1⟩
      · cases hnx
    · cases hnx
  · rename_i xi ci kf fl _ v a r
    obtain ⟨hd, hp, hk⟩ := pz_ok_cons (fun h => Instr.noConfusion h) hok
    have hp2 : (pzLF.any (fun q => q.1 == (pz_mt k).2.2.2.2 && q.2.1 == xi && q.2.2.1 == ci && q.2.2.2.1 == kf) && decide ((pzFT.getD ci []).getD kf 9 = fl) && (fl != 2 || (decide ((pz_mt k).2.2.2.2 = ci) && decide ((pz_y k).name = "<init>")))) = true := hp
    rw [Bool.and_eq_true, Bool.and_eq_true] at hp2
    obtain ⟨⟨hp3, hp4⟩, hp5⟩ := hp2
    have hp4 := of_decide_eq_true hp4
    obtain ⟨q, hq1, hq2, hq3⟩ := pz_fl hp3
    obtain ⟨t1, t2, -, -⟩ := pz_cl_ty ci q hq1
    obtain ⟨t20, t21, t22⟩ := t2 kf hq2
    split at hnx
    · rename_i hfl
      split at hnx
      · rename_i cj rs e1
        split at hnx
        · rename_i hc
          obtain ⟨hc1, hc2, hc3⟩ := hc
          subst hc1
          cases hnx
          have hl3 : kf < (rs.mapIdx (fun j c => pz_fv G M a j c)).length := by rw [List.length_mapIdx]; exact hc2
          obtain ⟨ty1, ty2, ty3⟩ := t22 (hp4.trans hfl)
          subst hfl
          have hp6 : (decide ((pz_mt k).2.2.2.2 = cj) && decide ((pz_y k).name = "<init>")) = true := hp5
          rw [Bool.and_eq_true, decide_eq_true_eq, decide_eq_true_eq] at hp6
          refine va_putF (ty := pz_ty cj kf) (v := .ref (G.1 + v)) hx hb hts (pz_cl_in (List.mem_of_getElem? hq1)) (pz_ty cj) t1 (pz_cl_nm q (List.mem_of_getElem? hq1)) hown hK hP hD (pz_S_rf hS) a (pz_ws_get e1) hq1 kf hq2 (hts _ hq3) (fun _ h => h) ty1 (hnm.trans hp6.2) (ty2.trans (by rw [hp6.1])) (t1 kf hq2) (by cases hty : pz_ty cj kf <;> rw [hty] at ty3 <;> first | rfl | cases ty3) (by cases hty : pz_ty cj kf <;> rw [hty] at ty3 <;> first | rfl | cases ty3) hl3 hd (fun H1 locs1 hP1 hD1 hS1 => ?_)
          rw [pz_ws_setR e1 hc2] at hP1
          have e9 : pz_sl (S.set a (.inr (cj, rs.set kf (v + 2)))) = pz_sl S := pz_sl_set e1 (List.length_set ..)
          have K2 := K _ lsC H1 locs1 hk rfl ⟨hl, hP1, by rw [List.length_set]; exact Nat.le_trans hsz hS1.1, pz_S_tr hS hS1⟩
          rw [e9, List.length_set] at K2
          exact K2
        · cases hnx
      · cases hnx
    · cases hnx
  · rename_i xi j _ _ _
    obtain ⟨hd, hp, hk⟩ := pz_ok_cons (fun h => Instr.noConfusion h) hok
    cases hnx
    obtain ⟨q, hq, hqe⟩ := pz_any hp
    simp only [Bool.and_eq_true, beq_iff_eq] at hqe
    obtain ⟨hj, hlk⟩ := pz_lg_ok q hq
    rw [hqe.1.1, hqe.1.2, hqe.2] at hlk
    rw [hqe.2] at hj
    rcases hj with rfl | rfl
    · exact va_gets hx hb E.2.2.2.2.1 hS hown (hts _ (pz_gw _ hlk rfl)) (fun _ h => h) hd (K _ lsC H locs hk rfl hrel)
    · exact va_gets hx hb E.2.2.2.2.2.2.1 hS hown (hts _ (pz_gw _ hlk rfl)) (fun _ h => h) hd (K _ lsC H locs hk rfl hrel)
  · obtain ⟨hd, hp, hk⟩ := pz_ok_cons (fun h => Instr.noConfusion h) hok
    cases hnx
    exact va_slen hx hb E.2.1 (Nat.lt_of_lt_of_le E.2.2.1 E.2.2.2.1) (Nat.not_le.mpr E.2.2.1) hS hd (K _ lsC H locs hk rfl hrel)
  · obtain ⟨hd, hp, hk⟩ := pz_ok_cons (fun h => Instr.noConfusion h) hok
    split at hnx
    · rename_i n has
      split at hnx
      · rename_i j hix
        cases hnx
        obtain ⟨rs, e1⟩ := pz_as_get has
        obtain ⟨g1, rfl⟩ := pz_ix_get hix
        exact va_iald hx hb hK hP _ 0 (pz_ws_get e1) rfl g1 hd (K _ lsC H locs hk rfl hrel)
      · cases hnx
    · cases hnx
  · rename_i i q r
    obtain ⟨hd, hp, hk⟩ := pz_ok_cons (fun h => Instr.noConfusion h) hok
    split at hnx
    · rename_i j hix
      cases hnx
      obtain ⟨g1, rfl⟩ := pz_ix_get hix
      match q, g1, K with
      | 0, g1, K => exact va_sld hx hb E.2.1 (Nat.lt_of_lt_of_le E.2.2.1 E.2.2.2.1) (Nat.not_le.mpr E.2.2.1) hS g1 hd (K _ lsC H locs hk rfl hrel)
      | 1, g1, K => exact va_ti hx hb E.2.2.2.2.2.1 hS g1 rfl hd (K _ lsC H locs hk rfl hrel)
      | 2, g1, K => exact va_ti hx hb E.2.2.2.2.2.2.2.1 hS g1 rfl hd (K _ lsC H locs hk rfl hrel)
      | n + 3, g1, K => exact absurd (Or.inr (Nat.zero_le _)) g1
    · cases hnx
  · obtain ⟨hd, hp, hk⟩ := pz_ok_cons (fun h => Instr.noConfusion h) hok
    split at hnx
    · rename_i n has
      split at hnx
      · rename_i j hix
        cases hnx
        obtain ⟨rs, e1⟩ := pz_as_get has
        obtain ⟨g1, rfl⟩ := pz_ix_get hix
        exact va_zald hx hb hK hP _ 1 (pz_ws_get e1) rfl g1 hd (K _ lsC H locs hk rfl hrel)
      · cases hnx
    · cases hnx
  · obtain ⟨hd, hp, hk⟩ := pz_ok_cons (fun h => Instr.noConfusion h) hok
    split at hnx
    · rename_i n has
      split at hnx
      · rename_i j hix
        cases hnx
        obtain ⟨rs, e1⟩ := pz_as_get has
        obtain ⟨g1, rfl⟩ := pz_ix_get hix
        exact va_lald hx hb hK hP _ 2 (pz_ws_get e1) rfl g1 hd (K _ lsC H locs hk rfl hrel)
      · cases hnx
    · cases hnx
  · obtain ⟨hd, hp, hk⟩ := pz_ok_cons (fun h => Instr.noConfusion h) hok
    split at hnx
    · rename_i n has
      split at hnx
      · rename_i j hix
        split at hnx
        · rename_i q hra
          cases hnx
          obtain ⟨n2, rs, e1, e2⟩ := pz_ra_get hra
          obtain ⟨rs', e3⟩ := pz_as_get has
          rw [e1] at e3
          cases e3
          obtain ⟨g1, rfl⟩ := pz_ix_get hix
          refine va_aldq hx hb hK hP _ 3 (pz_ws_get e1) rfl g1 hd ?_
          have e9 : va_rf (pz_rr G rs _) = _ := congrArg va_rf (show pz_rr G rs _ = some (G.1 + q) by unfold pz_rr; rw [e2])
          rw [e9]
          exact K _ lsC H locs hk rfl hrel
        · cases hnx
      · cases hnx
    · cases hnx
  · obtain ⟨hd, hp, hk⟩ := pz_ok_cons (fun h => Instr.noConfusion h) hok
    split at hnx
    · rename_i n has
      split at hnx
      · rename_i j hix
        cases hnx
        obtain ⟨rs, e1⟩ := pz_as_get has
        obtain ⟨g1, rfl⟩ := pz_ix_get hix
        refine va_iast hx hb hK hP hD (pz_S_rf hS) _ 0 (pz_ws_get e1) rfl g1 hd (fun H1 locs1 hP1 hD1 hS1 => ?_)
        rw [pz_ws_setM e1 (Or.inl rfl)] at hP1
        exact K _ lsC H1 locs1 hk rfl ⟨hl, hP1, Nat.le_trans hsz hS1.1, pz_S_tr hS hS1⟩
      · cases hnx
    · cases hnx
  · rename_i v i a r
    obtain ⟨hd, hp, hk⟩ := pz_ok_cons (fun h => Instr.noConfusion h) hok
    split at hnx
    · rename_i hv
      split at hnx
      · rename_i n has
        split at hnx
        · rename_i j hix
          cases hnx
          obtain ⟨rs, e1⟩ := pz_as_get has
          obtain ⟨g1, rfl⟩ := pz_ix_get hix
          refine va_zast hx hb hK hP hD (pz_S_rf hS) _ 1 (pz_ws_get e1) rfl g1 hd (fun H1 locs1 hP1 hD1 hS1 => ?_)
          rw [pz_ws_setM e1 (Or.inr rfl)] at hP1
          have hn : vp_nar .boolean v = v := by rcases hv with rfl | rfl <;> rfl
          rw [hn] at hP1
          exact K _ lsC H1 locs1 hk rfl ⟨hl, hP1, Nat.le_trans hsz hS1.1, pz_S_tr hS hS1⟩
        · cases hnx
      · cases hnx
    · cases hnx
  · obtain ⟨hd, hp, hk⟩ := pz_ok_cons (fun h => Instr.noConfusion h) hok
    split at hnx
    · rename_i n has
      split at hnx
      · rename_i j hix
        cases hnx
        obtain ⟨rs, e1⟩ := pz_as_get has
        obtain ⟨g1, rfl⟩ := pz_ix_get hix
        refine va_last hx hb hK hP hD (pz_S_rf hS) _ 2 (pz_ws_get e1) rfl g1 hd (fun H1 locs1 hP1 hD1 hS1 => ?_)
        rw [pz_ws_setJ e1] at hP1
        exact K _ lsC H1 locs1 hk rfl ⟨hl, hP1, Nat.le_trans hsz hS1.1, pz_S_tr hS hS1⟩
      · cases hnx
    · cases hnx
  · rename_i q i a r
    obtain ⟨hd, hp, hk⟩ := pz_ok_cons (fun h => Instr.noConfusion h) hok
    split at hnx
    · rename_i n rs e1
      split at hnx
      · rename_i j hix
        split at hnx
        · rename_i hc
          cases hnx
          obtain ⟨rs4, e4⟩ := pz_oc_get hc.2
          obtain ⟨g1, rfl⟩ := pz_ix_get hix
          have hj : i.toNatClampNeg < rs.length := by rw [hc.1]; exact Nat.not_le.mp (fun z => g1 (Or.inr z))
          refine va_astq hx hb hK hP hD (pz_S_rf hS) a 3 q 4 (r := (RX4, TX4, 4)) (pz_ws_get e1) rfl (pz_ws_get e4) rfl g1 hd (fun H1 locs1 hP1 hD1 hS1 => ?_)
          rw [pz_ws_setA e1 hj] at hP1
          have e9 : pz_sl (S.set a (.inl (3, n, rs.set i.toNatClampNeg (q + 2)))) = pz_sl S := pz_sl_set e1 rfl
          have K2 := K _ lsC H1 locs1 hk rfl ⟨hl, hP1, by rw [List.length_set]; exact Nat.le_trans hsz hS1.1, pz_S_tr hS hS1⟩
          rw [e9, List.length_set] at K2
          exact K2
        · cases hnx
      · cases hnx
    · cases hnx
  · rename_i xi ci _ _ _
    obtain ⟨hd, hp, hk⟩ := pz_ok_cons (fun h => Instr.noConfusion h) hok
    split at hnx
    · rename_i rs hkz
      cases hnx
      obtain ⟨q, hq, hqe⟩ := pz_any hp
      simp only [Bool.and_eq_true, beq_iff_eq] at hqe
      have hlk := pz_lc_ok q hq
      rw [hqe.1.1, hqe.1.2, hqe.2] at hlk
      split at hlk
      · rename_i r hr9
        have hlk := of_decide_eq_true hlk
        have hmem := List.mem_of_getElem? hr9
        obtain ⟨t1, -, t3, t4⟩ := pz_cl_ty ci r hr9
        have hkz2 : pzKZ.getD ci [] = rs := by rw [List.getD_eq_getElem?_getD, hkz]; rfl
        rw [hkz2] at t3 t4
        rw [List.length_append, pz_sl_push] at hcap
        have z1 : pz_z (.inr (ci, rs) : pzS) = r.2.2 := t4
        rw [z1] at hcap
        have hcap1 : S.length + 1 - c0 ≤ R.cells := hcap.1
        obtain ⟨i1, i2, i3⟩ := h0
        refine pz_W_sz (fun hup => ?_)
        have hHs : H.size = G.1 + S.length := by omega
        have hKn := hK.1 ci _ hr9
        refine W.newcK hx hb hown (hts _ (pz_gw _ hlk rfl)) (hts _ (pz_cl_ini hmem).2) (hts _ (pz_cl_ini hmem).1) rfl hd (by omega) (by omega) hKn.2.1 rfl fun H1 kC hkC e1 zz1 o1 => ?_
        have hk9 : ∀ (k : Nat) (x : Nat × va_E), (pz_ws G S M J)[k]? = some x → H1[x.1]? = H[x.1]? := fun k x hx => o1 x.1 ((hP k x hx).lt)
        have hP1 : va_P G.2.2.2.2.2 vwCl (pz_ws G S M J ++ [(G.1 + S.length, .inr (ci, rs.mapIdx (fun j c => pz_fv G (pz_sr M S.length (fun _ => 0)) S.length j c)))]) H1 := by
          refine (hP.kept hk9).app (fun k x hx => ?_)
          have hz : k < 1 := (List.getElem?_eq_some_iff.mp hx).1
          rw [show k = 0 by omega] at hx
          cases hx
          refine ⟨_, hr9, ?_⟩
          rw [← hHs]
          refine (u_born (pz_ty ci) hts (pz_cl_in hmem) hKn hkC e1 t1).to (fun j hj => ?_)
          unfold vp_V
          have hj2 : rs[j]? = some (rs.getD j 9) := by
            rw [List.getD_eq_getElem?_getD, List.getElem?_eq_getElem (by rw [t4]; exact hj)]
            rfl
          have t5 := of_decide_eq_true (t3 j hj)
          rw [List.getD_eq_getElem?_getD, pz_fs0 (S := S) hj2]
          rcases t5 with ⟨c5, d5⟩ | ⟨c5, d5⟩
          · rw [c5, d5]
            show _ = Value.int (pz_sr M S.length (fun _ => 0) S.length j)
            rw [pz_sr_self]
          · rw [c5, d5]
            rfl
        rw [pz_ws_push (x := .inr (ci, rs.mapIdx (fun j c => pz_fv G (pz_sr M S.length (fun _ => 0)) S.length j c))) (M' := pz_sr M S.length (fun _ => 0)) (J' := J) (sh := .inr (ci, rs)) rfl (fun k hk => pz_sr_ne (Nat.ne_of_lt hk)) (fun _ _ => rfl)] at hP1
        have K2 := K _ lsC H1 locs hk rfl ⟨hl, hP1, by rw [List.length_append]; show G.1 + (S.length + 1) ≤ _; omega, ⟨by have := hS.1; omega, fun q a b => (o1 q (Nat.lt_of_lt_of_le a hS.1)).trans (hS.2.1 q a b), hS.2.2⟩⟩
        rw [pz_sl_push, z1, List.length_append] at K2
        have a1 : S.length + [(.inr (ci, rs) : pzS)].length - c0 = S.length - c0 + 1 := by show S.length + 1 - c0 = _; omega
        have a2 : pz_sl S + r.2.2 - s0 = pz_sl S - s0 + r.2.2 := by omega
        rw [a1, a2] at K2
        rw [hHs]
        exact K2
      · cases hlk
    · cases hnx
  · rename_i at_ t _ _ _ n r
    obtain ⟨hd, hp, hk⟩ := pz_ok_cons (fun h => Instr.noConfusion h) hok
    split at hnx
    · cases hnx
    · rename_i hc
      cases hnx
      have hat : pz_at_ at_ = t := by simpa using (show (pz_at_ at_ == t) = true from hp)
      subst hat
      rw [List.length_append, pz_sl_push] at hcap
      have z1 : pz_z (.inl (pz_at_ at_, n.toNatClampNeg, []) : pzS) = n.toNatClampNeg := rfl
      rw [z1] at hcap
      have hcap1 : S.length + 1 - c0 ≤ R.cells := hcap.1
      obtain ⟨i1, i2, i3⟩ := h0
      have hn0 : ¬ n < 0 := fun z => hc (Or.inl z)
      have hn1 : n.toNatClampNeg ≤ 1000 := Nat.not_lt.mp (fun z => hc (Or.inr (Or.inl z)))
      have hty : ∃ ty, newarray.typeOf at_ = ty ∧ Cond.arrayClass ty ∈ pzGW ∧ (pz_tys G)[pz_at_ at_]? = some (G.2.2.2.2.1 (pz_at_ at_), ty) ∧ componentBytes ty ≤ 8 ∧ (∀ cA : ClassId, vp_cell cA (n.toNatClampNeg, pz_ac G (pz_sr M S.length (fun _ => 0)) (pz_srJ J S.length (fun _ => 0)) S.length (pz_at_ at_) []) = arrV cA n.toNatClampNeg (fun _ => defaultValue ty)) := by
        cases at_ with
        | int => exact ⟨.int, rfl, pz_gw 116 (by decide +kernel) rfl, rfl, by decide, fun cA => by show vp_cell cA (_, .inl (pz_sr M S.length (fun _ => 0) S.length)) = _; rw [pz_sr_self]; rfl⟩
        | boolean => exact ⟨.boolean, rfl, pz_gw 117 (by decide +kernel) rfl, rfl, by decide, fun cA => by show vp_cell cA (_, .inl (pz_sr M S.length (fun _ => 0) S.length)) = _; rw [pz_sr_self]; rfl⟩
        | long => exact ⟨.long, rfl, pz_gw 118 (by decide +kernel) rfl, rfl, by decide, fun cA => by show vp_cell cA (_, .inr (.inl (pz_srJ J S.length (fun _ => 0) S.length))) = _; rw [pz_srJ_self]; rfl⟩
        | _ => exact absurd (Or.inr (Or.inr (by decide))) hc
      obtain ⟨ty, y1, y2, y3, y4, y5⟩ := hty
      refine pz_W_sz (fun hup => ?_)
      have hHs : H.size = G.1 + S.length := by omega
      refine va_newaK hx hb (by rw [y1]; exact hts _ y2) rfl hd rfl hn0 rfl (by rw [y1]; exact Nat.le_trans (Nat.mul_le_mul hn1 y4) (by decide)) (by omega) (by omega) hHs fun H1 cA e1 zz1 o1 hAr hNm => ?_
      rw [y1] at e1 hAr hNm
      have hcA : cA = G.2.2.2.2.1 (pz_at_ at_) := by
        have h9 := (hK.2 _ _ y3).2
        have h10 : s.vm.findClass ("[" ++ ty.toString) = some (G.2.2.2.2.1 (pz_at_ at_)) := by
          cases at_ <;> cases y1 <;> exact h9
        rw [hNm] at h10
        exact Option.some.inj h10
      subst hcA
      have hk9 : ∀ (k : Nat) (x : Nat × va_E), (pz_ws G S M J)[k]? = some x → H1[x.1]? = H[x.1]? := fun k x hx => o1 x.1 (by rw [← hHs]; exact (hP k x hx).lt)
      have hP1 : va_P G.2.2.2.2.2 vwCl (pz_ws G S M J ++ [(G.1 + S.length, .inl (G.2.2.2.2.1 (pz_at_ at_), n.toNatClampNeg, pz_ac G (pz_sr M S.length (fun _ => 0)) (pz_srJ J S.length (fun _ => 0)) S.length (pz_at_ at_) []))]) H1 := by
        refine (hP.kept hk9).app (fun k x hx => ?_)
        have hz : k < 1 := (List.getElem?_eq_some_iff.mp hx).1
        rw [show k = 0 by omega] at hx
        cases hx
        show H1[G.1 + S.length]? = some (vp_cell _ _)
        rw [y5]
        exact e1
      rw [pz_ws_push (x := .inl (G.2.2.2.2.1 (pz_at_ at_), n.toNatClampNeg, pz_ac G (pz_sr M S.length (fun _ => 0)) (pz_srJ J S.length (fun _ => 0)) S.length (pz_at_ at_) [])) (M' := pz_sr M S.length (fun _ => 0)) (J' := pz_srJ J S.length (fun _ => 0)) (sh := .inl (pz_at_ at_, n.toNatClampNeg, [])) rfl (fun k hk => pz_sr_ne (Nat.ne_of_lt hk)) (fun k hk => pz_srJ_ne (Nat.ne_of_lt hk))] at hP1
      have K2 := K _ lsC H1 locs hk rfl ⟨hl, hP1, by rw [List.length_append]; show G.1 + (S.length + 1) ≤ _; omega, ⟨by have := hS.1; omega, fun q a b => (o1 q (by have := hS.1; omega)).trans (hS.2.1 q a b), hS.2.2⟩⟩
      rw [pz_sl_push, z1, List.length_append] at K2
      have a1 : S.length + [(.inl (pz_at_ at_, n.toNatClampNeg, []) : pzS)].length - c0 = S.length - c0 + 1 := by show S.length + 1 - c0 = _; omega
      have a2 : pz_sl S + n.toNatClampNeg - s0 = pz_sl S - s0 + n.toNatClampNeg := by omega
      rw [a1, a2] at K2
      exact K2
  · rename_i xi _ _ _ _ n r
    obtain ⟨hd, hp, hk⟩ := pz_ok_cons (fun h => Instr.noConfusion h) hok
    split at hnx
    · cases hnx
    · rename_i hc
      cases hnx
      obtain ⟨q, hq, hqe⟩ := pz_any hp
      simp only [Bool.and_eq_true, beq_iff_eq] at hqe
      have hlk := pz_la_ok q hq
      rw [hqe.1, hqe.2] at hlk
      rw [List.length_append, pz_sl_push] at hcap
      have z1 : pz_z (.inl (3, n.toNatClampNeg, List.replicate n.toNatClampNeg 1) : pzS) = n.toNatClampNeg := rfl
      rw [z1] at hcap
      have hcap1 : S.length + 1 - c0 ≤ R.cells := hcap.1
      obtain ⟨i1, i2, i3⟩ := h0
      have hn0 : ¬ n < 0 := fun z => hc (Or.inl z)
      have hn1 : n.toNatClampNeg ≤ 1000 := Nat.not_lt.mp (fun z => hc (Or.inr z))
      refine pz_W_sz (fun hup => ?_)
      have hHs : H.size = G.1 + S.length := by omega
      refine W.anew hx hb hown (hts _ (pz_gw _ hlk rfl)) (va_AO.use E.2.2.2.2.2.2.2.2.2) rfl hd rfl hn0 (by omega) (by omega) (by omega) fun cA kA comp f1 f2 f3 f4 => ?_
      generalize hH1 : H.push ({ cls := cA, slots := Array.replicate n.toNatClampNeg .null, vm := .none } : Cell) = H1
      have zz1 : H1.size = H.size + 1 := by rw [← hH1, Array.size_push]
      have e1 : H1[H.size]? = some (arrV cA n.toNatClampNeg (fun _ => .null)) := by rw [← hH1, Array.getElem?_push_size, ← arrV_new]
      have o1 : ∀ q : Nat, q < H.size → H1[q]? = H[q]? := fun q hq => by rw [← hH1, Array.getElem?_push, if_neg (Nat.ne_of_lt hq)]
      have hcA : cA = G.2.2.2.2.1 3 := by
        obtain ⟨kA', comp', -, -, -, h9⟩ := (hK.2 3 _ rfl).2
        rw [f1] at h9
        exact Option.some.inj h9
      subst hcA
      have hk9 : ∀ (k : Nat) (x : Nat × va_E), (pz_ws G S M J)[k]? = some x → H1[x.1]? = H[x.1]? := fun k x hx => o1 x.1 ((hP k x hx).lt)
      have hrr : ∀ j, pz_rr G (List.replicate n.toNatClampNeg 1) j = none := by
        intro j
        unfold pz_rr
        rw [List.getElem?_replicate]
        split <;> rename_i h9 <;> first | (split at h9 <;> cases h9) | rfl
      have hP1 : va_P G.2.2.2.2.2 vwCl (pz_ws G S M J ++ [(G.1 + S.length, .inl (G.2.2.2.2.1 3, n.toNatClampNeg, .inr (.inr (.inr (.inr (pz_rr G (List.replicate n.toNatClampNeg 1)))))))]) H1 := by
        refine (hP.kept hk9).app (fun k x hx => ?_)
        have hz : k < 1 := (List.getElem?_eq_some_iff.mp hx).1
        rw [show k = 0 by omega] at hx
        cases hx
        show H1[G.1 + S.length]? = some (arrV _ _ (fun j => va_rf (pz_rr G (List.replicate n.toNatClampNeg 1) j)))
        rw [← hHs, e1]
        congr 2
        funext j
        rw [hrr]
        rfl
      rw [pz_ws_push (x := .inl (G.2.2.2.2.1 3, n.toNatClampNeg, .inr (.inr (.inr (.inr (pz_rr G (List.replicate n.toNatClampNeg 1))))))) (M' := M) (J' := J) (sh := .inl (3, n.toNatClampNeg, List.replicate n.toNatClampNeg 1)) rfl (fun _ _ => rfl) (fun _ _ => rfl)] at hP1
      have K2 := K _ lsC H1 locs hk rfl ⟨hl, hP1, by rw [List.length_append]; show G.1 + (S.length + 1) ≤ _; omega, ⟨by have := hS.1; omega, fun q a b => (o1 q (Nat.lt_of_lt_of_le a hS.1)).trans (hS.2.1 q a b), hS.2.2⟩⟩
      rw [pz_sl_push, z1, List.length_append] at K2
      have a1 : S.length + [(.inl (3, n.toNatClampNeg, List.replicate n.toNatClampNeg 1) : pzS)].length - c0 = S.length - c0 + 1 := by show S.length + 1 - c0 = _; omega
      have a2 : pz_sl S + n.toNatClampNeg - s0 = pz_sl S - s0 + n.toNatClampNeg := by omega
      rw [a1, a2] at K2
      rw [hHs]
      exact K2
  · cases hnx
end PZS
