theorem pz_blind {X : pzX} {G : pzG} {av : List Value} {S : List pzS} {M : pzM} {J : pzJ} : FrameBlind (pz_Pc X G av S M J) := by
  intro a U g mk q
  obtain ⟨q0, q1, q2, q3⟩ := q
  exact ⟨q0, q1, q2, pz_env_call q3 g mk a⟩
theorem pz_cl_get {m k na c : Nat} (h : pz_cl_ m k na c = true) : 0 < k ∧ k < pzNM ∧ (parseMethodDescriptor (pz_y k).desc).map (fun d => d.parameters.length) = some na ∧ c % 100 = (pz_mt k).2.2.1 ∧ c / 100 = (pz_mt k).2.2.2.2 ∧ (pz_mt k).2.2.1 ≤ 40 := by
  unfold pz_cl_ at h
  simp only [Bool.and_eq_true, decide_eq_true_eq] at h
  exact ⟨h.1.1.1.1.1, h.1.1.1.1.2, h.1.1.1.2, h.1.1.2, h.1.2, h.2⟩
set_option maxHeartbeats 4000000 in
/-- **every run of the pure machine is one of the machine** -/
theorem pz_run (X : pzX) (G : pzG) : ∀ n, pz_Runs X G n := by
  intro n
  induction n with
  | zero =>
    intro d k pc c0 s0 is ls st S S' M M' J J' r p l e R s m args below meth c Q lsC H locs _ h
    cases h
  | succ n ih =>
    intro d k pc c0 s0 is ls st S S' M M' J J' r p l e R s m args below meth c Q lsC H locs C h hok hlen hrel h0 hcap hend
    cases is with
    | nil => cases h
    | cons i is =>
      rw [pz_rn] at h
      split at h
      · rename_i is' ls' st' S1 M1 J1 hn
        have g1 := pz_nx_grow hn
        have g2 := pz_rn_grow n _ _ _ _ _ _ _ _ _ _ _ _ h
        refine pz_step C hn hok hlen hrel h0 ⟨by have := hcap.1; omega, by have := hcap.2; omega⟩ ?_
        intro pc' lsC' H' locs' hok' hlen' hrel'
        exact ih d k pc' c0 s0 is' ls' st' S1 S' M1 M' J1 J' r p l e R s m args below meth c Q lsC' H' locs' C h hok' (hlen'.trans hlen) hrel' ⟨h0.1, by have := h0.2.1; omega, by have := h0.2.2; omega⟩ hcap hend
      · rename_i r0 hn
        cases h
        obtain ⟨he, hst⟩ := pz_nx_ret hn hok
        rw [hst]
        exact hend pc lsC H locs he hrel.2.1 hrel.2.2.1 hrel.2.2.2
      · rename_i kk lsk rest hn
        split at h
        · cases h
        · rename_i d'
          split at h
          · rename_i r1 S1 M1 J1 hc
            have g1 := pz_rn_grow n _ _ _ _ _ _ _ _ _ _ _ _ hc
            have g2 := pz_rn_grow n _ _ _ _ _ _ _ _ _ _ _ _ h
            obtain ⟨hx, hb, hr, hml, hown, hts, hlocks, hnm, E, hfr, hlo⟩ := id C
            obtain ⟨hl, hP, hsz, hS⟩ := id hrel
            have hK := E.1
            obtain ⟨i1, i2, i3⟩ := h0
            have a1 : S.length - c0 + (S1.length - S.length) = S1.length - c0 := by omega
            have a2 : pz_sl S - s0 + (pz_sl S1 - pz_sl S) = pz_sl S1 - s0 := by omega
            have hcells : S.length - c0 + (S1.length - S.length) ≤ R.cells := by have := hcap.1; omega
            have hslots : pz_sl S - s0 + (pz_sl S1 - pz_sl S) ≤ R.slots := by have := hcap.2; omega
            refine pz_W_sz (fun hup => ?_)
            have hHs : H.size = G.1 + S.length := by omega
            -- what comes behind the call
            have back : ∀ pc2, pz_ok k pc2 is = true → ∀ (t : State) (H1 : Heap) (locs1 : List Loc), t.heap = H1 → (G.1 + S1.length ≤ t.heap.size ∧ va_P G.2.2.2.2.2 vwCl (pz_ws G S1 M1 J1) t.heap) → va_S (fun q => G.1 ≤ q) s.heap H1 locs1 → W p l e R s m args below meth c H1 locs1 (S.length - c0 + (S1.length - S.length)) (pz_sl S - s0 + (pz_sl S1 - pz_sl S)) Q (F0 m pc2 lsC ((r1.map (pz_cz G)).toList ++ rest.map (pz_cz G))) := by
              intro pc2 hok2 t H1 locs1 ht hB hS1
              rw [a1, a2]
              have k2 := ih (d' + 1) k pc2 c0 s0 is ls (r1.toList ++ rest) S1 S' M1 M' J1 J' r p l e R s m args below meth c Q lsC H1 locs1 C h hok2 hlen ⟨hl, by rw [← ht]; exact hB.2, by rw [← ht]; exact hB.1, hS1⟩ ⟨i1, by omega, by omega⟩ hcap hend
              have e9 : (r1.toList ++ rest).map (pz_cz G) = (r1.map (pz_cz G)).toList ++ rest.map (pz_cz G) := by
                rw [List.map_append]
                cases r1 <;> rfl
              rw [e9] at k2
              exact k2
            have hPcU : ∀ av : List Value, ∀ U : State, U.heap = H → s.WarmedH U.vm → pz_Pc X G av S M J (av.map (pz_cz G)).toArray U := fun av U hU hW => ⟨rfl, by rw [hU]; exact hHs, by rw [hU]; exact hP, pz_env_in E hS hU hW⟩
            rcases pz_nx_call hn with ⟨xi, na, cx, v, rfl, hca⟩ | ⟨xi, na, cx, v, rfl, h9, hca⟩ | ⟨xi, na, cx, v, rfl, h9, hca⟩
            · obtain ⟨hd, hp, hk⟩ := pz_ok_cons (fun h => Instr.noConfusion h) hok
              have hp2 : (pzLV.any (fun q => q.1 == (pz_mt k).2.2.2.2 && q.2.1 == xi && q.2.2.1 == kk) && pz_cl_ k kk na cx) = true := hp
              rw [Bool.and_eq_true] at hp2
              obtain ⟨q, hq, hqe⟩ := pz_any hp2.1
              simp only [Bool.and_eq_true, beq_iff_eq] at hqe
              obtain ⟨l1, l2, l3, l4⟩ := pz_lv_ok q hq
              rw [hqe.1.1, hqe.1.2, hqe.2] at l1
              rw [hqe.2] at l2 l3 l4
              obtain ⟨n1, n2, n3, n4, n5, n6⟩ := pz_cl_get hp2.2
              obtain ⟨y1, y2, y3, y4⟩ := pz_mt_ok kk n2
              obtain ⟨av, v1, v2, v3, v4, v5, v6⟩ := pz_ca_get hca
              rw [n4] at v3 v5
              rw [n5] at v6
              subst v3
              have hM := pz_met ih l n1 n2 v5 hc
              match av, v1, v2, v5, v6, hM with
              | .ref b :: As, v1, v2, v5, v6, hM =>
                have v7 := of_decide_eq_true v6
                obtain ⟨rs, e1⟩ := pz_oc_get v7
                obtain ⟨rc, f1, -⟩ := hP b _ (pz_ws_get e1)
                have hrv := va_recv hK hP f1 (pz_ws_get e1)
                rw [pz_cn_cl _ _ f1, y4] at hrv
                have v1' : As.length = na := by rw [List.length_cons] at v1; omega
                have hst : st.map (pz_cz G) = (As.map (pz_cz G)).reverse ++ Value.ref (G.1 + b) :: rest.map (pz_cz G) := by
                  rw [v2]
                  simp [pz_cz]
                rw [hst]
                refine pz_callg (va_runV (As := As.map (pz_cz G)) (rest := rest.map (pz_cz G)) (b := G.1 + b) (C := (pz_y kk).cls) (nL := (pz_mt k).2.2.1) ⟨hx, hb, hml, hown, hts⟩ hM ⟨callB_of na hts (pz_good n1 n2) rfl rfl rfl (hts _ (pz_gw _ l4 rfl)) (hts _ (pz_gw _ l1 rfl)) ⟨y2, y3, n3⟩ ⟨?_, ?_⟩, hts _ (pz_gw _ l2 rfl), hts _ (pz_gw _ l3 rfl)⟩ ⟨pz_blind, hrv, hPcU (.ref b :: As)⟩ rfl (by rw [List.length_map]; exact v1') (hl.1.trans hlen) rfl (lv_room (by rw [pz_cz_sum]; exact v4)) hd ⟨hcells, hslots⟩) hS (back (pc + 3) hk)
                · show d' + 1 ≤ R.frames
                  exact hfr
                · show 8 + ((pz_mt kk).2.2.1 + 11) + 64 * d' ≤ R.locals
                  omega
            · obtain ⟨hd, hp, hk⟩ := pz_ok_cons (fun h => Instr.noConfusion h) hok
              have hp2 : (if kk = 998 then pzLAC.any (fun q => q.1 == (pz_mt k).2.2.2.2 && q.2.1 == xi) else if 900 ≤ kk then pzLMA.any (fun q => q.1 == (pz_mt k).2.2.2.2 && q.2.1 == xi && q.2.2.1 == kk) else pzLS.any (fun q => q.1 == (pz_mt k).2.2.2.2 && q.2.1 == xi && q.2.2.1 == kk) && pz_cl_ k kk na cx) = true := hp
              rw [if_neg (by omega), if_neg h9, Bool.and_eq_true] at hp2
              obtain ⟨q, hq, hqe⟩ := pz_any hp2.1
              simp only [Bool.and_eq_true, beq_iff_eq] at hqe
              obtain ⟨l1, l2, l4⟩ := pz_ls_ok q hq
              rw [hqe.1.1, hqe.1.2, hqe.2] at l1
              rw [hqe.2] at l2 l4
              obtain ⟨n1, n2, n3, n4, n5, n6⟩ := pz_cl_get hp2.2
              obtain ⟨y1, y2, y3, y4⟩ := pz_mt_ok kk n2
              obtain ⟨av, v1, v2, v3, v4, v5, v6⟩ := pz_ca_get hca
              rw [n4] at v3 v5
              subst v3
              have hM := pz_met ih l n1 n2 v5 hc
              have hst : st.map (pz_cz G) = (av.map (pz_cz G)).reverse ++ rest.map (pz_cz G) := by
                rw [v2]
                simp
              rw [hst]
              refine pz_callg (va_runS (As := av.map (pz_cz G)) (rest := rest.map (pz_cz G)) (nL := (pz_mt k).2.2.1) ⟨hx, hb, hml, hown, hts⟩ hM ⟨callB_of na hts (pz_good n1 n2) rfl rfl rfl (hts _ (pz_gw _ l4 rfl)) (hts _ (pz_gw _ l1 rfl)) ⟨y2, y3, n3⟩ ⟨?_, ?_⟩, hts _ (pz_gw _ l2 rfl)⟩ ⟨pz_blind, hPcU av⟩ rfl (by rw [List.length_map]; exact v1) (hl.1.trans hlen) rfl (lv_room (by rw [pz_cz_sum]; exact v4)) hd ⟨hcells, hslots⟩) hS (back (pc + 3) hk)
              · show d' + 1 ≤ R.frames
                exact hfr
              · show 8 + ((pz_mt kk).2.2.1 + 11) + 64 * d' ≤ R.locals
                omega
            · obtain ⟨hd, hp, hk⟩ := pz_ok_cons (fun h => Instr.noConfusion h) hok
              have hp2 : (if kk = 999 then pzLO.any (fun q => q.1 == (pz_mt k).2.2.2.2 && q.2.1 == xi) else (pzLI.any (fun q => q.1 == (pz_mt k).2.2.2.2 && q.2.1 == xi && q.2.2.1 == kk) || pzLN.any (fun q => q.1 == (pz_mt k).2.2.2.2 && q.2.1 == xi && q.2.2.1 == kk)) && pz_cl_ k kk na cx) = true := hp
              rw [if_neg h9, Bool.and_eq_true, Bool.or_eq_true] at hp2
              obtain ⟨n1, n2, n3, n4, n5, n6⟩ := pz_cl_get hp2.2
              obtain ⟨y1, y2, y3, y4⟩ := pz_mt_ok kk n2
              obtain ⟨av, v1, v2, v3, v4, v5, v6⟩ := pz_ca_get hca
              rw [n4] at v3 v5
              subst v3
              have hM := pz_met ih l n1 n2 v5 hc
              match av, v1, v2, v5, v6, hM with
              | .ref b :: As, v1, v2, v5, v6, hM =>
                have v1' : As.length = na := by rw [List.length_cons] at v1; omega
                have hst : st.map (pz_cz G) = (As.map (pz_cz G)).reverse ++ Value.ref (G.1 + b) :: rest.map (pz_cz G) := by
                  rw [v2]
                  simp [pz_cz]
                rw [hst]
                rcases hp2.1 with hp3 | hp3
                · obtain ⟨q, hq, hqe⟩ := pz_any hp3
                  simp only [Bool.and_eq_true, beq_iff_eq] at hqe
                  obtain ⟨l1, l2, l4, l5, l6⟩ := pz_li_ok q hq
                  rw [hqe.1.1, hqe.1.2, hqe.2] at l1
                  rw [hqe.2] at l2 l4 l5 l6
                  have ew : pz_cwd kk :: pzGW = Cond.code (pz_y kk) (pz_mt kk).2.1 (pz_mt kk).2.2.1 none :: pzGW := by
                    unfold pz_cwd
                    rw [l6]
                    rfl
                  refine pz_callg (va_runI (As := As.map (pz_cz G)) (rest := rest.map (pz_cz G)) (b := G.1 + b) (nL := (pz_mt k).2.2.1) ⟨hx, hb, hml, hown, hts⟩ hM ⟨callB_of na hts (pz_good n1 n2) ew rfl rfl (hts _ (pz_gw _ l4 rfl)) (hts _ (pz_gw _ l1 rfl)) ⟨y2, y3, n3⟩ ⟨?_, ?_⟩, l5, hts _ (pz_gw _ l2 rfl)⟩ ⟨pz_blind, hPcU (.ref b :: As)⟩ rfl (by rw [List.length_map]; exact v1') (hl.1.trans hlen) rfl (lv_room (by rw [pz_cz_sum]; exact v4)) hd ⟨hcells, hslots⟩) hS (back (pc + 3) hk)
                  · show d' + 1 ≤ R.frames
                    exact hfr
                  · show 8 + ((pz_mt kk).2.2.1 + 11) + 64 * d' ≤ R.locals
                    omega
                · obtain ⟨q, hq, hqe⟩ := pz_any hp3
                  simp only [Bool.and_eq_true, beq_iff_eq] at hqe
                  obtain ⟨l1, l2, l4, l5, l6⟩ := pz_ln_ok q hq
                  have hnl := E.2.2.2.2.2.2.2.2.1 q hq
                  rw [hqe.1.1, hqe.1.2, hqe.2] at hnl
                  rw [hqe.2] at l2 l4 l5 l6
                  have ew : pz_cwd kk :: pzGW = Cond.code (pz_y kk) (pz_mt kk).2.1 (pz_mt kk).2.2.1 none :: pzGW := by
                    unfold pz_cwd
                    rw [l6]
                    rfl
                  refine pz_callg (va_runIN (As := As.map (pz_cz G)) (rest := rest.map (pz_cz G)) (b := G.1 + b) (nL := (pz_mt k).2.2.1) ⟨hx, hb, hml, hown, hts⟩ hM ⟨va_cnB na hts (pz_good n1 n2) ew rfl rfl hnl (hts _ (pz_gw _ l4 rfl)) ⟨y2, y3, n3⟩ ⟨?_, ?_⟩, l5, hts _ (pz_gw _ l2 rfl)⟩ ⟨pz_blind, hPcU (.ref b :: As)⟩ rfl (by rw [List.length_map]; exact v1') (hl.1.trans hlen) rfl (lv_room (by rw [pz_cz_sum]; exact v4)) hd ⟨hcells, hslots⟩) hS (back (pc + 3) hk)
                  · show d' + 1 ≤ R.frames
                    exact hfr
                  · show 8 + ((pz_mt kk).2.2.1 + 11) + 64 * d' ≤ R.locals
                    omega
          · cases h
      · cases h
