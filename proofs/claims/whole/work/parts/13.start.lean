def R_law : String := "PantomimeHorsesLaw"
def lw_P (b : Addr) (xs : List Int32) (args : Array Value) (s : State) : Prop := args = #[.ref b] ∧ s.IntsAt b xs ∧ xs.length ≤ 384 ∧ (Jvm.Cond.and given_1 narrow_1).before args s = true
def lw_Q (_ : Array Value) (s : State) (o : Outcome) (t : State) : Prop := o = .returned (some (.int 1)) ∧ Framed s o t [] 600000 7302250
def lw_Z (below : List Frame) (a : Array Value) (s : State) : State → Prop := fun t => ∃ o, t.status = .running ∧ Ended t below o ∧ lw_Q a s o t
/-- the law's own end, with 1 on the stack, nothing written that was there before, its room as the claim has it -/
theorem lw_ret {p : Program} {l : Launch} {e : Env} {s : State} {m : MethodId} {below : List Frame} {meth : Method} {c : Code} {b : Nat} (hx : p.tables.exec = Jvm.exec) (hb : c.code = code) (hr : meth.sig.returnType = ret) (hlocks : meth.locks = false) {pc : Nat} {H : Heap} {ls : Array Slot} (hdg : decode code pc = .ok (.ireturn, 1)) : W p l e room_1 s m #[Value.ref b] below meth c H [] 600000 7302250 (lw_Z below #[Value.ref b] s) (F0 m pc ls [.int 1]) := by
  intro T hT X
  obtain ⟨fs, hret, hrun, hended, hW, hframe⟩ := X.leave (v := some (.int 1)) (hlocks := hlocks) (fun h => by rw [hr] at h; cases h)
  have hmeth' : T.vm.method? m = some meth := X.method'
  refine ⟨T.setFrames fs, ?_, .returned (some (.int 1)), hrun, hended, rfl, ⟨_, rfl⟩, hW, hframe⟩
  jvm_step X.here [X.here.top, hx, hb, hdg, hmeth', hr, ret, narrow_b1]
  (try refine ⟨rfl, ?_⟩); (try refine ⟨rfl, ?_⟩)
  first | (intro acts; rw [hret _ acts rfl rfl rfl]) | rw [hret _ _ rfl rfl rfl]
  exact Steps.refl _
/-- what holds at the law's entry: the machine, the code, the tables' words (any of lw_tbl by 'hts w (by decide +kernel)'), the script of L ints xs at the cell b, what the Statement gives of the start (any of its parts by flat_of_before) -/
def lw_At (p : Program) (s : State) (m : MethodId) (meth : Method) (c : Code) (b L : Nat) (xs : Nat → Int32) : Prop :=
  p.tables.exec = Jvm.exec ∧ c.code = code ∧ meth.sig.returnType = ret ∧ c.maxLocals = 4 ∧ s.vm.findClass R_law = some m.cls ∧ (∀ w ∈ lw_tbl, w.before #[Value.ref b] s = true) ∧ va_X b L xs s s.heap ∧ b < s.heap.size ∧ meth.locks = false ∧ (Jvm.Cond.and given_1 narrow_1).before #[Value.ref b] s = true
/-- THE LAW, in the pure machine: on every script it comes to its end with 1 -/
def pz_Law : Prop := ∀ (L : Nat) (xs : Nat → Int32), L ≤ 384 → pz_wp (L, xs) 1000 0 (pz_blk 0 0) [some (.retAddr 0), none, none, none] [] [] (fun _ _ => 0) (fun _ _ => 0) (fun r S _ _ => r = some (.int 1) ∧ S.length ≤ 600000 ∧ pz_sl S ≤ 7302250)
theorem pz_tC {args : Array Value} {s : State} (h : (Jvm.Cond.and given_1 narrow_1).before args s = true) (hA : ∀ a : Nat, a < s.heap.size → ¬ (fun q : Nat => s.heap.size ≤ q) a) : ∃ t : Nat, (Term.static "PantomimeHorses$Duchy" "COLUMNS_BY_WILL" "[I").eval args s none [] s = some (.ref t) ∧ va_T .int t 4 (fun j => .int (pz_cols j)) (fun q => s.heap.size ≤ q) s s.heap := by
  have hs := flat_of_before _ h
  refine va_Tof (by decide) (hs _ (by decide +kernel)) (va_eqt (hs (.eq (.length (.static "PantomimeHorses$Duchy" "COLUMNS_BY_WILL" "[I")) (.int 4)) (by decide +kernel))) ?_ hA
  intro j hj
  match j, hj with
  | 0, _ => exact va_eqt (hs (.eq (.elem (.static "PantomimeHorses$Duchy" "COLUMNS_BY_WILL" "[I") (.int 0)) (.int 0)) (by decide +kernel))
  | 1, _ => exact va_eqt (hs (.eq (.elem (.static "PantomimeHorses$Duchy" "COLUMNS_BY_WILL" "[I") (.int 1)) (.int 1)) (by decide +kernel))
  | 2, _ => exact va_eqt (hs (.eq (.elem (.static "PantomimeHorses$Duchy" "COLUMNS_BY_WILL" "[I") (.int 2)) (.int 0)) (by decide +kernel))
  | 3, _ => exact va_eqt (hs (.eq (.elem (.static "PantomimeHorses$Duchy" "COLUMNS_BY_WILL" "[I") (.int 3)) (.int (-1))) (by decide +kernel))
  | n + 4, hj => exact absurd hj (by omega)
theorem pz_tR {args : Array Value} {s : State} (h : (Jvm.Cond.and given_1 narrow_1).before args s = true) (hA : ∀ a : Nat, a < s.heap.size → ¬ (fun q : Nat => s.heap.size ≤ q) a) : ∃ t : Nat, (Term.static "PantomimeHorses$Duchy" "ROWS_BY_WILL" "[I").eval args s none [] s = some (.ref t) ∧ va_T .int t 4 (fun j => .int (pz_rows j)) (fun q => s.heap.size ≤ q) s s.heap := by
  have hs := flat_of_before _ h
  refine va_Tof (by decide) (hs _ (by decide +kernel)) (va_eqt (hs (.eq (.length (.static "PantomimeHorses$Duchy" "ROWS_BY_WILL" "[I")) (.int 4)) (by decide +kernel))) ?_ hA
  intro j hj
  match j, hj with
  | 0, _ => exact va_eqt (hs (.eq (.elem (.static "PantomimeHorses$Duchy" "ROWS_BY_WILL" "[I") (.int 0)) (.int (-1))) (by decide +kernel))
  | 1, _ => exact va_eqt (hs (.eq (.elem (.static "PantomimeHorses$Duchy" "ROWS_BY_WILL" "[I") (.int 1)) (.int 0)) (by decide +kernel))
  | 2, _ => exact va_eqt (hs (.eq (.elem (.static "PantomimeHorses$Duchy" "ROWS_BY_WILL" "[I") (.int 2)) (.int 1)) (by decide +kernel))
  | 3, _ => exact va_eqt (hs (.eq (.elem (.static "PantomimeHorses$Duchy" "ROWS_BY_WILL" "[I") (.int 3)) (.int 0)) (by decide +kernel))
  | n + 4, hj => exact absurd hj (by omega)
theorem pz_arr {args : Array Value} {s : State} {ty : FieldType} (h : (Cond.arrayClass ty).before args s = true) : ∃ cA : ClassId, ArrOfT s cA ty ∧ s.vm.findClass ("[" ++ ty.toString) = some cA := by
  obtain ⟨cA, kA, comp, h1, h2, h3⟩ := Cond.arrayClass_spec h
  exact ⟨cA, fun n z => ⟨fun k h => (by cases h), kA, h2, comp, h3⟩, h1⟩
theorem pz_arrO {args : Array Value} {s : State} {C : String} (h : (Cond.arrayOver (.object C)).before args s = true) : ∃ cA : ClassId, ArrOfT s cA (.object C) ∧ va_RA s cA (.object C) := by
  obtain ⟨comp, cA, kA, h1, -, h2, h3, h4⟩ := Cond.arrayOver_spec h
  exact ⟨cA, fun n z => ⟨fun k h => (by cases h), kA, h2, comp, h3⟩, kA, comp, h2, h3, h1, h4⟩
theorem pz_ln_in : ∀ q ∈ pzLN, Cond.methodLinkNest (pz_cn q.1) q.2.1 (pz_y q.2.2.1) "PantomimeHorses" ∈ lw_tbl := fun q hq => List.mem_of_getElem? (pz_ln_ok q hq).1
set_option maxHeartbeats 4000000 in
set_option maxRecDepth 100000 in
theorem pz_start (hpure : pz_Law) {p : Program} {e : Env} {s : State} {m : MethodId} {below : List Frame} {meth : Method} {c : Code} (l : Launch) {b L : Nat} {xs : Nat → Int32} (hL : L ≤ 384) (C0 : lw_At p s m meth c b L xs) (hnm : meth.name = "law") : W p l e room_1 s m #[Value.ref b] below meth c s.heap [] 0 0 (lw_Z below #[Value.ref b] s) (entryFrame m ([Value.ref b] : List Value).toArray 4) := by
  obtain ⟨hx, hb, hr, hml, hown, hts, hX, hbl, hlocks, hgv⟩ := C0
  have hA : ∀ a : Nat, a < s.heap.size → ¬ (fun q : Nat => s.heap.size ≤ q) a := fun a h => Nat.not_le.mpr h
  obtain ⟨n, r, S', M', J', hrn, hr1, hS1, hS2⟩ := hpure L xs hL
  obtain ⟨tC, hC1, hC2⟩ := pz_tC hgv hA
  obtain ⟨tR, hR1, hR2⟩ := pz_tR hgv hA
  have hZC := va_Zof (hts (.laysStatic "PantomimeHorses$Duchy" "COLUMNS_BY_WILL" "[I") (by decide +kernel)) (hts (.initialized "PantomimeHorses$Duchy") (by decide +kernel)) hC1 hA
  have hZR := va_Zof (hts (.laysStatic "PantomimeHorses$Duchy" "ROWS_BY_WILL" "[I") (by decide +kernel)) (hts (.initialized "PantomimeHorses$Duchy") (by decide +kernel)) hR1 hA
  obtain ⟨cI, aI1, aI2⟩ := pz_arr (hts (.arrayClass .int) (by decide +kernel))
  obtain ⟨cB, aB1, aB2⟩ := pz_arr (hts (.arrayClass .boolean) (by decide +kernel))
  obtain ⟨cL, aL1, aL2⟩ := pz_arr (hts (.arrayClass .long) (by decide +kernel))
  have hAO := hts (.arrayOver (.object RX4)) (by decide +kernel)
  obtain ⟨cO, aO1, aO2⟩ := pz_arrO hAO
  obtain ⟨c0, iS0, hKn0⟩ := u_known (C := RX0) (T := TX0) (N := 2) (n := 2) hts (fun w hw => pz_cl0 (RX0, TX0, 2) (by simp [vwCl]) w hw) (hts (.instantiable RX0 2) (by decide +kernel))
  obtain ⟨c1, iS1, hKn1⟩ := u_known (C := RX1) (T := TX1) (N := 10) (n := 10) hts (fun w hw => pz_cl0 (RX1, TX1, 10) (by simp [vwCl]) w hw) (hts (.instantiable RX1 10) (by decide +kernel))
  obtain ⟨c2, iS2, hKn2⟩ := u_known (C := RX2) (T := TX2) (N := 4) (n := 4) hts (fun w hw => pz_cl0 (RX2, TX2, 4) (by simp [vwCl]) w hw) (hts (.instantiable RX2 4) (by decide +kernel))
  obtain ⟨c3, iS3, hKn3⟩ := u_known (C := RX3) (T := TX3) (N := 5) (n := 5) hts (fun w hw => pz_cl0 (RX3, TX3, 5) (by simp [vwCl]) w hw) (hts (.instantiable RX3 5) (by decide +kernel))
  obtain ⟨c4, iS4, hKn4⟩ := u_known (C := RX4) (T := TX4) (N := 4) (n := 4) hts (fun w hw => pz_cl0 (RX4, TX4, 4) (by simp [vwCl]) w hw) (hts (.instantiable RX4 4) (by decide +kernel))
  obtain ⟨c5, iS5, hKn5⟩ := u_known (C := RX5) (T := TX5) (N := 8) (n := 8) hts (fun w hw => pz_cl0 (RX5, TX5, 8) (by simp [vwCl]) w hw) (hts (.instantiable RX5 8) (by decide +kernel))
  obtain ⟨c6, iS6, hKn6⟩ := u_known (C := RX6) (T := TX6) (N := 34) (n := 34) hts (fun w hw => pz_cl0 (RX6, TX6, 34) (by simp [vwCl]) w hw) (hts (.instantiable RX6 34) (by decide +kernel))
  obtain ⟨dC, dI, hKc⟩ : ∃ (dC : Nat → ClassId) (dI : Nat → Nat → Nat), ∀ (k : Nat) (q : vw_C), vwCl[k]? = some q → u_Kn s q.1 q.2.1 q.2.2 (dC k) (dI k) := by
    refine ⟨fun k => if k = 0 then c0 else if k = 1 then c1 else if k = 2 then c2 else if k = 3 then c3 else if k = 4 then c4 else if k = 5 then c5 else c6, fun k => if k = 0 then iS0 else if k = 1 then iS1 else if k = 2 then iS2 else if k = 3 then iS3 else if k = 4 then iS4 else if k = 5 then iS5 else iS6, ?_⟩
    intro k q hq
    match k, hq with
    | 0, hq => cases hq; exact hKn0
    | 1, hq => cases hq; exact hKn1
    | 2, hq => cases hq; exact hKn2
    | 3, hq => cases hq; exact hKn3
    | 4, hq => cases hq; exact hKn4
    | 5, hq => cases hq; exact hKn5
    | 6, hq => cases hq; exact hKn6
    | k + 7, hq => simp [vwCl] at hq
  have hE : pz_env (L, xs) (s.heap.size, b, tC, tR, (fun t => if t = 0 then cI else if t = 1 then cB else if t = 2 then cL else cO), (dC, dI)) s := by
    refine ⟨⟨hKc, fun k q hk => ?_⟩, hX, hbl, Nat.le_refl _, hZC, hC2, hZR, hR2, fun q hq => va_Nw.of rfl (hts _ (pz_ln_in q hq)), va_AO.of hAO⟩
    match k, hk with
    | 0, hk => cases hk; exact ⟨aI1, aI2⟩
    | 1, hk => cases hk; exact ⟨aB1, aB2⟩
    | 2, hk => cases hk; exact ⟨aL1, aL2⟩
    | 3, hk => cases hk; exact ⟨aO1, aO2⟩
    | n + 4, hk => simp [pz_tys] at hk
  have hP : va_P (dC, dI) vwCl [] s.heap := fun k q h => by simp at h
  rw [lg_entry_eq]
  have hl := pz_entry (s.heap.size, b, tC, tR, (fun t => if t = 0 then cI else if t = 1 then cB else if t = 2 then cL else cO), (dC, dI)) [.retAddr 0] (n := 4) (by decide)
  have key := pz_run (L, xs) (s.heap.size, b, tC, tR, (fun t => if t = 0 then cI else if t = 1 then cB else if t = 2 then cL else cO), (dC, dI)) n 1000 0 0 0 0 (pz_blk 0 0) [some (.retAddr 0), none, none, none] [] [] S' _ M' _ J' r p l e room_1 s m #[Value.ref b] below meth c (lw_Z below #[Value.ref b] s) _ s.heap []
    ⟨hx, hb, hr, hml, hown, fun w hw => hts w (pz_gw_lw hw), hlocks, hnm, hE, by decide, by decide⟩ hrn (pz_okb 0 0) rfl ⟨hl, hP, Nat.le_refl _, va_S.rf⟩ ⟨rfl, Nat.le_refl _, Nat.le_refl _⟩ ⟨hS1, hS2⟩ ?_
  · exact key
  · intro pc' lsC' H' locs' hend hP' hsz' hS'
    subst hr1
    refine va_forget (fun q hq => hS'.2.2 q hq) ?_
    refine W.widen (k := 600000) (n := 7302250) hS1 hS2 ?_
    exact lw_ret hx hb hr hlocks hend.1
