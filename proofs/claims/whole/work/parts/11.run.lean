/-! A RUN OF THE PURE MACHINE IS A RUN OF THE MACHINE -/
theorem pz_nx_grow {X : pzX} {d m : Nat} {i : pzI} {is is' : List pzI} {ls ls' : pzL} {st st' : List Value} {S S' : List pzS} {M M' : pzM} {J J' : pzJ} (h : pz_nx X d m i is ls st S M J = some (.inl (is', ls', st', S', M', J'))) : S.length ≤ S'.length ∧ pz_sl S ≤ pz_sl S' := by
  unfold pz_nx at h
  split at h
  all_goals (try unfold pz_ca at h)
  all_goals (repeat' (split at h))
  all_goals first
    | (cases h; done)
    | (cases h; exact ⟨Nat.le_refl _, Nat.le_refl _⟩)
    | (cases h; exact ⟨by simp, by rw [pz_sl_push]; exact Nat.le_add_right _ _⟩)
    | (cases h; exact ⟨by rw [List.length_set]; exact Nat.le_refl _, by rw [pz_sl_set (by assumption) (by first | rfl | exact List.length_set ..)]; exact Nat.le_refl _⟩)
theorem pz_rn_grow {X : pzX} : ∀ (n d m : Nat) (is : List pzI) (ls : pzL) (st : List Value) (S S' : List pzS) (M M' : pzM) (J J' : pzJ) (r : Option Value), pz_rn X n d m is ls st S M J = some (r, S', M', J') → S.length ≤ S'.length ∧ pz_sl S ≤ pz_sl S'
  | 0, _, _, _, _, _, _, _, _, _, _, _, _, h => by cases h
  | n + 1, _, _, [], _, _, _, _, _, _, _, _, _, h => by cases h
  | n + 1, d, m, i :: is, ls, st, S, S', M, M', J, J', r, h => by
    rw [pz_rn] at h
    split at h
    · rename_i hn
      have h1 := pz_nx_grow hn
      have h2 := pz_rn_grow n _ _ _ _ _ _ _ _ _ _ _ _ h
      omega
    · cases h
      exact ⟨Nat.le_refl _, Nat.le_refl _⟩
    · split at h
      · cases h
      · split at h
        · rename_i hc
          have h1 := pz_rn_grow n _ _ _ _ _ _ _ _ _ _ _ _ hc
          have h2 := pz_rn_grow n _ _ _ _ _ _ _ _ _ _ _ _ h
          omega
        · cases h
    · cases h
/-- the instruction at pc gives r back -/
def pz_end (k pc : Nat) (r : Option Value) : Prop := match r with
  | some (.int v) => decode (pz_mt k).2.1 pc = .ok (.ireturn, 1) ∧ ((pz_mt k).2.2.2.1 = some .int ∨ ((pz_mt k).2.2.2.1 = some .boolean ∧ (v = 0 ∨ v = 1)))
  | some (.long _) => decode (pz_mt k).2.1 pc = .ok (.lreturn, 1) ∧ (pz_mt k).2.2.2.1 = some .long
  | none => decode (pz_mt k).2.1 pc = .ok (.return_, 1) ∧ (pz_mt k).2.2.2.1 = none
  | _ => False
theorem pz_nx_ret {X : pzX} {d k pc : Nat} {i : pzI} {is : List pzI} {ls : pzL} {st : List Value} {S : List pzS} {M : pzM} {J : pzJ} {r : Option Value} (h : pz_nx X d k i is ls st S M J = some (.inr (.inl r))) (hok : pz_ok k pc (i :: is) = true) : pz_end k pc r ∧ st = r.toList := by
  unfold pz_nx at h
  split at h
  case h_7 =>
    rename_i z _ _ _ v
    obtain ⟨hd, hp, -⟩ := pz_ok_cons (fun h => Instr.noConfusion h) hok
    have hp := of_decide_eq_true hp
    split at h
    · cases h
    · rename_i hc
      cases h
      refine ⟨⟨hd, ?_⟩, rfl⟩
      rcases hp with ⟨h1, h2⟩ | ⟨h1, h2⟩
      · exact Or.inl h2
      · exact Or.inr ⟨h2, Decidable.byContradiction (fun z => hc ⟨h1, z⟩)⟩
  case h_8 =>
    obtain ⟨hd, hp, -⟩ := pz_ok_cons (fun h => Instr.noConfusion h) hok
    cases h
    exact ⟨⟨hd, of_decide_eq_true hp⟩, rfl⟩
  case h_9 =>
    obtain ⟨hd, hp, -⟩ := pz_ok_cons (fun h => Instr.noConfusion h) hok
    cases h
    exact ⟨⟨hd, of_decide_eq_true hp⟩, rfl⟩
  all_goals (try unfold pz_ca at h)
  all_goals (repeat' (split at h))
  all_goals (cases h; done)
theorem pz_nx_call {X : pzX} {d k : Nat} {i : pzI} {is : List pzI} {ls lsk : pzL} {st rest : List Value} {S : List pzS} {M : pzM} {J : pzJ} {kk : Nat} (h : pz_nx X d k i is ls st S M J = some (.inr (.inr (kk, lsk, rest)))) :
    (∃ xi na cx v, i = (.invokevirtual xi, kk, na, cx, v) ∧ pz_ca 1 S kk (na + 1) cx st = some (.inr (.inr (kk, lsk, rest)))) ∨ (∃ xi na cx v, i = (.invokestatic xi, kk, na, cx, v) ∧ ¬ 900 ≤ kk ∧ pz_ca 0 S kk na cx st = some (.inr (.inr (kk, lsk, rest)))) ∨ (∃ xi na cx v, i = (.invokespecial xi, kk, na, cx, v) ∧ ¬ kk = 999 ∧ pz_ca 2 S kk (na + 1) cx st = some (.inr (.inr (kk, lsk, rest)))) := by
  have key : ∀ {md k' na cx}, pz_ca md S k' na cx st = some (.inr (.inr (kk, lsk, rest))) → k' = kk := by
    intro md k' na cx h
    unfold pz_ca at h
    split at h
    · split at h
      · cases h; rfl
      · cases h
    · cases h
  unfold pz_nx at h
  split at h
  case h_10 =>
    have e := key h
    subst e
    exact Or.inl ⟨_, _, _, _, rfl, h⟩
  case h_11 =>
    split at h
    · split at h <;> cases h
    · rename_i h9
      have e := key h
      subst e
      exact Or.inr (Or.inl ⟨_, _, _, _, rfl, h9, h⟩)
  case h_12 =>
    split at h
    · split at h
      · split at h <;> cases h
      · cases h
    · rename_i h9
      have e := key h
      subst e
      exact Or.inr (Or.inr ⟨_, _, _, _, rfl, h9, h⟩)
  all_goals (repeat' (split at h))
  all_goals (cases h; done)
theorem pz_tk_get : ∀ (n : Nat) (acc st av r : List Value), pz_tk n acc st = some (av, r) → ∃ tk : List Value, tk.length = n ∧ st = tk ++ r ∧ av = tk.reverse ++ acc
  | 0, acc, st, av, r, h => by cases h; exact ⟨[], rfl, rfl, rfl⟩
  | n + 1, acc, [], av, r, h => by cases h
  | n + 1, acc, v :: st, av, r, h => by
    obtain ⟨tk, h1, h2, h3⟩ := pz_tk_get n (v :: acc) st av r h
    exact ⟨v :: tk, by rw [List.length_cons, h1], by rw [h2]; rfl, by rw [h3]; simp⟩
theorem pz_ca_get {md : Nat} {S : List pzS} {k na c : Nat} {st rest : List Value} {lsk : pzL} (h : pz_ca md S k na c st = some (.inr (.inr (k, lsk, rest)))) : ∃ av : List Value, av.length = na ∧ st = av.reverse ++ rest ∧ lsk = pz_mkL (c % 100) av ∧ (rest.map Value.category).sum ≤ 8 ∧ (pz_al av).length ≤ c % 100 ∧ pz_rc md S (c / 100) av = true := by
  unfold pz_ca at h
  split at h
  · rename_i av r htk
    split at h
    · rename_i hc
      cases h
      obtain ⟨tk, h1, h2, h3⟩ := pz_tk_get _ _ _ _ _ htk
      rw [List.append_nil] at h3
      exact ⟨av, by rw [h3, List.length_reverse, h1], by rw [h3, List.reverse_reverse]; exact h2, rfl, hc.1, hc.2.1, hc.2.2⟩
    · cases h
  · cases h
theorem pz_cn_cl : ∀ ci q, vwCl[ci]? = some q → q.1 = pz_cn ci
  | 0, q, h => by cases h; rfl
  | 1, q, h => by cases h; rfl
  | 2, q, h => by cases h; rfl
  | 3, q, h => by cases h; rfl
  | 4, q, h => by cases h; rfl
  | 5, q, h => by cases h; rfl
  | 6, q, h => by cases h; rfl
  | n + 7, q, h => by simp [vwCl] at h
theorem pz_good {kk : Nat} (h0 : 0 < kk) (h1 : kk < pzNM) : GoodIn pzGW (pz_cwd kk :: pzGW) := fun w hw => by
  rcases List.mem_cons.mp hw with rfl | h
  · exact ⟨pz_cw kk h0 h1, pz_gw_good (pz_cw kk h0 h1)⟩
  · exact ⟨h, pz_gw_good h⟩
section PZR
variable {p : Program} {l : Launch} {e : Env} {R : Room} {s : State} {m : MethodId} {args : Array Value} {below : List Frame} {meth : Method} {c : Code} {H : Heap} {locs : List Loc} {cells slots mc ms : Nat} {Q : State → Prop}
theorem pz_callg {v : Option Value} {B : State → Prop} {A : Nat → Prop} {pc : Nat} {ls : Array Slot} {st0 rest : List Value} (hr : va_Run p l e R s m args below meth c H locs cells slots mc ms (F0 m pc ls st0) rest (fun st oc t => oc = .returned v ∧ B t ∧ va_F A st t) A) (hS : va_S A s.heap H locs)
    (kk : ∀ (t : State) (H1 : Heap) (locs1 : List Loc), t.heap = H1 → B t → va_S A s.heap H1 locs1 → W p l e R s m args below meth c H1 locs1 (cells + mc) (slots + ms) Q (F0 m (pc + 3) ls (v.toList ++ rest))) : W p l e R s m args below meth c H locs cells slots Q (F0 m pc ls st0) := by
  intro T hT X
  obtain ⟨w, st₀, t, T', L, h0, X', hL, e1, e2, ⟨hv, hb, hz, hk⟩, st⟩ := hr T hT X
  cases hv
  rw [h0] at hz hk
  obtain ⟨t2, a1, b1⟩ := kk t T'.heap (locs ++ L) e1.symm hb
    ⟨Nat.le_trans hS.1 (by rw [e1]; exact hz), fun q h1 h2 => by rw [e1, hk q (Nat.lt_of_lt_of_le h1 hS.1) h2]; exact hS.2.1 q h1 h2, fun q hq => by
      rcases List.mem_append.mp hq with h | h
      · exact hS.2.2 q h
      · exact hL q h⟩ T' rfl X'
  exact ⟨t2, st t2 a1, b1⟩
end PZR
/-- what a run means for the machine -/
def pz_Runs (X : pzX) (G : pzG) (n : Nat) : Prop :=
  ∀ (d k pc c0 s0 : Nat) (is : List pzI) (ls : pzL) (st : List Value) (S S' : List pzS) (M M' : pzM) (J J' : pzJ) (r : Option Value)
    (p : Program) (l : Launch) (e : Env) (R : Room) (s : State) (m : MethodId) (args : Array Value) (below : List Frame) (meth : Method) (c : Code) (Q : State → Prop) (lsC : Array Slot) (H : Heap) (locs : List Loc),
    pz_ctx X G p R s m args meth c d k → pz_rn X n d k is ls st S M J = some (r, S', M', J') → pz_ok k pc is = true → ls.length = (pz_mt k).2.2.1 → pz_rel G s ls S M J lsC H locs →
    s.heap.size = G.1 + c0 ∧ c0 ≤ S.length ∧ s0 ≤ pz_sl S → S'.length - c0 ≤ R.cells ∧ pz_sl S' - s0 ≤ R.slots →
    (∀ pc' lsC' H' locs', pz_end k pc' r → va_P G.2.2.2.2.2 vwCl (pz_ws G S' M' J') H' → G.1 + S'.length ≤ H'.size → va_S (fun q => G.1 ≤ q) s.heap H' locs' → W p l e R s m args below meth c H' locs' (S'.length - c0) (pz_sl S' - s0) Q (F0 m pc' lsC' (r.toList.map (pz_cz G)))) →
    W p l e R s m args below meth c H locs (S.length - c0) (pz_sl S - s0) Q (F0 m pc lsC (st.map (pz_cz G)))
def pz_rm (d : Nat) (S S' : List pzS) : Room := { frames := d, cells := S'.length - S.length, slots := pz_sl S' - pz_sl S, locals := 64 * d }
def pz_Pc (X : pzX) (G : pzG) (av : List Value) (S : List pzS) (M : pzM) (J : pzJ) : Array Value → State → Prop := va_Pc (av.map (pz_cz G)) (fun U => U.heap.size = G.1 + S.length ∧ va_P G.2.2.2.2.2 vwCl (pz_ws G S M J) U.heap ∧ pz_env X G U)
def pz_Qc (G : pzG) (r : Option Value) (S : List pzS) (M : pzM) (J : pzJ) : Array Value → State → Outcome → State → Prop := fun _ st oc t => oc = .returned (r.map (pz_cz G)) ∧ (G.1 + S.length ≤ t.heap.size ∧ va_P G.2.2.2.2.2 vwCl (pz_ws G S M J) t.heap) ∧ va_F (fun q => G.1 ≤ q) st t
set_option maxHeartbeats 1000000 in
/-- a callee's contract -/
theorem pz_met {X : pzX} {G : pzG} {n : Nat} (IH : pz_Runs X G n) (l : Launch) {d kk : Nat} (h0 : 0 < kk) (h1 : kk < pzNM) {av : List Value} {S S' : List pzS} {M M' : pzM} {J J' : pzJ} {r : Option Value} (hal : (pz_al av).length ≤ (pz_mt kk).2.2.1)
    (hr : pz_rn X n d kk (pz_blk kk 0) (pz_mkL (pz_mt kk).2.2.1 av) [] S M J = some (r, S', M', J')) :
    Met l (pz_y kk) (pz_cwd kk :: pzGW) (pz_rm d S S') (pz_Pc X G av S M J) (pz_Qc G r S' M' J') (S'.length - S.length) (pz_sl S' - pz_sl S) (fun q => G.1 ≤ q) := by
  obtain ⟨q1, -, -, q4⟩ := pz_mt_ok kk h1
  refine Met.ofW (cc := (pz_mt kk).2.1) (maxL := (pz_mt kk).2.2.1) (ret := (pz_mt kk).2.2.2.1) q1 rfl ?_
  intro p e s m args below meth c s₁ B hml hv
  obtain ⟨rfl, hsz, hP, hE⟩ := hv
  have hts : ∀ w ∈ pzGW, w.before (av.map (pz_cz G)).toArray s = true := fun w hw => atoms_spec (ws := pz_cwd kk :: pzGW) B.pre w (List.mem_cons_of_mem _ hw)
  have hown : s.vm.findClass (pz_cn (pz_mt kk).2.2.2.2) = some m.cls := by rw [q4]; exact findClass_of_methodNamed B.named
  have hlocks := B.notSynchronized
  have hret := B.returns
  have hnm : meth.name = (pz_y kk).name := (name_of_methodNamed B.named B.method).1
  rw [lg_entry_eq, ← hml.symm.trans hml]
  have hl := pz_entry G av hal
  have key := IH d kk 0 S.length (pz_sl S) (pz_blk kk 0) (pz_mkL (pz_mt kk).2.2.1 av) [] S S' M M' J J' r p l e (pz_rm d S S') s m (av.map (pz_cz G)).toArray below meth c (MQ below (pz_Qc G r S' M' J') (av.map (pz_cz G)).toArray s (S'.length - S.length) (pz_sl S' - pz_sl S) (fun q => G.1 ≤ q)) _ s.heap []
    ⟨B.exec, B.bytes, hret, hml, hown, hts, hlocks, hnm, hE, Nat.le_refl _, Nat.le_refl _⟩ hr (pz_okb kk 0) (pz_mkL_len hal) ⟨by rw [pz_mkL_len hal]; exact hl, hP, by rw [hsz]; exact Nat.le_refl _, va_S.rf⟩ ⟨hsz, Nat.le_refl _, Nat.le_refl _⟩ ⟨Nat.le_refl _, Nat.le_refl _⟩ ?_
  · rw [Nat.sub_self, Nat.sub_self] at key
    exact key
  · intro pc' lsC' H' locs' hend hP' hsz' hS'
    have hq : ∀ t : State, t.heap = H' → s.WarmedH t.vm → pz_Qc G r S' M' J' (av.map (pz_cz G)).toArray s (.returned (r.map (pz_cz G))) t := fun t ht _ => ⟨rfl, ⟨by rw [ht]; exact hsz', by rw [ht]; exact hP'⟩, hS'.F ht⟩
    match r, hend, hq with
    | some (.int v), hend, hq =>
      rcases hend.2 with h2 | ⟨h2, h3⟩
      · exact W.iret B.exec B.bytes (hret.trans h2) hq hS'.2.2 hend.1
      · exact W.zret B.exec B.bytes (hret.trans h2) (by rcases h3 with rfl | rfl <;> rfl) hq hS'.2.2 hend.1
    | some (.long v), hend, hq => exact W.lret B.exec B.bytes (hret.trans hend.2) hq hS'.2.2 hend.1
    | none, hend, hq => exact W.vret B.exec B.bytes (hret.trans hend.2) hq hS'.2.2 hend.1
    | some (.float _), hend, _ => exact hend.elim
    | some (.double _), hend, _ => exact hend.elim
    | some .null, hend, _ => exact hend.elim
    | some (.ref _), hend, _ => exact hend.elim
    | some (.retAddr _), hend, _ => exact hend.elim
