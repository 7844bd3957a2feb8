/-! LOCALS, THE SURROUNDINGS, A FRAME'S CONTEXT -/
def pz_pr (G : pzG) : Nat → pzL → List (Nat × Value)
  | _, [] => []
  | k, none :: t => pz_pr G (k + 1) t
  | k, some v :: t => (k, pz_cz G v) :: pz_pr G (k + 1) t
theorem pz_pr_mem {G : pzG} {q : Nat × Value} : ∀ (ls : pzL) (k : Nat), q ∈ pz_pr G k ls ↔ ∃ j v, ls[j]? = some (some v) ∧ q = (k + j, pz_cz G v)
  | [], k => ⟨fun h => (by cases h), fun ⟨j, v, h, _⟩ => (by simp at h)⟩
  | none :: t, k => by
    show q ∈ pz_pr G (k + 1) t ↔ _
    rw [pz_pr_mem t (k + 1)]
    constructor
    · rintro ⟨j, v, h, rfl⟩
      exact ⟨j + 1, v, by rw [List.getElem?_cons_succ]; exact h, by rw [Nat.add_assoc, Nat.add_comm 1 j]⟩
    · rintro ⟨j, v, h, rfl⟩
      cases j with
      | zero => simp at h
      | succ j => exact ⟨j, v, by rw [List.getElem?_cons_succ] at h; exact h, by rw [Nat.add_assoc, Nat.add_comm 1 j]⟩
  | some w :: t, k => by
    show q ∈ (k, pz_cz G w) :: pz_pr G (k + 1) t ↔ _
    rw [List.mem_cons, pz_pr_mem t (k + 1)]
    constructor
    · rintro (rfl | ⟨j, v, h, rfl⟩)
      · exact ⟨0, w, by simp, rfl⟩
      · exact ⟨j + 1, v, by rw [List.getElem?_cons_succ]; exact h, by rw [Nat.add_assoc, Nat.add_comm 1 j]⟩
    · rintro ⟨j, v, h, rfl⟩
      cases j with
      | zero =>
        rw [List.getElem?_cons_zero] at h
        cases h
        exact Or.inl rfl
      | succ j => exact Or.inr ⟨j, v, by rw [List.getElem?_cons_succ] at h; exact h, by rw [Nat.add_assoc, Nat.add_comm 1 j]⟩
theorem pz_lk_at {G : pzG} {ls : pzL} {lsC : Array Slot} {n i : Nat} {v : Value} (h : lv_has lsC n (pz_pr G 0 ls)) (hv : pz_lk ls i = some v) : lsC[i]? = some (.val (pz_cz G v)) := by
  unfold pz_lk at hv
  split at hv
  · rename_i w e
    cases hv
    have := h.2.2 (i, pz_cz G v) ((pz_pr_mem ls 0).mpr ⟨i, v, e, by rw [Nat.zero_add]⟩)
    exact this
  · cases hv
theorem pz_lk_mem {G : pzG} {ls : pzL} {i : Nat} {v : Value} (hv : pz_lk ls i = some v) : ∃ k : Nat, (pz_pr G 0 ls)[k]? = some (i, pz_cz G v) := by
  unfold pz_lk at hv
  split at hv
  · rename_i w e
    cases hv
    exact List.getElem?_of_mem ((pz_pr_mem ls 0).mpr ⟨i, v, e, by rw [Nat.zero_add]⟩)
  · cases hv
theorem pz_st_len (v : Value) : ∀ (ls : pzL) (i : Nat), (pz_st ls i v).length = ls.length
  | [], _ => rfl
  | _ :: t, 0 => by
    show (some v :: (if v.category = 2 then pz_k0 t else t)).length = _
    split
    · cases t <;> rfl
    · rfl
  | a :: t, n + 1 => by
    show ((if n = 0 then pz_kl a else a) :: pz_st t n v).length = _
    rw [List.length_cons, pz_st_len v t n, List.length_cons]
theorem pz_st_get (v w : Value) : ∀ (ls : pzL) (i j : Nat), (pz_st ls i v)[j]? = some (some w) → (j = i ∧ w = v) ∨ (j ≠ i ∧ ls[j]? = some (some w) ∧ ¬ (j + 1 = i ∧ w.category = 2) ∧ ¬ (v.category = 2 ∧ j = i + 1))
  | [], i, j, h => by simp [pz_st] at h
  | a :: t, 0, j, h => by
    have h : (some v :: (if v.category = 2 then pz_k0 t else t))[j]? = some (some w) := h
    cases j with
    | zero =>
      rw [List.getElem?_cons_zero] at h
      cases h
      exact Or.inl ⟨rfl, rfl⟩
    | succ j =>
      rw [List.getElem?_cons_succ] at h
      refine Or.inr ⟨by omega, ?_, by omega, ?_⟩
      · rw [List.getElem?_cons_succ]
        split at h
        · cases t with
          | nil => simp [pz_k0] at h
          | cons b t =>
            cases j with
            | zero => simp [pz_k0] at h
            | succ j => exact h
        · exact h
      · rintro ⟨h2, h3⟩
        have hj : j = 0 := by omega
        subst hj
        rw [if_pos h2] at h
        cases t with
        | nil => simp [pz_k0] at h
        | cons b t => simp [pz_k0] at h
  | a :: t, n + 1, j, h => by
    have h : ((if n = 0 then pz_kl a else a) :: pz_st t n v)[j]? = some (some w) := h
    cases j with
    | zero =>
      rw [List.getElem?_cons_zero] at h
      refine Or.inr ⟨by omega, ?_, ?_, by omega⟩
      · rw [List.getElem?_cons_zero]
        split at h
        · cases a with
          | none => simp [pz_kl] at h
          | some x =>
            simp only [pz_kl] at h
            split at h
            · cases h
            · exact h
        · exact h
      · rintro ⟨h1, h2⟩
        have hn : n = 0 := by omega
        subst hn
        rw [if_pos rfl] at h
        cases a with
        | none => simp [pz_kl] at h
        | some x =>
          simp only [pz_kl] at h
          split at h
          · cases h
          · rename_i hc
            cases h
            exact hc h2
    | succ j =>
      rw [List.getElem?_cons_succ] at h
      rcases pz_st_get v w t n j h with ⟨h1, h2⟩ | ⟨h1, h2, h3, h4⟩
      · exact Or.inl ⟨by omega, h2⟩
      · exact Or.inr ⟨by omega, by rw [List.getElem?_cons_succ]; exact h2, fun z => h3 ⟨by omega, z.2⟩, fun z => h4 ⟨z.1, by omega⟩⟩
theorem pz_st_has1 {G : pzG} {ls : pzL} {lsC : Array Slot} {n i : Nat} {v : Value} (hc : v.category = 1) (h : lv_has lsC n ((i, pz_cz G v) :: (pz_pr G 0 ls).filter (fun q => !(q.1 == i) && !(q.1 + 1 == i && q.2.category == 2)))) : lv_has lsC n (pz_pr G 0 (pz_st ls i v)) := by
  refine ⟨h.1, h.2.1, fun q hq => ?_⟩
  obtain ⟨j, w, hj, rfl⟩ := (pz_pr_mem _ 0).mp hq
  rcases pz_st_get v w ls i j hj with ⟨h1, h2⟩ | ⟨h1, h2, h3, -⟩
  · subst h1 h2
    rw [Nat.zero_add]
    exact h.2.2 _ List.mem_cons_self
  · refine h.2.2 _ (List.mem_cons_of_mem _ (List.mem_filter.mpr ⟨(pz_pr_mem ls 0).mpr ⟨j, w, h2, rfl⟩, ?_⟩))
    simp only [Nat.zero_add, pz_cz_cat, Bool.and_eq_true, Bool.not_eq_true', beq_eq_false_iff_ne, ne_eq, Bool.and_eq_false_iff]
    refine ⟨h1, ?_⟩
    by_cases e : j + 1 = i
    · exact Or.inr (fun z => h3 ⟨e, z⟩)
    · exact Or.inl e
theorem pz_st_has2 {G : pzG} {ls : pzL} {lsC : Array Slot} {n i : Nat} {v : Value} (hc : v.category = 2) (h : lv_has lsC n ((i, pz_cz G v) :: (pz_pr G 0 ls).filter (fun q => !(q.1 == i) && (!(q.1 == i + 1) && !(q.1 + 1 == i && q.2.category == 2))))) : lv_has lsC n (pz_pr G 0 (pz_st ls i v)) := by
  refine ⟨h.1, h.2.1, fun q hq => ?_⟩
  obtain ⟨j, w, hj, rfl⟩ := (pz_pr_mem _ 0).mp hq
  rcases pz_st_get v w ls i j hj with ⟨h1, h2⟩ | ⟨h1, h2, h3, h4⟩
  · subst h1 h2
    rw [Nat.zero_add]
    exact h.2.2 _ List.mem_cons_self
  · refine h.2.2 _ (List.mem_cons_of_mem _ (List.mem_filter.mpr ⟨(pz_pr_mem ls 0).mpr ⟨j, w, h2, rfl⟩, ?_⟩))
    simp only [Nat.zero_add, pz_cz_cat, Bool.and_eq_true, Bool.not_eq_true', beq_eq_false_iff_ne, ne_eq, Bool.and_eq_false_iff]
    refine ⟨h1, fun z => h4 ⟨hc, z⟩, ?_⟩
    by_cases e : j + 1 = i
    · exact Or.inr (fun z => h3 ⟨e, z⟩)
    · exact Or.inl e
theorem pz_pr_rep (G : pzG) : ∀ (n k : Nat), pz_pr G k (List.replicate n none) = []
  | 0, _ => rfl
  | n + 1, k => pz_pr_rep G n (k + 1)
theorem pz_al_args (G : pzG) (n : Nat) : ∀ (vs : List Value) (k : Nat), pz_pr G k (pz_al vs ++ List.replicate n none) = lv_args k (vs.map (pz_cz G))
  | [], k => pz_pr_rep G n k
  | v :: t, k => by
    show pz_pr G k ((if v.category = 2 then some v :: none :: pz_al t else some v :: pz_al t) ++ List.replicate n none) = (k, pz_cz G v) :: lv_args (if (pz_cz G v).category = 2 then k + 2 else k + 1) (t.map (pz_cz G))
    rw [pz_cz_cat]
    split
    · exact congrArg (List.cons _) (pz_al_args G n t (k + 2))
    · exact congrArg (List.cons _) (pz_al_args G n t (k + 1))
theorem pz_al_len (G : pzG) : ∀ vs : List Value, (lg_sl (vs.map (pz_cz G))).length = (pz_al vs).length
  | [] => rfl
  | v :: t => by
    have ih := pz_al_len G t
    unfold lg_sl at ih ⊢
    rw [List.map_cons, List.flatMap_cons, List.length_append, ih, pz_cz_cat]
    show _ = (if v.category = 2 then some v :: none :: pz_al t else some v :: pz_al t).length
    split
    · rw [List.length_cons, List.length_cons]; simp; omega
    · rw [List.length_cons]; simp; omega
theorem pz_mkL_len {n : Nat} {vs : List Value} (h : (pz_al vs).length ≤ n) : (pz_mkL n vs).length = n := by
  unfold pz_mkL
  rw [List.length_append, List.length_replicate]
  omega
theorem pz_entry (G : pzG) (vs : List Value) {n : Nat} (h : (pz_al vs).length ≤ n) : lv_has ((lg_sl (vs.map (pz_cz G)) ++ List.replicate (n - (lg_sl (vs.map (pz_cz G))).length) Slot.unset).toArray) n (pz_pr G 0 (pz_mkL n vs)) := by
  have h1 := lv_entry (vs.map (pz_cz G)) (n := n) (by rw [pz_al_len]; exact h)
  unfold pz_mkL
  rw [pz_al_args]
  exact h1
/-- what a frame finds beside its cells: the classes, the script, the two static rows, the nest's links -/
def pz_env (X : pzX) (G : pzG) (U : State) : Prop :=
  va_K G.2.2.2.2.2 vwCl (pz_tys G) U ∧ va_X G.2.1 X.1 X.2 U U.heap ∧ G.2.1 < G.1 ∧ G.1 ≤ U.heap.size ∧
  va_Z "PantomimeHorses$Duchy" "COLUMNS_BY_WILL" "[I" (.ref G.2.2.1) (fun q => G.1 ≤ q) U U.heap ∧ va_T .int G.2.2.1 4 (fun j => .int (pz_cols j)) (fun q => G.1 ≤ q) U U.heap ∧
  va_Z "PantomimeHorses$Duchy" "ROWS_BY_WILL" "[I" (.ref G.2.2.2.1) (fun q => G.1 ≤ q) U U.heap ∧ va_T .int G.2.2.2.1 4 (fun j => .int (pz_rows j)) (fun q => G.1 ≤ q) U U.heap ∧
  (∀ q ∈ pzLN, va_Nw (.methodLinkNest (pz_cn q.1) q.2.1 (pz_y q.2.2.1) "PantomimeHorses") U) ∧ va_AO RX4 U
theorem pz_env_mv {X : pzX} {G : pzG} {u U : State} (h : pz_env X G u) (hvm : u.vm.Alike U.vm) (hN : ∀ q ∈ pzLN, va_Nw (.methodLinkNest (pz_cn q.1) q.2.1 (pz_y q.2.2.1) "PantomimeHorses") u → va_Nw (.methodLinkNest (pz_cn q.1) q.2.1 (pz_y q.2.2.1) "PantomimeHorses") U) (hs : u.heap.size ≤ U.heap.size) (hh : ∀ q : Nat, q < u.heap.size → ¬ G.1 ≤ q → U.heap[q]? = u.heap[q]?) : pz_env X G U := by
  obtain ⟨h1, h2, h3, h4, h5, h6, h7, h8, h9, h10⟩ := h
  exact ⟨h1.moved hvm, (h2.kept (hh _ (Nat.lt_of_lt_of_le h3 h4) (Nat.not_le.mpr h3))).moved hvm, h3, Nat.le_trans h4 hs, (h5.kept hh).moved hvm, (h6.kept hh).moved hvm, (h7.kept hh).moved hvm, (h8.kept hh).moved hvm, fun q hq => hN q hq (h9 q hq), h10.moved hvm⟩
theorem pz_env_call {X : pzX} {G : pzG} {U : State} (h : pz_env X G U) (g : JFrame) (mk : MethodId) (a : Array Value) : pz_env X G (U.calling g mk a) :=
  pz_env_mv h (Vm.Alike.refl U.vm) (fun q _ z => va_Nw.same rfl (rfl : U.vm = (U.calling g mk a).vm) z) (Nat.le_refl _) (fun _ _ _ => rfl)
theorem pz_env_in {X : pzX} {G : pzG} {s U : State} {H : Heap} {locs : List Loc} (h : pz_env X G s) (hS : va_S (fun q => G.1 ≤ q) s.heap H locs) (hU : U.heap = H) (hW : s.WarmedH U.vm) : pz_env X G U := by
  subst hU
  exact pz_env_mv h hW.alike (fun q _ z => va_Nw.warmM hW z) hS.1 hS.2.1
/-- a frame of method k, with room for d calls below it -/
def pz_ctx (X : pzX) (G : pzG) (p : Program) (R : Room) (s : State) (m : MethodId) (args : Array Value) (meth : Method) (c : Code) (d k : Nat) : Prop :=
  p.tables.exec = Jvm.exec ∧ c.code = (pz_mt k).2.1 ∧ meth.sig.returnType = (pz_mt k).2.2.2.1 ∧ c.maxLocals = (pz_mt k).2.2.1 ∧ s.vm.findClass (pz_cn (pz_mt k).2.2.2.2) = some m.cls ∧ (∀ w ∈ pzGW, w.before args s = true) ∧ meth.locks = false ∧ meth.name = (pz_y k).name ∧ pz_env X G s ∧ d ≤ R.frames ∧ 64 * d ≤ R.locals
/-- the machine's frame and heap are those of the pure machine -/
def pz_rel (G : pzG) (s : State) (ls : pzL) (S : List pzS) (M : pzM) (J : pzJ) (lsC : Array Slot) (H : Heap) (locs : List Loc) : Prop :=
  lv_has lsC ls.length (pz_pr G 0 ls) ∧ va_P G.2.2.2.2.2 vwCl (pz_ws G S M J) H ∧ G.1 + S.length ≤ H.size ∧ va_S (fun q => G.1 ≤ q) s.heap H locs
theorem pz_S_rf {A : Nat → Prop} {H0 H : Heap} {locs : List Loc} (h : va_S A H0 H locs) : va_S A H H locs := ⟨Nat.le_refl _, fun _ _ _ => rfl, h.2.2⟩
theorem pz_S_tr {A : Nat → Prop} {H0 H H1 : Heap} {locs locs1 : List Loc} (h : va_S A H0 H locs) (h1 : va_S A H H1 locs1) : va_S A H0 H1 locs1 := ⟨Nat.le_trans h.1 h1.1, fun q a b => (h1.2.1 q (Nat.lt_of_lt_of_le a h.1) b).trans (h.2.1 q a b), h1.2.2⟩
theorem pz_fl {m x ci k : Nat} (h : pzLF.any (fun q => q.1 == (pz_mt m).2.2.2.2 && q.2.1 == x && q.2.2.1 == ci && q.2.2.2.1 == k) = true) : ∃ r : vw_C, vwCl[ci]? = some r ∧ k < r.2.2 ∧ Cond.fieldLink (pz_cn (pz_mt m).2.2.2.2) x (r.2.1 k).1 (r.2.1 k).2.1 (r.2.1 k).2.2.1 ∈ pzGW := by
  obtain ⟨q, hq, he⟩ := pz_any h
  simp only [Bool.and_eq_true, beq_iff_eq] at he
  obtain ⟨⟨⟨e1, e2⟩, e3⟩, e4⟩ := he
  have h2 := pz_lf_ok q hq
  split at h2
  · rename_i r hr
    simp only [Bool.and_eq_true, decide_eq_true_eq] at h2
    rw [e1, e2, e4] at h2
    rw [e3] at hr
    exact ⟨r, hr, h2.1, pz_gw _ h2.2 rfl⟩
  · cases h2
theorem pz_fs0 {S : List pzS} {G : pzG} {M : pzM} {a k c : Nat} {rs : List Nat} (h : rs[k]? = some c) : (rs.mapIdx (fun j c => pz_fv G M a j c))[k]? = some (pz_fv G M a k c) := by
  rw [List.getElem?_mapIdx, h]
  rfl
