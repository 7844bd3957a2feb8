/-! THE PURE CELLS AS CELLS OF THE MACHINE -/
/-- where the cells begin, the script, the two static rows, the classes of arrays, the classes -/
abbrev pzG : Type := Nat × Nat × Nat × Nat × (Nat → ClassId) × va_G
def pz_cz (G : pzG) : Value → Value
  | .ref k => .ref (G.1 + k)
  | .retAddr j => .ref (match j with
    | 0 => G.2.1
    | 1 => G.2.2.1
    | _ => G.2.2.2.1)
  | v => v
theorem pz_cz_cat (G : pzG) (v : Value) : (pz_cz G v).category = v.category := by cases v <;> rfl
theorem pz_cz_sum (G : pzG) (r : List Value) : ((r.map (pz_cz G)).map fun v => v.category).sum = (r.map Value.category).sum := by
  rw [List.map_map]
  congr 1
  exact List.map_congr_left (fun v _ => pz_cz_cat G v)
def pz_fv (G : pzG) (M : pzM) (k j c : Nat) : Value := match c with
  | 0 => .int (M k j)
  | 1 => .null
  | r + 2 => .ref (G.1 + r)
def pz_rr (G : pzG) (rs : List Nat) (i : Nat) : Option Nat := match rs[i]? with
  | some (r + 2) => some (G.1 + r)
  | _ => none
def pz_ac (G : pzG) (M : pzM) (J : pzJ) (k t : Nat) (rs : List Nat) : (Nat → Int32) ⊕ (Nat → Int64) ⊕ (Nat → UInt32) ⊕ (Nat → UInt64) ⊕ (Nat → Option Nat) := match t with
  | 0 => .inl (M k)
  | 1 => .inl (M k)
  | 2 => .inr (.inl (J k))
  | _ => .inr (.inr (.inr (.inr (pz_rr G rs))))
def pz_cell (G : pzG) (M : pzM) (J : pzJ) (k : Nat) (sh : pzS) : va_E := match sh with
  | .inl (t, n, rs) => .inl (G.2.2.2.2.1 t, n, pz_ac G M J k t rs)
  | .inr (ci, rs) => .inr (ci, rs.mapIdx (fun j c => pz_fv G M k j c))
def pz_ws (G : pzG) (S : List pzS) (M : pzM) (J : pzJ) : va_W := S.mapIdx (fun k sh => (G.1 + k, pz_cell G M J k sh))
def pz_tys (G : pzG) : List (ClassId × FieldType) := [(G.2.2.2.2.1 0, .int), (G.2.2.2.2.1 1, .boolean), (G.2.2.2.2.1 2, .long), (G.2.2.2.2.1 3, .object RX4)]
def pz_z (sh : pzS) : Nat := match sh with
  | .inl (_, n, _) => n
  | .inr (_, rs) => rs.length
def pz_sl (S : List pzS) : Nat := (S.map pz_z).sum
theorem pz_ws_get {G : pzG} {S : List pzS} {M : pzM} {J : pzJ} {a : Nat} {sh : pzS} (h : S[a]? = some sh) : (pz_ws G S M J)[a]? = some (G.1 + a, pz_cell G M J a sh) := by
  unfold pz_ws
  rw [List.getElem?_mapIdx, h]
  rfl
theorem pz_ws_inv {G : pzG} {S : List pzS} {M : pzM} {J : pzJ} {a : Nat} {q : Nat × va_E} (h : (pz_ws G S M J)[a]? = some q) : ∃ sh, S[a]? = some sh ∧ q = (G.1 + a, pz_cell G M J a sh) := by
  unfold pz_ws at h
  rw [List.getElem?_mapIdx] at h
  cases hs : S[a]? with
  | none => rw [hs] at h; cases h
  | some sh =>
    rw [hs] at h
    exact ⟨sh, rfl, (Option.some.inj h).symm⟩
theorem pz_D (G : pzG) (S : List pzS) (M : pzM) (J : pzJ) : va_D (fun q => G.1 ≤ q) (pz_ws G S M J) := by
  refine ⟨fun i j x y hx hy hxy => ?_, fun k q hk => ?_⟩
  · obtain ⟨a, -, rfl⟩ := pz_ws_inv hx
    obtain ⟨b, -, rfl⟩ := pz_ws_inv hy
    have : G.1 + i = G.1 + j := hxy
    omega
  · obtain ⟨a, -, rfl⟩ := pz_ws_inv hk
    exact Nat.le_add_right _ _
theorem pz_as_get {S : List pzS} {a t n : Nat} (h : pz_as S a = some (t, n)) : ∃ rs, S[a]? = some (.inl (t, n, rs)) := by
  unfold pz_as at h
  split at h
  · rename_i t' n' rs e
    cases h
    exact ⟨rs, e⟩
  · cases h
theorem pz_fs_get {S : List pzS} {a ci k c : Nat} (h : pz_fs S a ci k = some c) : ∃ rs, S[a]? = some (.inr (ci, rs)) ∧ rs[k]? = some c := by
  unfold pz_fs at h
  split at h
  · rename_i c' rs e
    split at h
    · rename_i e2
      subst e2
      exact ⟨rs, e, h⟩
    · cases h
  · cases h
theorem pz_oc_get {S : List pzS} {a c : Nat} (h : pz_oc S a = some c) : ∃ rs, S[a]? = some (.inr (c, rs)) := by
  unfold pz_oc at h
  split at h
  · rename_i c' rs e
    cases h
    exact ⟨rs, e⟩
  · cases h
theorem pz_ra_get {S : List pzS} {a j c : Nat} (h : pz_ra S a j = some c) : ∃ n rs, S[a]? = some (.inl (3, n, rs)) ∧ rs[j]? = some c := by
  unfold pz_ra at h
  split at h
  · rename_i n rs e
    exact ⟨n, rs, e, h⟩
  · cases h
theorem pz_ix_get {i : Int32} {n j : Nat} (h : pz_ix i n = some j) : vp_in i n ∧ i.toNatClampNeg = j := by
  unfold pz_ix at h
  split at h
  · cases h
  · rename_i e
    exact ⟨e, Option.some.inj h⟩
theorem pz_sr_self (M : pzM) (k : Nat) (f : Nat → Int32) : pz_sr M k f k = f := if_pos rfl
theorem pz_sr_ne {M : pzM} {k a : Nat} {f : Nat → Int32} (h : a ≠ k) : pz_sr M k f a = M a := if_neg h
theorem pz_srJ_self (J : pzJ) (k : Nat) (f : Nat → Int64) : pz_srJ J k f k = f := if_pos rfl
theorem pz_srJ_ne {J : pzJ} {k a : Nat} {f : Nat → Int64} (h : a ≠ k) : pz_srJ J k f a = J a := if_neg h
theorem pz_cell_ne {G : pzG} {M M' : pzM} {J J' : pzJ} {k : Nat} (h : M k = M' k) (hJ : J k = J' k) (sh : pzS) : pz_cell G M J k sh = pz_cell G M' J' k sh := by
  unfold pz_cell pz_ac pz_fv
  rw [h, hJ]
/-- one cell is another: the rest as it was -/
theorem pz_ws_set {G : pzG} {S : List pzS} {M M' : pzM} {J J' : pzJ} {a : Nat} {sh sh' : pzS} {x : va_E} (h : S[a]? = some sh) (hx : x = pz_cell G M' J' a sh') (hM : ∀ k, k ≠ a → M' k = M k) (hJ : ∀ k, k ≠ a → J' k = J k) : (pz_ws G S M J).set a (G.1 + a, x) = pz_ws G (S.set a sh') M' J' := by
  have hl : a < S.length := (List.getElem?_eq_some_iff.mp h).1
  apply List.ext_getElem?
  intro k
  by_cases hk : k = a
  · subst hk
    rw [List.getElem?_set_self (by unfold pz_ws; rw [List.length_mapIdx]; exact hl)]
    rw [pz_ws_get (sh := sh') (List.getElem?_set_self hl), hx]
  · rw [List.getElem?_set_ne (Ne.symm hk)]
    unfold pz_ws
    rw [List.getElem?_mapIdx, List.getElem?_mapIdx, List.getElem?_set_ne (Ne.symm hk)]
    cases hs : S[k]? with
    | none => rfl
    | some q =>
      show some (G.1 + k, pz_cell G M J k q) = some (G.1 + k, pz_cell G M' J' k q)
      rw [pz_cell_ne (hM k hk).symm (hJ k hk).symm]
theorem pz_set_self {S : List pzS} {a : Nat} {sh : pzS} (h : S[a]? = some sh) : S.set a sh = S := by
  apply List.ext_getElem?
  intro k
  by_cases hk : k = a
  · subst hk
    rw [List.getElem?_set_self (List.getElem?_eq_some_iff.mp h).1, h]
  · rw [List.getElem?_set_ne (Ne.symm hk)]
theorem pz_ws_setM {G : pzG} {S : List pzS} {M : pzM} {J : pzJ} {a t n : Nat} {rs : List Nat} (h : S[a]? = some (.inl (t, n, rs))) (ht : t = 0 ∨ t = 1) (f : Nat → Int32) : (pz_ws G S M J).set a (G.1 + a, .inl (G.2.2.2.2.1 t, n, .inl f)) = pz_ws G S (pz_sr M a f) J := by
  have e := pz_ws_set (G := G) (M := M) (M' := pz_sr M a f) (J := J) (J' := J) (sh' := .inl (t, n, rs)) (x := .inl (G.2.2.2.2.1 t, n, .inl f)) h (by
    unfold pz_cell pz_ac
    rcases ht with rfl | rfl <;> simp [pz_sr_self]) (fun k hk => pz_sr_ne hk) (fun _ _ => rfl)
  rw [pz_set_self h] at e
  exact e
theorem pz_ws_setJ {G : pzG} {S : List pzS} {M : pzM} {J : pzJ} {a n : Nat} {rs : List Nat} (h : S[a]? = some (.inl (2, n, rs))) (f : Nat → Int64) : (pz_ws G S M J).set a (G.1 + a, .inl (G.2.2.2.2.1 2, n, .inr (.inl f))) = pz_ws G S M (pz_srJ J a f) := by
  have e := pz_ws_set (G := G) (M := M) (M' := M) (J := J) (J' := pz_srJ J a f) (sh' := .inl (2, n, rs)) (x := .inl (G.2.2.2.2.1 2, n, .inr (.inl f))) h (by
    unfold pz_cell pz_ac
    simp [pz_srJ_self]) (fun _ _ => rfl) (fun k hk => pz_srJ_ne hk)
  rw [pz_set_self h] at e
  exact e
theorem pz_ws_setF {G : pzG} {S : List pzS} {M : pzM} {J : pzJ} {a ci k : Nat} {rs : List Nat} (h : S[a]? = some (.inr (ci, rs))) (hk : rs[k]? = some 0) (v : Int32) : (pz_ws G S M J).set a (G.1 + a, .inr (ci, (rs.mapIdx (fun j c => pz_fv G M a j c)).set k (.int v))) = pz_ws G S (pz_sr M a (upd (M a) k v)) J := by
  have hl : k < rs.length := (List.getElem?_eq_some_iff.mp hk).1
  have e := pz_ws_set (G := G) (M := M) (M' := pz_sr M a (upd (M a) k v)) (J := J) (J' := J) (sh' := .inr (ci, rs)) (x := .inr (ci, (rs.mapIdx (fun j c => pz_fv G M a j c)).set k (.int v))) h (by
    unfold pz_cell
    congr 2
    apply List.ext_getElem?
    intro j
    by_cases hj : j = k
    · subst hj
      rw [List.getElem?_set_self (by rw [List.length_mapIdx]; exact hl), List.getElem?_mapIdx, hk]
      show some (Value.int v) = some (pz_fv G (pz_sr M a (upd (M a) j v)) a j 0)
      unfold pz_fv
      rw [pz_sr_self, pk_us]
    · rw [List.getElem?_set_ne (Ne.symm hj), List.getElem?_mapIdx, List.getElem?_mapIdx]
      congr 1
      funext c
      unfold pz_fv
      rw [pz_sr_self, pk_un hj]) (fun k hk => pz_sr_ne hk) (fun _ _ => rfl)
  rw [pz_set_self h] at e
  exact e
theorem pz_ws_setR {G : pzG} {S : List pzS} {M : pzM} {J : pzJ} {a ci k q : Nat} {rs : List Nat} (h : S[a]? = some (.inr (ci, rs))) (hk : k < rs.length) : (pz_ws G S M J).set a (G.1 + a, .inr (ci, (rs.mapIdx (fun j c => pz_fv G M a j c)).set k (.ref (G.1 + q)))) = pz_ws G (S.set a (.inr (ci, rs.set k (q + 2)))) M J := by
  refine pz_ws_set (M := M) (M' := M) (J := J) (J' := J) h ?_ (fun _ _ => rfl) (fun _ _ => rfl)
  unfold pz_cell
  congr 2
  apply List.ext_getElem?
  intro j
  rw [List.getElem?_mapIdx]
  by_cases hj : j = k
  · subst hj
    rw [List.getElem?_set_self (by rw [List.length_mapIdx]; exact hk), List.getElem?_set_self hk]
    rfl
  · rw [List.getElem?_set_ne (Ne.symm hj), List.getElem?_mapIdx, List.getElem?_set_ne (Ne.symm hj)]
theorem pz_ws_setA {G : pzG} {S : List pzS} {M : pzM} {J : pzJ} {a n j q : Nat} {rs : List Nat} (h : S[a]? = some (.inl (3, n, rs))) (hj : j < rs.length) : (pz_ws G S M J).set a (G.1 + a, .inl (G.2.2.2.2.1 3, n, .inr (.inr (.inr (.inr (va_up (pz_rr G rs) j (some (G.1 + q)))))))) = pz_ws G (S.set a (.inl (3, n, rs.set j (q + 2)))) M J := by
  refine pz_ws_set (M := M) (M' := M) (J := J) (J' := J) h ?_ (fun _ _ => rfl) (fun _ _ => rfl)
  unfold pz_cell pz_ac
  congr 7
  funext i
  unfold va_up pz_rr
  by_cases hi : i = j
  · subst hi
    rw [if_pos rfl, List.getElem?_set_self hj]
  · rw [if_neg hi, List.getElem?_set_ne (Ne.symm hi)]
theorem pz_ws_push {G : pzG} {S : List pzS} {M M' : pzM} {J J' : pzJ} {sh : pzS} {x : va_E} (hx : x = pz_cell G M' J' S.length sh) (hM : ∀ k, k < S.length → M' k = M k) (hJ : ∀ k, k < S.length → J' k = J k) : pz_ws G S M J ++ [(G.1 + S.length, x)] = pz_ws G (S ++ [sh]) M' J' := by
  apply List.ext_getElem?
  intro k
  have hl : (pz_ws G S M J).length = S.length := by unfold pz_ws; rw [List.length_mapIdx]
  by_cases hk : k < S.length
  · rw [List.getElem?_append_left (by rw [hl]; exact hk)]
    unfold pz_ws
    rw [List.getElem?_mapIdx, List.getElem?_mapIdx, List.getElem?_append_left hk]
    cases hs : S[k]? with
    | none => rfl
    | some q =>
      show some (G.1 + k, pz_cell G M J k q) = some (G.1 + k, pz_cell G M' J' k q)
      rw [pz_cell_ne (hM k hk).symm (hJ k hk).symm]
  · by_cases hk2 : k = S.length
    · subst hk2
      rw [List.getElem?_append_right (by rw [hl]; exact Nat.le_refl _), hl, Nat.sub_self]
      rw [pz_ws_get (sh := sh) (by rw [List.getElem?_append_right (Nat.le_refl _), Nat.sub_self]; rfl), hx]
      rfl
    · have h1 : ¬ k < S.length + 1 := by omega
      rw [List.getElem?_eq_none (by rw [List.length_append, hl]; simp; omega), List.getElem?_eq_none (by unfold pz_ws; rw [List.length_mapIdx, List.length_append]; simp; omega)]
theorem pz_sl_set {S : List pzS} {a : Nat} {sh sh' : pzS} (h : S[a]? = some sh) (hz : pz_z sh' = pz_z sh) : pz_sl (S.set a sh') = pz_sl S := by
  unfold pz_sl
  rw [List.map_set, hz]
  congr 1
  apply List.ext_getElem?
  intro k
  by_cases hk : k = a
  · subst hk
    rw [List.getElem?_set_self (by rw [List.length_map]; exact (List.getElem?_eq_some_iff.mp h).1), List.getElem?_map, h]
    rfl
  · rw [List.getElem?_set_ne (Ne.symm hk)]
theorem pz_sl_push (S : List pzS) (sh : pzS) : pz_sl (S ++ [sh]) = pz_sl S + pz_z sh := by
  unfold pz_sl
  rw [List.map_append, List.sum_append]
  simp
