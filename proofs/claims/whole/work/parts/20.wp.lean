theorem pz_mono {X : pzX} : ∀ (n d m : Nat) (is : List pzI) (ls : pzL) (st : List Value) (S : List pzS) (M : pzM) (J : pzJ) (r : Option Value × List pzS × pzM × pzJ), pz_rn X n d m is ls st S M J = some r → pz_rn X (n + 1) d m is ls st S M J = some r
  | 0, _, _, _, _, _, _, _, _, _, h => by cases h
  | n + 1, _, _, [], _, _, _, _, _, _, h => by cases h
  | n + 1, d, m, i :: is, ls, st, S, M, J, r, h => by
    rw [pz_rn] at h ⊢
    cases hn : pz_nx X d m i is ls st S M J with
    | none => rw [hn] at h; cases h
    | some a =>
      rw [hn] at h
      match a, h with
      | .inl (is', ls', st', S', M', J'), h => exact pz_mono n _ _ _ _ _ _ _ _ _ h
      | .inr (.inl r'), h => exact h
      | .inr (.inr (k, lsk, rest)), h =>
        cases d with
        | zero => cases h
        | succ d =>
          dsimp only at h ⊢
          cases hc : pz_rn X n d k (pz_blk k 0) lsk [] S M J with
          | none => rw [hc] at h; cases h
          | some q =>
            rw [hc] at h
            rw [pz_mono n _ _ _ _ _ _ _ _ _ hc]
            exact pz_mono n _ _ _ _ _ _ _ _ _ h
theorem pz_mono2 {X : pzX} {n d m : Nat} {is : List pzI} {ls : pzL} {st : List Value} {S : List pzS} {M : pzM} {J : pzJ} {r : Option Value × List pzS × pzM × pzJ} (h : pz_rn X n d m is ls st S M J = some r) (k : Nat) : pz_rn X (n + k) d m is ls st S M J = some r := by
  induction k with
  | zero => exact h
  | succ k ih => exact pz_mono _ _ _ _ _ _ _ _ _ _ ih
theorem pz_det {X : pzX} {n n2 d m : Nat} {is : List pzI} {ls : pzL} {st : List Value} {S : List pzS} {M : pzM} {J : pzJ} {r r2 : Option Value × List pzS × pzM × pzJ} (h : pz_rn X n d m is ls st S M J = some r) (h2 : pz_rn X n2 d m is ls st S M J = some r2) : r = r2 := by
  have a := pz_mono2 h n2
  have b := pz_mono2 h2 n
  rw [Nat.add_comm] at b
  rw [a] at b
  exact Option.some.inj b
section PZW
variable {X : pzX} {d m : Nat} {is : List pzI} {ls : pzL} {st r : List Value} {S : List pzS} {M : pzM} {J : pzJ} {Q : Option Value → List pzS → pzM → pzJ → Prop}
theorem pz_go {i : pzI} {is' : List pzI} {ls' : pzL} {st' : List Value} {S' : List pzS} {M' : pzM} {J' : pzJ} (h : pz_nx X d m i is ls st S M J = some (.inl (is', ls', st', S', M', J'))) : pz_wp X d m (i :: is) ls st S M J Q = pz_wp X d m is' ls' st' S' M' J' Q := by
  apply propext
  constructor
  · rintro ⟨n, r, S2, M2, J2, h1, h2⟩
    cases n with
    | zero => cases h1
    | succ n =>
      rw [pz_rn, h] at h1
      exact ⟨n, r, S2, M2, J2, h1, h2⟩
  · rintro ⟨n, r, S2, M2, J2, h1, h2⟩
    exact ⟨n + 1, r, S2, M2, J2, by rw [pz_rn, h]; exact h1, h2⟩
theorem pz_ret {i : pzI} {v : Option Value} (h : pz_nx X d m i is ls st S M J = some (.inr (.inl v))) : pz_wp X d m (i :: is) ls st S M J Q = Q v S M J := by
  apply propext
  constructor
  · rintro ⟨n, r, S2, M2, J2, h1, h2⟩
    cases n with
    | zero => cases h1
    | succ n =>
      rw [pz_rn, h] at h1
      cases h1
      exact h2
  · intro h2
    exact ⟨1, v, S, M, J, by rw [pz_rn, h], h2⟩
/-- what comes behind a call -/
def pz_ct (X : pzX) (d m : Nat) (is : List pzI) (ls : pzL) (rest : List Value) (Q : Option Value → List pzS → pzM → pzJ → Prop) : Option Value → List pzS → pzM → pzJ → Prop := fun r S M J => pz_wp X d m is ls (r.toList ++ rest) S M J Q
theorem pz_ct_s {rest : List Value} {v : Value} : pz_ct X d m is ls rest Q (some v) S M J = pz_wp X d m is ls (v :: rest) S M J Q := rfl
theorem pz_ct_n {rest : List Value} : pz_ct X d m is ls rest Q none S M J = pz_wp X d m is ls rest S M J Q := rfl
theorem pz_cl {i : pzI} {k : Nat} {lsk : pzL} {rest : List Value} (h : pz_nx X (d + 1) m i is ls st S M J = some (.inr (.inr (k, lsk, rest)))) : pz_wp X (d + 1) m (i :: is) ls st S M J Q = pz_wp X d k (pz_blk k 0) lsk [] S M J (pz_ct X (d + 1) m is ls rest Q) := by
  apply propext
  constructor
  · rintro ⟨n, r, S2, M2, J2, h1, h2⟩
    cases n with
    | zero => cases h1
    | succ n =>
      rw [pz_rn, h] at h1
      dsimp only at h1
      cases hc : pz_rn X n d k (pz_blk k 0) lsk [] S M J with
      | none => rw [hc] at h1; cases h1
      | some q =>
        obtain ⟨r3, S3, M3, J3⟩ := q
        rw [hc] at h1
        exact ⟨n, r3, S3, M3, J3, hc, n, r, S2, M2, J2, h1, h2⟩
  · rintro ⟨n, r3, S3, M3, J3, hc, n2, r, S2, M2, J2, h1, h2⟩
    refine ⟨n + n2 + 1, r, S2, M2, J2, ?_, h2⟩
    rw [pz_rn, h]
    dsimp only
    rw [pz_mono2 hc n2]
    dsimp only
    have h3 := pz_mono2 h1 n
    rw [Nat.add_comm] at h3
    exact h3
theorem pz_imp {Q2 : Option Value → List pzS → pzM → pzJ → Prop} (h : pz_wp X d m is ls st S M J Q) (hq : ∀ r S M J, Q r S M J → Q2 r S M J) : pz_wp X d m is ls st S M J Q2 := by
  obtain ⟨n, r, S2, M2, J2, h1, h2⟩ := h
  exact ⟨n, r, S2, M2, J2, h1, hq _ _ _ _ h2⟩
def pz_b (c : Prop) [Decidable c] : Int32 := if c then 1 else 0
theorem pz_b0 (c : Prop) [Decidable c] : (pz_b c = 0) = ¬ c := by
  unfold pz_b
  split <;> simp [*]
theorem pz_b1 (c : Prop) [Decidable c] : (pz_b c = 1) = c := by
  unfold pz_b
  split <;> simp [*]
theorem pz_b01 (c : Prop) [Decidable c] : (pz_b c = 0 ∨ pz_b c = 1) = True := by
  unfold pz_b
  split <;> simp
theorem pz_bt {c : Prop} [Decidable c] (h : c) : (1 : Int32) = pz_b c := (if_pos h).symm
theorem pz_bf {c : Prop} [Decidable c] (h : ¬ c) : (0 : Int32) = pz_b c := (if_neg h).symm
/-- a field: a number, or which cell -/
def pz_fk (S : List pzS) (a ci k : Nat) : Option (Option Nat) := match pz_fs S a ci k with
  | some 0 => some none
  | some (q + 2) => some (some q)
  | _ => none
def pz_rk (S : List pzS) (a j : Nat) : Option Nat := match pz_ra S a j with
  | some (q + 2) => some q
  | _ => none
theorem pz_none (h : ∀ n, pz_rn X n d m is ls st S M J = none) : pz_wp X d m is ls st S M J Q = False := by
  apply propext
  constructor
  · rintro ⟨n, r, S2, M2, J2, h1, h2⟩
    rw [h n] at h1
    cases h1
  · exact False.elim
theorem pz_nn {i : pzI} (h : pz_nx X d m i is ls st S M J = none) : pz_wp X d m (i :: is) ls st S M J Q = False := by
  refine pz_none (fun n => ?_)
  cases n with
  | zero => rfl
  | succ n => rw [pz_rn, h]

theorem w_ft {t q3 : Nat} {q4 : Int32} : pz_wp X d m ((.nop, t, 1, q3, q4) :: is) ls st S M J Q = pz_wp X d m (pz_blk m t) (ls) (st) (S) (M) (J) Q := pz_go rfl
theorem w_goto {q1 q2 q3 : Nat} {q4 : Int32} {off : Int} : pz_wp X d m ((.goto off, q1, q2, q3, q4) :: is) ls (st) S M J Q = pz_wp X d m (pz_blk m q1) (ls) (st) (S) (M) (J) Q := pz_go rfl
theorem w_icmp_eq {q1 q2 q3 : Nat} {q4 : Int32} {off : Int} {x y : Int32} : pz_wp X d m ((.if_icmp .eq off, q1, q2, q3, q4) :: is) ls (.int y :: .int x :: r) S M J Q = if x = y then pz_wp X d m (pz_blk m q1) (ls) (r) (S) (M) (J) Q else pz_wp X d m (is) (ls) (r) (S) (M) (J) Q := by
  rw [pz_go rfl]
  by_cases h : x = y
  · rw [if_pos (by simp [pz_cnd, h]), if_pos h]
  · rw [if_neg (by simp [pz_cnd, h]), if_neg h]
theorem w_if_eq {q1 q2 q3 : Nat} {q4 : Int32} {off : Int} {x : Int32} : pz_wp X d m ((.ifCond .eq off, q1, q2, q3, q4) :: is) ls (.int x :: r) S M J Q = if x = 0 then pz_wp X d m (pz_blk m q1) (ls) (r) (S) (M) (J) Q else pz_wp X d m (is) (ls) (r) (S) (M) (J) Q := by
  rw [pz_go rfl]
  by_cases h : x = 0
  · rw [if_pos (by simp [pz_cnd, h]), if_pos h]
  · rw [if_neg (by simp [pz_cnd, h]), if_neg h]
theorem w_icmp_ne {q1 q2 q3 : Nat} {q4 : Int32} {off : Int} {x y : Int32} : pz_wp X d m ((.if_icmp .ne off, q1, q2, q3, q4) :: is) ls (.int y :: .int x :: r) S M J Q = if ¬ x = y then pz_wp X d m (pz_blk m q1) (ls) (r) (S) (M) (J) Q else pz_wp X d m (is) (ls) (r) (S) (M) (J) Q := by
  rw [pz_go rfl]
  by_cases h : ¬ x = y
  · rw [if_pos (by simp [pz_cnd, h]), if_pos h]
  · rw [if_neg (by simp [pz_cnd, h]), if_neg h]
theorem w_if_ne {q1 q2 q3 : Nat} {q4 : Int32} {off : Int} {x : Int32} : pz_wp X d m ((.ifCond .ne off, q1, q2, q3, q4) :: is) ls (.int x :: r) S M J Q = if ¬ x = 0 then pz_wp X d m (pz_blk m q1) (ls) (r) (S) (M) (J) Q else pz_wp X d m (is) (ls) (r) (S) (M) (J) Q := by
  rw [pz_go rfl]
  by_cases h : ¬ x = 0
  · rw [if_pos (by simp [pz_cnd, h]), if_pos h]
  · rw [if_neg (by simp [pz_cnd, h]), if_neg h]
theorem w_icmp_lt {q1 q2 q3 : Nat} {q4 : Int32} {off : Int} {x y : Int32} : pz_wp X d m ((.if_icmp .lt off, q1, q2, q3, q4) :: is) ls (.int y :: .int x :: r) S M J Q = if x < y then pz_wp X d m (pz_blk m q1) (ls) (r) (S) (M) (J) Q else pz_wp X d m (is) (ls) (r) (S) (M) (J) Q := by
  rw [pz_go rfl]
  by_cases h : x < y
  · rw [if_pos (by simp [pz_cnd, h]), if_pos h]
  · rw [if_neg (by simp [pz_cnd, h]), if_neg h]
theorem w_if_lt {q1 q2 q3 : Nat} {q4 : Int32} {off : Int} {x : Int32} : pz_wp X d m ((.ifCond .lt off, q1, q2, q3, q4) :: is) ls (.int x :: r) S M J Q = if x < 0 then pz_wp X d m (pz_blk m q1) (ls) (r) (S) (M) (J) Q else pz_wp X d m (is) (ls) (r) (S) (M) (J) Q := by
  rw [pz_go rfl]
  by_cases h : x < 0
  · rw [if_pos (by simp [pz_cnd, h]), if_pos h]
  · rw [if_neg (by simp [pz_cnd, h]), if_neg h]
theorem w_icmp_ge {q1 q2 q3 : Nat} {q4 : Int32} {off : Int} {x y : Int32} : pz_wp X d m ((.if_icmp .ge off, q1, q2, q3, q4) :: is) ls (.int y :: .int x :: r) S M J Q = if y ≤ x then pz_wp X d m (pz_blk m q1) (ls) (r) (S) (M) (J) Q else pz_wp X d m (is) (ls) (r) (S) (M) (J) Q := by
  rw [pz_go rfl]
  by_cases h : y ≤ x
  · rw [if_pos (by simp [pz_cnd, h]), if_pos h]
  · rw [if_neg (by simp [pz_cnd, h]), if_neg h]
theorem w_if_ge {q1 q2 q3 : Nat} {q4 : Int32} {off : Int} {x : Int32} : pz_wp X d m ((.ifCond .ge off, q1, q2, q3, q4) :: is) ls (.int x :: r) S M J Q = if 0 ≤ x then pz_wp X d m (pz_blk m q1) (ls) (r) (S) (M) (J) Q else pz_wp X d m (is) (ls) (r) (S) (M) (J) Q := by
  rw [pz_go rfl]
  by_cases h : 0 ≤ x
  · rw [if_pos (by simp [pz_cnd, h]), if_pos h]
  · rw [if_neg (by simp [pz_cnd, h]), if_neg h]
theorem w_icmp_gt {q1 q2 q3 : Nat} {q4 : Int32} {off : Int} {x y : Int32} : pz_wp X d m ((.if_icmp .gt off, q1, q2, q3, q4) :: is) ls (.int y :: .int x :: r) S M J Q = if y < x then pz_wp X d m (pz_blk m q1) (ls) (r) (S) (M) (J) Q else pz_wp X d m (is) (ls) (r) (S) (M) (J) Q := by
  rw [pz_go rfl]
  by_cases h : y < x
  · rw [if_pos (by simp [pz_cnd, h]), if_pos h]
  · rw [if_neg (by simp [pz_cnd, h]), if_neg h]
theorem w_if_gt {q1 q2 q3 : Nat} {q4 : Int32} {off : Int} {x : Int32} : pz_wp X d m ((.ifCond .gt off, q1, q2, q3, q4) :: is) ls (.int x :: r) S M J Q = if 0 < x then pz_wp X d m (pz_blk m q1) (ls) (r) (S) (M) (J) Q else pz_wp X d m (is) (ls) (r) (S) (M) (J) Q := by
  rw [pz_go rfl]
  by_cases h : 0 < x
  · rw [if_pos (by simp [pz_cnd, h]), if_pos h]
  · rw [if_neg (by simp [pz_cnd, h]), if_neg h]
theorem w_icmp_le {q1 q2 q3 : Nat} {q4 : Int32} {off : Int} {x y : Int32} : pz_wp X d m ((.if_icmp .le off, q1, q2, q3, q4) :: is) ls (.int y :: .int x :: r) S M J Q = if x ≤ y then pz_wp X d m (pz_blk m q1) (ls) (r) (S) (M) (J) Q else pz_wp X d m (is) (ls) (r) (S) (M) (J) Q := by
  rw [pz_go rfl]
  by_cases h : x ≤ y
  · rw [if_pos (by simp [pz_cnd, h]), if_pos h]
  · rw [if_neg (by simp [pz_cnd, h]), if_neg h]
theorem w_if_le {q1 q2 q3 : Nat} {q4 : Int32} {off : Int} {x : Int32} : pz_wp X d m ((.ifCond .le off, q1, q2, q3, q4) :: is) ls (.int x :: r) S M J Q = if x ≤ 0 then pz_wp X d m (pz_blk m q1) (ls) (r) (S) (M) (J) Q else pz_wp X d m (is) (ls) (r) (S) (M) (J) Q := by
  rw [pz_go rfl]
  by_cases h : x ≤ 0
  · rw [if_pos (by simp [pz_cnd, h]), if_pos h]
  · rw [if_neg (by simp [pz_cnd, h]), if_neg h]
theorem w_iconst {q1 q2 q3 : Nat} {q4 : Int32} {n : Int} : pz_wp X d m ((.iconst n, q1, q2, q3, q4) :: is) ls (st) S M J Q = pz_wp X d m (is) (ls) (.int q4 :: st) (S) (M) (J) Q := pz_go rfl
theorem w_bipush {q1 q2 q3 : Nat} {q4 : Int32} {n : Int} : pz_wp X d m ((.bipush n, q1, q2, q3, q4) :: is) ls (st) S M J Q = pz_wp X d m (is) (ls) (.int q4 :: st) (S) (M) (J) Q := pz_go rfl
theorem w_sipush {q1 q2 q3 : Nat} {q4 : Int32} {n : Int} : pz_wp X d m ((.sipush n, q1, q2, q3, q4) :: is) ls (st) S M J Q = pz_wp X d m (is) (ls) (.int q4 :: st) (S) (M) (J) Q := pz_go rfl
theorem w_ldc {q1 q2 q3 : Nat} {q4 : Int32} {n : Nat} : pz_wp X d m ((.ldc n, q1, q2, q3, q4) :: is) ls (st) S M J Q = pz_wp X d m (is) (ls) (.int q4 :: st) (S) (M) (J) Q := pz_go rfl
theorem w_ldc_w {q1 q2 q3 : Nat} {q4 : Int32} {n : Nat} : pz_wp X d m ((.ldc_w n, q1, q2, q3, q4) :: is) ls (st) S M J Q = pz_wp X d m (is) (ls) (.int q4 :: st) (S) (M) (J) Q := pz_go rfl
theorem w_ldc2 {q1 q2 q3 : Nat} {q4 : Int32} {n : Nat} : pz_wp X d m ((.ldc2_w n, q1, q2, q3, q4) :: is) ls (st) S M J Q = pz_wp X d m (is) (ls) (.long (if q1 = 0 then -9223372036854775808 else Int64.ofNat q1) :: st) (S) (M) (J) Q := pz_go rfl
theorem w_lconst {q1 q2 q3 : Nat} {q4 : Int32} {n : Fin 2} : pz_wp X d m ((.lconst n, q1, q2, q3, q4) :: is) ls (st) S M J Q = pz_wp X d m (is) (ls) (.long (Int64.ofNat n) :: st) (S) (M) (J) Q := pz_go rfl
theorem w_iload_n {q1 q2 q3 : Nat} {q4 : Int32} {k : Fin 4} : pz_wp X d m ((.iload_n k, q1, q2, q3, q4) :: is) ls st S M J Q = (match pz_lk ls k with | some (.int x) => pz_wp X d m (is) (ls) (.int x :: st) (S) (M) (J) Q | _ => False) := by
  cases h : pz_lk ls k with
  | none => exact pz_nn (by simp [pz_nx, h])
  | some v => cases v <;> first | exact pz_go (by simp [pz_nx, h]) | exact pz_nn (by simp [pz_nx, h])
theorem w_iload {q1 q2 q3 : Nat} {q4 : Int32} {k : Nat} : pz_wp X d m ((.iload k, q1, q2, q3, q4) :: is) ls st S M J Q = (match pz_lk ls k with | some (.int x) => pz_wp X d m (is) (ls) (.int x :: st) (S) (M) (J) Q | _ => False) := by
  cases h : pz_lk ls k with
  | none => exact pz_nn (by simp [pz_nx, h])
  | some v => cases v <;> first | exact pz_go (by simp [pz_nx, h]) | exact pz_nn (by simp [pz_nx, h])
theorem w_lload_n {q1 q2 q3 : Nat} {q4 : Int32} {k : Fin 4} : pz_wp X d m ((.lload_n k, q1, q2, q3, q4) :: is) ls st S M J Q = (match pz_lk ls k with | some (.long x) => pz_wp X d m (is) (ls) (.long x :: st) (S) (M) (J) Q | _ => False) := by
  cases h : pz_lk ls k with
  | none => exact pz_nn (by simp [pz_nx, h])
  | some v => cases v <;> first | exact pz_go (by simp [pz_nx, h]) | exact pz_nn (by simp [pz_nx, h])
theorem w_lload {q1 q2 q3 : Nat} {q4 : Int32} {k : Nat} : pz_wp X d m ((.lload k, q1, q2, q3, q4) :: is) ls st S M J Q = (match pz_lk ls k with | some (.long x) => pz_wp X d m (is) (ls) (.long x :: st) (S) (M) (J) Q | _ => False) := by
  cases h : pz_lk ls k with
  | none => exact pz_nn (by simp [pz_nx, h])
  | some v => cases v <;> first | exact pz_go (by simp [pz_nx, h]) | exact pz_nn (by simp [pz_nx, h])
theorem w_aload_n {q1 q2 q3 : Nat} {q4 : Int32} {k : Fin 4} : pz_wp X d m ((.aload_n k, q1, q2, q3, q4) :: is) ls st S M J Q = (match pz_lk ls k with | some (.ref x) => pz_wp X d m (is) (ls) (.ref x :: st) (S) (M) (J) Q | some (.retAddr x) => pz_wp X d m (is) (ls) (.retAddr x :: st) (S) (M) (J) Q | _ => False) := by
  cases h : pz_lk ls k with
  | none => exact pz_nn (by simp [pz_nx, h])
  | some v => cases v <;> first | exact pz_go (by simp [pz_nx, h]) | exact pz_nn (by simp [pz_nx, h])
theorem w_aload {q1 q2 q3 : Nat} {q4 : Int32} {k : Nat} : pz_wp X d m ((.aload k, q1, q2, q3, q4) :: is) ls st S M J Q = (match pz_lk ls k with | some (.ref x) => pz_wp X d m (is) (ls) (.ref x :: st) (S) (M) (J) Q | some (.retAddr x) => pz_wp X d m (is) (ls) (.retAddr x :: st) (S) (M) (J) Q | _ => False) := by
  cases h : pz_lk ls k with
  | none => exact pz_nn (by simp [pz_nx, h])
  | some v => cases v <;> first | exact pz_go (by simp [pz_nx, h]) | exact pz_nn (by simp [pz_nx, h])
theorem w_iload_0 {q1 q2 q3 : Nat} {q4 : Int32} : pz_wp X d m ((.iload_n 0, q1, q2, q3, q4) :: is) ls st S M J Q = (match pz_lk ls 0 with | some (.int x) => pz_wp X d m (is) (ls) (.int x :: st) (S) (M) (J) Q | _ => False) := w_iload_n
theorem w_lload_0 {q1 q2 q3 : Nat} {q4 : Int32} : pz_wp X d m ((.lload_n 0, q1, q2, q3, q4) :: is) ls st S M J Q = (match pz_lk ls 0 with | some (.long x) => pz_wp X d m (is) (ls) (.long x :: st) (S) (M) (J) Q | _ => False) := w_lload_n
theorem w_aload_0 {q1 q2 q3 : Nat} {q4 : Int32} : pz_wp X d m ((.aload_n 0, q1, q2, q3, q4) :: is) ls st S M J Q = (match pz_lk ls 0 with | some (.ref x) => pz_wp X d m (is) (ls) (.ref x :: st) (S) (M) (J) Q | some (.retAddr x) => pz_wp X d m (is) (ls) (.retAddr x :: st) (S) (M) (J) Q | _ => False) := w_aload_n
theorem w_iload_1 {q1 q2 q3 : Nat} {q4 : Int32} : pz_wp X d m ((.iload_n 1, q1, q2, q3, q4) :: is) ls st S M J Q = (match pz_lk ls 1 with | some (.int x) => pz_wp X d m (is) (ls) (.int x :: st) (S) (M) (J) Q | _ => False) := w_iload_n
theorem w_lload_1 {q1 q2 q3 : Nat} {q4 : Int32} : pz_wp X d m ((.lload_n 1, q1, q2, q3, q4) :: is) ls st S M J Q = (match pz_lk ls 1 with | some (.long x) => pz_wp X d m (is) (ls) (.long x :: st) (S) (M) (J) Q | _ => False) := w_lload_n
theorem w_aload_1 {q1 q2 q3 : Nat} {q4 : Int32} : pz_wp X d m ((.aload_n 1, q1, q2, q3, q4) :: is) ls st S M J Q = (match pz_lk ls 1 with | some (.ref x) => pz_wp X d m (is) (ls) (.ref x :: st) (S) (M) (J) Q | some (.retAddr x) => pz_wp X d m (is) (ls) (.retAddr x :: st) (S) (M) (J) Q | _ => False) := w_aload_n
theorem w_iload_2 {q1 q2 q3 : Nat} {q4 : Int32} : pz_wp X d m ((.iload_n 2, q1, q2, q3, q4) :: is) ls st S M J Q = (match pz_lk ls 2 with | some (.int x) => pz_wp X d m (is) (ls) (.int x :: st) (S) (M) (J) Q | _ => False) := w_iload_n
theorem w_lload_2 {q1 q2 q3 : Nat} {q4 : Int32} : pz_wp X d m ((.lload_n 2, q1, q2, q3, q4) :: is) ls st S M J Q = (match pz_lk ls 2 with | some (.long x) => pz_wp X d m (is) (ls) (.long x :: st) (S) (M) (J) Q | _ => False) := w_lload_n
theorem w_aload_2 {q1 q2 q3 : Nat} {q4 : Int32} : pz_wp X d m ((.aload_n 2, q1, q2, q3, q4) :: is) ls st S M J Q = (match pz_lk ls 2 with | some (.ref x) => pz_wp X d m (is) (ls) (.ref x :: st) (S) (M) (J) Q | some (.retAddr x) => pz_wp X d m (is) (ls) (.retAddr x :: st) (S) (M) (J) Q | _ => False) := w_aload_n
theorem w_iload_3 {q1 q2 q3 : Nat} {q4 : Int32} : pz_wp X d m ((.iload_n 3, q1, q2, q3, q4) :: is) ls st S M J Q = (match pz_lk ls 3 with | some (.int x) => pz_wp X d m (is) (ls) (.int x :: st) (S) (M) (J) Q | _ => False) := w_iload_n
theorem w_lload_3 {q1 q2 q3 : Nat} {q4 : Int32} : pz_wp X d m ((.lload_n 3, q1, q2, q3, q4) :: is) ls st S M J Q = (match pz_lk ls 3 with | some (.long x) => pz_wp X d m (is) (ls) (.long x :: st) (S) (M) (J) Q | _ => False) := w_lload_n
theorem w_aload_3 {q1 q2 q3 : Nat} {q4 : Int32} : pz_wp X d m ((.aload_n 3, q1, q2, q3, q4) :: is) ls st S M J Q = (match pz_lk ls 3 with | some (.ref x) => pz_wp X d m (is) (ls) (.ref x :: st) (S) (M) (J) Q | some (.retAddr x) => pz_wp X d m (is) (ls) (.retAddr x :: st) (S) (M) (J) Q | _ => False) := w_aload_n
theorem w_istore_n {q1 q2 q3 : Nat} {q4 : Int32} {k : Fin 4} {x : Int32} : pz_wp X d m ((.istore_n k, q1, q2, q3, q4) :: is) ls (.int x :: r) S M J Q = if (k : Nat) < ls.length then pz_wp X d m (is) (pz_st ls k (.int x)) (r) (S) (M) (J) Q else False := by
  by_cases h : (k : Nat) < ls.length
  · rw [if_pos h]; exact pz_go (by simp [pz_nx, h])
  · rw [if_neg h]; exact pz_nn (by simp [pz_nx, h])
theorem w_istore {q1 q2 q3 : Nat} {q4 : Int32} {k : Nat} {x : Int32} : pz_wp X d m ((.istore k, q1, q2, q3, q4) :: is) ls (.int x :: r) S M J Q = if k < ls.length then pz_wp X d m (is) (pz_st ls k (.int x)) (r) (S) (M) (J) Q else False := by
  by_cases h : k < ls.length
  · rw [if_pos h]; exact pz_go (by simp [pz_nx, h])
  · rw [if_neg h]; exact pz_nn (by simp [pz_nx, h])
theorem w_lstore_n {q1 q2 q3 : Nat} {q4 : Int32} {k : Fin 4} {x : Int64} : pz_wp X d m ((.lstore_n k, q1, q2, q3, q4) :: is) ls (.long x :: r) S M J Q = if (k : Nat) + 1 < ls.length then pz_wp X d m (is) (pz_st ls k (.long x)) (r) (S) (M) (J) Q else False := by
  by_cases h : (k : Nat) + 1 < ls.length
  · rw [if_pos h]; exact pz_go (by simp [pz_nx, h])
  · rw [if_neg h]; exact pz_nn (by simp [pz_nx, h])
theorem w_lstore {q1 q2 q3 : Nat} {q4 : Int32} {k : Nat} {x : Int64} : pz_wp X d m ((.lstore k, q1, q2, q3, q4) :: is) ls (.long x :: r) S M J Q = if k + 1 < ls.length then pz_wp X d m (is) (pz_st ls k (.long x)) (r) (S) (M) (J) Q else False := by
  by_cases h : k + 1 < ls.length
  · rw [if_pos h]; exact pz_go (by simp [pz_nx, h])
  · rw [if_neg h]; exact pz_nn (by simp [pz_nx, h])
theorem w_astore_n {q1 q2 q3 : Nat} {q4 : Int32} {k : Fin 4} {x : Nat} : pz_wp X d m ((.astore_n k, q1, q2, q3, q4) :: is) ls (.ref x :: r) S M J Q = if (k : Nat) < ls.length then pz_wp X d m (is) (pz_st ls k (.ref x)) (r) (S) (M) (J) Q else False := by
  by_cases h : (k : Nat) < ls.length
  · rw [if_pos h]; exact pz_go (by simp [pz_nx, h])
  · rw [if_neg h]; exact pz_nn (by simp [pz_nx, h])
theorem w_astore {q1 q2 q3 : Nat} {q4 : Int32} {k : Nat} {x : Nat} : pz_wp X d m ((.astore k, q1, q2, q3, q4) :: is) ls (.ref x :: r) S M J Q = if k < ls.length then pz_wp X d m (is) (pz_st ls k (.ref x)) (r) (S) (M) (J) Q else False := by
  by_cases h : k < ls.length
  · rw [if_pos h]; exact pz_go (by simp [pz_nx, h])
  · rw [if_neg h]; exact pz_nn (by simp [pz_nx, h])
theorem w_istore_0 {q1 q2 q3 : Nat} {q4 : Int32} {x : Int32} : pz_wp X d m ((.istore_n 0, q1, q2, q3, q4) :: is) ls (.int x :: r) S M J Q = if 0 < ls.length then pz_wp X d m (is) (pz_st ls 0 (.int x)) (r) (S) (M) (J) Q else False := w_istore_n
theorem w_lstore_0 {q1 q2 q3 : Nat} {q4 : Int32} {x : Int64} : pz_wp X d m ((.lstore_n 0, q1, q2, q3, q4) :: is) ls (.long x :: r) S M J Q = if 0 + 1 < ls.length then pz_wp X d m (is) (pz_st ls 0 (.long x)) (r) (S) (M) (J) Q else False := w_lstore_n
theorem w_astore_0 {q1 q2 q3 : Nat} {q4 : Int32} {x : Nat} : pz_wp X d m ((.astore_n 0, q1, q2, q3, q4) :: is) ls (.ref x :: r) S M J Q = if 0 < ls.length then pz_wp X d m (is) (pz_st ls 0 (.ref x)) (r) (S) (M) (J) Q else False := w_astore_n
theorem w_istore_1 {q1 q2 q3 : Nat} {q4 : Int32} {x : Int32} : pz_wp X d m ((.istore_n 1, q1, q2, q3, q4) :: is) ls (.int x :: r) S M J Q = if 1 < ls.length then pz_wp X d m (is) (pz_st ls 1 (.int x)) (r) (S) (M) (J) Q else False := w_istore_n
theorem w_lstore_1 {q1 q2 q3 : Nat} {q4 : Int32} {x : Int64} : pz_wp X d m ((.lstore_n 1, q1, q2, q3, q4) :: is) ls (.long x :: r) S M J Q = if 1 + 1 < ls.length then pz_wp X d m (is) (pz_st ls 1 (.long x)) (r) (S) (M) (J) Q else False := w_lstore_n
theorem w_astore_1 {q1 q2 q3 : Nat} {q4 : Int32} {x : Nat} : pz_wp X d m ((.astore_n 1, q1, q2, q3, q4) :: is) ls (.ref x :: r) S M J Q = if 1 < ls.length then pz_wp X d m (is) (pz_st ls 1 (.ref x)) (r) (S) (M) (J) Q else False := w_astore_n
theorem w_istore_2 {q1 q2 q3 : Nat} {q4 : Int32} {x : Int32} : pz_wp X d m ((.istore_n 2, q1, q2, q3, q4) :: is) ls (.int x :: r) S M J Q = if 2 < ls.length then pz_wp X d m (is) (pz_st ls 2 (.int x)) (r) (S) (M) (J) Q else False := w_istore_n
theorem w_lstore_2 {q1 q2 q3 : Nat} {q4 : Int32} {x : Int64} : pz_wp X d m ((.lstore_n 2, q1, q2, q3, q4) :: is) ls (.long x :: r) S M J Q = if 2 + 1 < ls.length then pz_wp X d m (is) (pz_st ls 2 (.long x)) (r) (S) (M) (J) Q else False := w_lstore_n
theorem w_astore_2 {q1 q2 q3 : Nat} {q4 : Int32} {x : Nat} : pz_wp X d m ((.astore_n 2, q1, q2, q3, q4) :: is) ls (.ref x :: r) S M J Q = if 2 < ls.length then pz_wp X d m (is) (pz_st ls 2 (.ref x)) (r) (S) (M) (J) Q else False := w_astore_n
theorem w_istore_3 {q1 q2 q3 : Nat} {q4 : Int32} {x : Int32} : pz_wp X d m ((.istore_n 3, q1, q2, q3, q4) :: is) ls (.int x :: r) S M J Q = if 3 < ls.length then pz_wp X d m (is) (pz_st ls 3 (.int x)) (r) (S) (M) (J) Q else False := w_istore_n
theorem w_lstore_3 {q1 q2 q3 : Nat} {q4 : Int32} {x : Int64} : pz_wp X d m ((.lstore_n 3, q1, q2, q3, q4) :: is) ls (.long x :: r) S M J Q = if 3 + 1 < ls.length then pz_wp X d m (is) (pz_st ls 3 (.long x)) (r) (S) (M) (J) Q else False := w_lstore_n
theorem w_astore_3 {q1 q2 q3 : Nat} {q4 : Int32} {x : Nat} : pz_wp X d m ((.astore_n 3, q1, q2, q3, q4) :: is) ls (.ref x :: r) S M J Q = if 3 < ls.length then pz_wp X d m (is) (pz_st ls 3 (.ref x)) (r) (S) (M) (J) Q else False := w_astore_n
theorem pz_lk0 {v : Value} {t : pzL} : pz_lk (some v :: t) 0 = some v := rfl
theorem pz_lkn {t : pzL} : pz_lk (none :: t) 0 = none := rfl
theorem pz_lks {a : Option Value} {t : pzL} {n : Nat} : pz_lk (a :: t) (n + 1) = pz_lk t n := rfl
theorem pz_st0i {a : Option Value} {t : pzL} {x : Int32} : pz_st (a :: t) 0 (.int x) = some (.int x) :: t := rfl
theorem pz_st0r {a : Option Value} {t : pzL} {x : Nat} : pz_st (a :: t) 0 (.ref x) = some (.ref x) :: t := rfl
theorem pz_st0l {a b : Option Value} {t : pzL} {x : Int64} : pz_st (a :: b :: t) 0 (.long x) = some (.long x) :: none :: t := rfl
theorem pz_sts {a : Option Value} {t : pzL} {n : Nat} {v : Value} : pz_st (a :: t) (n + 1) v = (if n = 0 then pz_kl a else a) :: pz_st t n v := rfl
theorem pz_kln : pz_kl none = none := rfl
theorem pz_kli {x : Int32} : pz_kl (some (.int x)) = some (.int x) := rfl
theorem pz_klr {x : Nat} : pz_kl (some (.ref x)) = some (.ref x) := rfl
theorem pz_kla {x : Nat} : pz_kl (some (.retAddr x)) = some (.retAddr x) := rfl
theorem pz_kll {x : Int64} : pz_kl (some (.long x)) = none := rfl
theorem pz_al0 : pz_al [] = [] := rfl
theorem pz_ali {x : Int32} {t : List Value} : pz_al (.int x :: t) = some (.int x) :: pz_al t := rfl
theorem pz_alr {x : Nat} {t : List Value} : pz_al (.ref x :: t) = some (.ref x) :: pz_al t := rfl
theorem pz_all {x : Int64} {t : List Value} : pz_al (.long x :: t) = some (.long x) :: none :: pz_al t := rfl
theorem pz_tk0 {acc st : List Value} : pz_tk 0 acc st = some (acc, st) := rfl
theorem pz_tks {n : Nat} {acc st : List Value} {v : Value} : pz_tk (n + 1) acc (v :: st) = pz_tk n (v :: acc) st := rfl
theorem pz_rc0 {S : List pzS} {ci : Nat} {av : List Value} : pz_rc 0 S ci av = true := rfl
theorem pz_rc1 {S : List pzS} {ci b : Nat} {av : List Value} : (pz_rc 1 S ci (.ref b :: av) = true) = (pz_oc S b = some ci) := by
  apply propext
  exact ⟨fun h => of_decide_eq_true h, fun h => decide_eq_true h⟩
theorem pz_cati {x : Int32} : Value.category (.int x) = 1 := rfl
theorem pz_catr {x : Nat} : Value.category (.ref x) = 1 := rfl
theorem pz_cata {x : Nat} : Value.category (.retAddr x) = 1 := rfl
theorem pz_catl {x : Int64} : Value.category (.long x) = 2 := rfl
theorem pz_ite_f {P : Prop} {α : Sort _} {a b : α} [Decidable P] (h : P = False) : (if P then a else b) = b := if_neg (by rw [h]; exact id)

theorem w_iinc {k q1 q2 q3 : Nat} {n : Int} {q4 : Int32} : pz_wp X d m ((.iinc k n, q1, q2, q3, q4) :: is) ls st S M J Q = (match pz_lk ls k with | some (.int x) => (if k < ls.length then pz_wp X d m (is) (pz_st ls k (.int (x + q4))) (st) (S) (M) (J) Q else False) | _ => False) := by
  cases h : pz_lk ls k with
  | none => exact pz_nn (by simp [pz_nx, h])
  | some v =>
    cases v with
    | int x =>
      try dsimp only
      by_cases h2 : k < ls.length
      · rw [if_pos h2]; exact pz_go (by simp [pz_nx, h, h2])
      · rw [if_neg h2]; exact pz_nn (by simp [pz_nx, h, h2])
    | _ => exact pz_nn (by simp [pz_nx, h])
theorem w_iadd {q1 q2 q3 : Nat} {q4 : Int32} {x y : Int32} : pz_wp X d m ((.iadd, q1, q2, q3, q4) :: is) ls (.int y :: .int x :: r) S M J Q = pz_wp X d m (is) (ls) (.int (x + y) :: r) (S) (M) (J) Q := pz_go rfl
theorem w_isub {q1 q2 q3 : Nat} {q4 : Int32} {x y : Int32} : pz_wp X d m ((.isub, q1, q2, q3, q4) :: is) ls (.int y :: .int x :: r) S M J Q = pz_wp X d m (is) (ls) (.int (x - y) :: r) (S) (M) (J) Q := pz_go rfl
theorem w_imul {q1 q2 q3 : Nat} {q4 : Int32} {x y : Int32} : pz_wp X d m ((.imul, q1, q2, q3, q4) :: is) ls (.int y :: .int x :: r) S M J Q = pz_wp X d m (is) (ls) (.int (x * y) :: r) (S) (M) (J) Q := pz_go rfl
theorem w_iand {q1 q2 q3 : Nat} {q4 : Int32} {x y : Int32} : pz_wp X d m ((.iand, q1, q2, q3, q4) :: is) ls (.int y :: .int x :: r) S M J Q = pz_wp X d m (is) (ls) (.int (x &&& y) :: r) (S) (M) (J) Q := pz_go rfl
theorem w_ior {q1 q2 q3 : Nat} {q4 : Int32} {x y : Int32} : pz_wp X d m ((.ior, q1, q2, q3, q4) :: is) ls (.int y :: .int x :: r) S M J Q = pz_wp X d m (is) (ls) (.int (x ||| y) :: r) (S) (M) (J) Q := pz_go rfl
theorem w_ishl {q1 q2 q3 : Nat} {q4 : Int32} {x y : Int32} : pz_wp X d m ((.ishl, q1, q2, q3, q4) :: is) ls (.int y :: .int x :: r) S M J Q = pz_wp X d m (is) (ls) (.int (x <<< (y &&& 31)) :: r) (S) (M) (J) Q := pz_go rfl
theorem w_iushr {q1 q2 q3 : Nat} {q4 : Int32} {x y : Int32} : pz_wp X d m ((.iushr, q1, q2, q3, q4) :: is) ls (.int y :: .int x :: r) S M J Q = pz_wp X d m (is) (ls) (.int ((x.toUInt32 >>> (y.toUInt32 &&& Int32.toUInt32 31)).toInt32) :: r) (S) (M) (J) Q := pz_go rfl
theorem w_idiv {q1 q2 q3 : Nat} {q4 : Int32} {x y : Int32} : pz_wp X d m ((.idiv, q1, q2, q3, q4) :: is) ls (.int y :: .int x :: r) S M J Q = if y = 0 then False else pz_wp X d m (is) (ls) (.int (x / y) :: r) (S) (M) (J) Q := by
  by_cases h : y = 0
  · rw [if_pos h]; exact pz_nn (by simp [pz_nx, h])
  · rw [if_neg h]; exact pz_go (by simp [pz_nx, h])
theorem w_irem {q1 q2 q3 : Nat} {q4 : Int32} {x y : Int32} : pz_wp X d m ((.irem, q1, q2, q3, q4) :: is) ls (.int y :: .int x :: r) S M J Q = if y = 0 then False else pz_wp X d m (is) (ls) (.int (x - x / y * y) :: r) (S) (M) (J) Q := by
  by_cases h : y = 0
  · rw [if_pos h]; exact pz_nn (by simp [pz_nx, h])
  · rw [if_neg h]; exact pz_go (by simp [pz_nx, h])
theorem w_ineg {q1 q2 q3 : Nat} {q4 : Int32} {x : Int32} : pz_wp X d m ((.ineg, q1, q2, q3, q4) :: is) ls (.int x :: r) S M J Q = pz_wp X d m (is) (ls) (.int (-x) :: r) (S) (M) (J) Q := pz_go rfl
theorem w_ladd {q1 q2 q3 : Nat} {q4 : Int32} {x y : Int64} : pz_wp X d m ((.ladd, q1, q2, q3, q4) :: is) ls (.long y :: .long x :: r) S M J Q = pz_wp X d m (is) (ls) (.long (x + y) :: r) (S) (M) (J) Q := pz_go rfl
theorem w_lsub {q1 q2 q3 : Nat} {q4 : Int32} {x y : Int64} : pz_wp X d m ((.lsub, q1, q2, q3, q4) :: is) ls (.long y :: .long x :: r) S M J Q = pz_wp X d m (is) (ls) (.long (x - y) :: r) (S) (M) (J) Q := pz_go rfl
theorem w_ldiv {q1 q2 q3 : Nat} {q4 : Int32} {x y : Int64} : pz_wp X d m ((.ldiv, q1, q2, q3, q4) :: is) ls (.long y :: .long x :: r) S M J Q = if y = 0 then False else pz_wp X d m (is) (ls) (.long (x / y) :: r) (S) (M) (J) Q := by
  by_cases h : y = 0
  · rw [if_pos h]; exact pz_nn (by simp [pz_nx, h])
  · rw [if_neg h]; exact pz_go (by simp [pz_nx, h])
theorem w_lrem {q1 q2 q3 : Nat} {q4 : Int32} {x y : Int64} : pz_wp X d m ((.lrem, q1, q2, q3, q4) :: is) ls (.long y :: .long x :: r) S M J Q = if y = 0 then False else pz_wp X d m (is) (ls) (.long (x - x / y * y) :: r) (S) (M) (J) Q := by
  by_cases h : y = 0
  · rw [if_pos h]; exact pz_nn (by simp [pz_nx, h])
  · rw [if_neg h]; exact pz_go (by simp [pz_nx, h])
theorem w_lneg {q1 q2 q3 : Nat} {q4 : Int32} {x : Int64} : pz_wp X d m ((.lneg, q1, q2, q3, q4) :: is) ls (.long x :: r) S M J Q = pz_wp X d m (is) (ls) (.long (-x) :: r) (S) (M) (J) Q := pz_go rfl
theorem w_lcmp {q1 q2 q3 : Nat} {q4 : Int32} {x y : Int64} : pz_wp X d m ((.lcmp, q1, q2, q3, q4) :: is) ls (.long y :: .long x :: r) S M J Q = pz_wp X d m (is) (ls) (.int (lg_cmp x y) :: r) (S) (M) (J) Q := pz_go rfl
theorem w_i2l {q1 q2 q3 : Nat} {q4 : Int32} {x : Int32} : pz_wp X d m ((.i2l, q1, q2, q3, q4) :: is) ls (.int x :: r) S M J Q = pz_wp X d m (is) (ls) (.long x.toInt64 :: r) (S) (M) (J) Q := pz_go rfl
theorem w_l2i {q1 q2 q3 : Nat} {q4 : Int32} {x : Int64} : pz_wp X d m ((.l2i, q1, q2, q3, q4) :: is) ls (.long x :: r) S M J Q = pz_wp X d m (is) (ls) (.int x.toInt32 :: r) (S) (M) (J) Q := pz_go rfl
theorem w_i2b {q1 q2 q3 : Nat} {q4 : Int32} {x : Int32} : pz_wp X d m ((.i2b, q1, q2, q3, q4) :: is) ls (.int x :: r) S M J Q = pz_wp X d m (is) (ls) (.int x.toInt8.toInt32 :: r) (S) (M) (J) Q := pz_go rfl
theorem w_i2s {q1 q2 q3 : Nat} {q4 : Int32} {x : Int32} : pz_wp X d m ((.i2s, q1, q2, q3, q4) :: is) ls (.int x :: r) S M J Q = pz_wp X d m (is) (ls) (.int x.toInt16.toInt32 :: r) (S) (M) (J) Q := pz_go rfl
theorem w_dup_r {q1 q2 q3 : Nat} {q4 : Int32} {a : Nat} : pz_wp X d m ((.dup, q1, q2, q3, q4) :: is) ls (.ref a :: r) S M J Q = pz_wp X d m (is) (ls) (.ref a :: .ref a :: r) (S) (M) (J) Q := pz_go rfl
theorem w_dup_i {q1 q2 q3 : Nat} {q4 : Int32} {a : Int32} : pz_wp X d m ((.dup, q1, q2, q3, q4) :: is) ls (.int a :: r) S M J Q = pz_wp X d m (is) (ls) (.int a :: .int a :: r) (S) (M) (J) Q := pz_go rfl
theorem w_dup2 {q1 q2 q3 : Nat} {q4 : Int32} {i : Int32} {a : Nat} : pz_wp X d m ((.dup2, q1, q2, q3, q4) :: is) ls (.int i :: .ref a :: r) S M J Q = pz_wp X d m (is) (ls) (.int i :: .ref a :: .int i :: .ref a :: r) (S) (M) (J) Q := pz_go rfl
theorem w_getfield {x q1 q2 q3 a : Nat} {q4 : Int32} : pz_wp X d m ((.getfield x, q1, q2, q3, q4) :: is) ls (.ref a :: r) S M J Q = (match pz_fk S a q1 q2 with | some none => pz_wp X d m (is) (ls) (.int (M a q2) :: r) (S) (M) (J) Q | some (some q) => pz_wp X d m (is) (ls) (.ref q :: r) (S) (M) (J) Q | none => False) := by
  unfold pz_fk
  split
  · rename_i h
    split at h
    · rename_i h2; exact pz_go (by simp [pz_nx, h2])
    · cases h
    · cases h
  · rename_i q h
    split at h
    · cases h
    · rename_i h2; cases h; exact pz_go (by simp [pz_nx, h2])
    · cases h
  · rename_i h
    split at h
    · cases h
    · cases h
    · rename_i h2 h3
      refine pz_nn ?_
      cases h4 : pz_fs S a q1 q2 with
      | none => simp [pz_nx, h4]
      | some v =>
        match v, h4 with
        | 0, h4 => exact absurd h4 h2
        | 1, h4 => simp [pz_nx, h4]
        | q + 2, h4 => exact absurd h4 (h3 q)
theorem w_putI {x q1 q2 q3 a : Nat} {q4 v : Int32} : pz_wp X d m ((.putfield x, q1, q2, q3, q4) :: is) ls (.int v :: .ref a :: r) S M J Q = (match pz_fk S a q1 q2 with | some none => (if q3 = 0 ∨ q3 = 1 ∧ (v = 0 ∨ v = 1) then pz_wp X d m (is) (ls) (r) (S) (pz_sr M a (upd (M a) q2 v)) (J) Q else False) | _ => False) := by
  unfold pz_fk
  cases h4 : pz_fs S a q1 q2 with
  | none => exact pz_nn (by simp [pz_nx, h4])
  | some w =>
    match w, h4 with
    | 0, h4 =>
      try dsimp only
      by_cases h : q3 = 0 ∨ q3 = 1 ∧ (v = 0 ∨ v = 1)
      · rw [if_pos h]; exact pz_go (by simp [pz_nx, h4, h])
      · rw [if_neg h]; exact pz_nn (by simp [pz_nx, h])
    | 1, h4 => exact pz_nn (by simp [pz_nx, h4])
    | q + 2, h4 => exact pz_nn (by simp [pz_nx, h4])
theorem w_getstatic {q1 q2 q3 : Nat} {q4 : Int32} {n : Nat} : pz_wp X d m ((.getstatic n, q1, q2, q3, q4) :: is) ls (st) S M J Q = pz_wp X d m (is) (ls) (.retAddr q1 :: st) (S) (M) (J) Q := pz_go rfl
theorem w_slen {q1 q2 q3 : Nat} {q4 : Int32} : pz_wp X d m ((.arraylength, q1, q2, q3, q4) :: is) ls (.retAddr 0 :: r) S M J Q = pz_wp X d m (is) (ls) (.int (Int32.ofNat X.1) :: r) (S) (M) (J) Q := pz_go rfl
theorem w_iaload {q1 q2 q3 a : Nat} {q4 i : Int32} : pz_wp X d m ((.iaload, q1, q2, q3, q4) :: is) ls (.int i :: .ref a :: r) S M J Q = (match pz_as S a with | some (t, n) => (if t = 0 then (match pz_ix i n with | some j => pz_wp X d m (is) (ls) (.int (M a j) :: r) (S) (M) (J) Q | none => False) else False) | none => False) := by
  cases h : pz_as S a with
  | none => exact pz_nn (by simp [pz_nx, h])
  | some q =>
    obtain ⟨t, n⟩ := q
    by_cases ht : t = 0
    · subst ht
      show _ = (if 0 = 0 then _ else False)
      rw [if_pos rfl]
      cases h2 : pz_ix i n with
      | none => exact pz_nn (by simp [pz_nx, h, h2])
      | some j => exact pz_go (by first | (simp [pz_nx, h, h2]; done) | simp [pz_nx, h, h2, hv])
    · show _ = (if t = 0 then _ else False)
      rw [if_neg ht]
      match t, h, ht with
      | 0, h, ht => exact absurd rfl ht
      | 1, h, ht => exact pz_nn (by simp [pz_nx, h])
      | 2, h, ht => exact pz_nn (by simp [pz_nx, h])
      | 3, h, ht => exact pz_nn (by simp [pz_nx, h])
      | t + 4, h, ht => exact pz_nn (by simp [pz_nx, h])
theorem w_baload {q1 q2 q3 a : Nat} {q4 i : Int32} : pz_wp X d m ((.baload, q1, q2, q3, q4) :: is) ls (.int i :: .ref a :: r) S M J Q = (match pz_as S a with | some (t, n) => (if t = 1 then (match pz_ix i n with | some j => pz_wp X d m (is) (ls) (.int (M a j) :: r) (S) (M) (J) Q | none => False) else False) | none => False) := by
  cases h : pz_as S a with
  | none => exact pz_nn (by simp [pz_nx, h])
  | some q =>
    obtain ⟨t, n⟩ := q
    by_cases ht : t = 1
    · subst ht
      show _ = (if 1 = 1 then _ else False)
      rw [if_pos rfl]
      cases h2 : pz_ix i n with
      | none => exact pz_nn (by simp [pz_nx, h, h2])
      | some j => exact pz_go (by first | (simp [pz_nx, h, h2]; done) | simp [pz_nx, h, h2, hv])
    · show _ = (if t = 1 then _ else False)
      rw [if_neg ht]
      match t, h, ht with
      | 0, h, ht => exact pz_nn (by simp [pz_nx, h])
      | 1, h, ht => exact absurd rfl ht
      | 2, h, ht => exact pz_nn (by simp [pz_nx, h])
      | 3, h, ht => exact pz_nn (by simp [pz_nx, h])
      | t + 4, h, ht => exact pz_nn (by simp [pz_nx, h])
theorem w_laload {q1 q2 q3 a : Nat} {q4 i : Int32} : pz_wp X d m ((.laload, q1, q2, q3, q4) :: is) ls (.int i :: .ref a :: r) S M J Q = (match pz_as S a with | some (t, n) => (if t = 2 then (match pz_ix i n with | some j => pz_wp X d m (is) (ls) (.long (J a j) :: r) (S) (M) (J) Q | none => False) else False) | none => False) := by
  cases h : pz_as S a with
  | none => exact pz_nn (by simp [pz_nx, h])
  | some q =>
    obtain ⟨t, n⟩ := q
    by_cases ht : t = 2
    · subst ht
      show _ = (if 2 = 2 then _ else False)
      rw [if_pos rfl]
      cases h2 : pz_ix i n with
      | none => exact pz_nn (by simp [pz_nx, h, h2])
      | some j => exact pz_go (by first | (simp [pz_nx, h, h2]; done) | simp [pz_nx, h, h2, hv])
    · show _ = (if t = 2 then _ else False)
      rw [if_neg ht]
      match t, h, ht with
      | 0, h, ht => exact pz_nn (by simp [pz_nx, h])
      | 1, h, ht => exact pz_nn (by simp [pz_nx, h])
      | 2, h, ht => exact absurd rfl ht
      | 3, h, ht => exact pz_nn (by simp [pz_nx, h])
      | t + 4, h, ht => exact pz_nn (by simp [pz_nx, h])
theorem w_iaro {q1 q2 q3 q : Nat} {q4 i : Int32} : pz_wp X d m ((.iaload, q1, q2, q3, q4) :: is) ls (.int i :: .retAddr q :: r) S M J Q = (match pz_ix i (pz_ro X q).1 with | some j => pz_wp X d m (is) (ls) (.int ((pz_ro X q).2 j) :: r) (S) (M) (J) Q | none => False) := by
  cases h2 : pz_ix i (pz_ro X q).1 with
  | none => exact pz_nn (by simp [pz_nx, h2])
  | some j => exact pz_go (by simp [pz_nx, h2])
theorem w_aaload {q1 q2 q3 a : Nat} {q4 i : Int32} : pz_wp X d m ((.aaload, q1, q2, q3, q4) :: is) ls (.int i :: .ref a :: r) S M J Q = (match pz_as S a with | some (t, n) => (if t = 3 then (match pz_ix i n with | some j => (match pz_rk S a j with | some q => pz_wp X d m (is) (ls) (.ref q :: r) (S) (M) (J) Q | none => False) | none => False) else False) | none => False) := by
  cases h : pz_as S a with
  | none => exact pz_nn (by simp [pz_nx, h])
  | some q =>
    obtain ⟨t, n⟩ := q
    by_cases ht : t = 3
    · subst ht
      show _ = (if 3 = 3 then _ else False)
      rw [if_pos rfl]
      cases h2 : pz_ix i n with
      | none => exact pz_nn (by simp [pz_nx, h, h2])
      | some j =>
        show _ = (match pz_rk S a j with | some q => _ | none => False)
        unfold pz_rk
        cases h3 : pz_ra S a j with
        | none => exact pz_nn (by simp [pz_nx, h, h2, h3])
        | some w =>
          match w, h3 with
          | 0, h3 => exact pz_nn (by simp [pz_nx, h, h2, h3])
          | 1, h3 => exact pz_nn (by simp [pz_nx, h, h2, h3])
          | q + 2, h3 => exact pz_go (by simp [pz_nx, h, h2, h3])
    · show _ = (if t = 3 then _ else False)
      rw [if_neg ht]
      match t, h, ht with
      | 0, h, ht => exact pz_nn (by simp [pz_nx, h])
      | 1, h, ht => exact pz_nn (by simp [pz_nx, h])
      | 2, h, ht => exact pz_nn (by simp [pz_nx, h])
      | 3, h, ht => exact absurd rfl ht
      | t + 4, h, ht => exact pz_nn (by simp [pz_nx, h])
theorem w_iastore {q1 q2 q3 a : Nat} {q4 i : Int32} {v : Int32} : pz_wp X d m ((.iastore, q1, q2, q3, q4) :: is) ls (.int v :: .int i :: .ref a :: r) S M J Q = (match pz_as S a with | some (t, n) => (if t = 0 then (match pz_ix i n with | some j => pz_wp X d m (is) (ls) (r) (S) (pz_sr M a (upd (M a) j v)) (J) Q | none => False) else False) | none => False) := by
  cases h : pz_as S a with
  | none => exact pz_nn (by simp [pz_nx, h])
  | some q =>
    obtain ⟨t, n⟩ := q
    by_cases ht : t = 0
    · subst ht
      show _ = (if 0 = 0 then _ else False)
      rw [if_pos rfl]
      cases h2 : pz_ix i n with
      | none => exact pz_nn (by simp [pz_nx, h, h2])
      | some j => exact pz_go (by first | (simp [pz_nx, h, h2]; done) | simp [pz_nx, h, h2, hv])
    · show _ = (if t = 0 then _ else False)
      rw [if_neg ht]
      match t, h, ht with
      | 0, h, ht => exact absurd rfl ht
      | 1, h, ht => exact pz_nn (by simp [pz_nx, h])
      | 2, h, ht => exact pz_nn (by simp [pz_nx, h])
      | 3, h, ht => exact pz_nn (by simp [pz_nx, h])
      | t + 4, h, ht => exact pz_nn (by simp [pz_nx, h])
theorem w_lastore {q1 q2 q3 a : Nat} {q4 i : Int32} {v : Int64} : pz_wp X d m ((.lastore, q1, q2, q3, q4) :: is) ls (.long v :: .int i :: .ref a :: r) S M J Q = (match pz_as S a with | some (t, n) => (if t = 2 then (match pz_ix i n with | some j => pz_wp X d m (is) (ls) (r) (S) (M) (pz_srJ J a (vp_updL (J a) j v)) Q | none => False) else False) | none => False) := by
  cases h : pz_as S a with
  | none => exact pz_nn (by simp [pz_nx, h])
  | some q =>
    obtain ⟨t, n⟩ := q
    by_cases ht : t = 2
    · subst ht
      show _ = (if 2 = 2 then _ else False)
      rw [if_pos rfl]
      cases h2 : pz_ix i n with
      | none => exact pz_nn (by simp [pz_nx, h, h2])
      | some j => exact pz_go (by first | (simp [pz_nx, h, h2]; done) | simp [pz_nx, h, h2, hv])
    · show _ = (if t = 2 then _ else False)
      rw [if_neg ht]
      match t, h, ht with
      | 0, h, ht => exact pz_nn (by simp [pz_nx, h])
      | 1, h, ht => exact pz_nn (by simp [pz_nx, h])
      | 2, h, ht => exact absurd rfl ht
      | 3, h, ht => exact pz_nn (by simp [pz_nx, h])
      | t + 4, h, ht => exact pz_nn (by simp [pz_nx, h])
theorem w_bastore1 {q1 q2 q3 a : Nat} {q4 i : Int32} {v : Int32} (hv : v = 0 ∨ v = 1) : pz_wp X d m ((.bastore, q1, q2, q3, q4) :: is) ls (.int v :: .int i :: .ref a :: r) S M J Q = (match pz_as S a with | some (t, n) => (if t = 1 then (match pz_ix i n with | some j => pz_wp X d m (is) (ls) (r) (S) (pz_sr M a (upd (M a) j v)) (J) Q | none => False) else False) | none => False) := by
  cases h : pz_as S a with
  | none => exact pz_nn (by simp [pz_nx, h])
  | some q =>
    obtain ⟨t, n⟩ := q
    by_cases ht : t = 1
    · subst ht
      show _ = (if 1 = 1 then _ else False)
      rw [if_pos rfl]
      cases h2 : pz_ix i n with
      | none => exact pz_nn (by simp [pz_nx, h, h2])
      | some j => exact pz_go (by first | (simp [pz_nx, h, h2]; done) | simp [pz_nx, h, h2, hv])
    · show _ = (if t = 1 then _ else False)
      rw [if_neg ht]
      match t, h, ht with
      | 0, h, ht => exact pz_nn (by simp [pz_nx, h])
      | 1, h, ht => exact absurd rfl ht
      | 2, h, ht => exact pz_nn (by simp [pz_nx, h])
      | 3, h, ht => exact pz_nn (by simp [pz_nx, h])
      | t + 4, h, ht => exact pz_nn (by simp [pz_nx, h])
theorem w_bastore {q1 q2 q3 a : Nat} {q4 i v : Int32} : pz_wp X d m ((.bastore, q1, q2, q3, q4) :: is) ls (.int v :: .int i :: .ref a :: r) S M J Q = (if v = 0 ∨ v = 1 then (match pz_as S a with | some (t, n) => (if t = 1 then (match pz_ix i n with | some j => pz_wp X d m (is) (ls) (r) (S) (pz_sr M a (upd (M a) j v)) (J) Q | none => False) else False) | none => False) else False) := by
  by_cases hv : v = 0 ∨ v = 1
  · rw [if_pos hv]; exact w_bastore1 hv
  · rw [if_neg hv]; exact pz_nn (by simp [pz_nx, hv])
theorem w_ireturn {q2 q3 : Nat} {q4 v : Int32} : pz_wp X d m ((.ireturn, 0, q2, q3, q4) :: is) ls [.int v] S M J Q = Q (some (.int v)) S M J := pz_ret rfl
theorem w_zreturn {q2 q3 : Nat} {q4 v : Int32} : pz_wp X d m ((.ireturn, 1, q2, q3, q4) :: is) ls [.int v] S M J Q = if v = 0 ∨ v = 1 then Q (some (.int v)) S M J else False := by
  by_cases h : v = 0 ∨ v = 1
  · rw [if_pos h]; exact pz_ret (by simp [pz_nx, h])
  · rw [if_neg h]; exact pz_nn (by simp [pz_nx, h])
theorem w_zr0 {q2 q3 : Nat} {q4 : Int32} : pz_wp X d m ((.ireturn, 1, q2, q3, q4) :: is) ls [.int 0] S M J Q = Q (some (.int 0)) S M J := by rw [w_zreturn, if_pos (Or.inl rfl)]
theorem w_zr1 {q2 q3 : Nat} {q4 : Int32} : pz_wp X d m ((.ireturn, 1, q2, q3, q4) :: is) ls [.int 1] S M J Q = Q (some (.int 1)) S M J := by rw [w_zreturn, if_pos (Or.inr rfl)]
theorem w_zrb {q2 q3 : Nat} {q4 : Int32} {c : Prop} {hc : Decidable c} : pz_wp X d m ((.ireturn, 1, q2, q3, q4) :: is) ls [.int (pz_b c)] S M J Q = Q (some (.int (pz_b c))) S M J := by rw [w_zreturn, if_pos (by rw [pz_b01]; trivial)]
theorem w_lreturn {q1 q2 q3 : Nat} {q4 : Int32} {v : Int64} : pz_wp X d m ((.lreturn, q1, q2, q3, q4) :: is) ls [.long v] S M J Q = Q (some (.long v)) S M J := pz_ret rfl
theorem w_return {q1 q2 q3 : Nat} {q4 : Int32} : pz_wp X d m ((.return_, q1, q2, q3, q4) :: is) ls [] S M J Q = Q none S M J := pz_ret rfl
theorem w_callv {x q1 q2 q3 : Nat} {q4 : Int32} : pz_wp X (d + 1) m ((.invokevirtual x, q1, q2, q3, q4) :: is) ls st S M J Q = (match pz_tk (q2 + 1) [] st with | some (av, rest) => (if (rest.map Value.category).sum ≤ 8 ∧ (pz_al av).length ≤ q3 % 100 ∧ pz_rc 1 S (q3 / 100) av = true then pz_wp X d q1 (pz_blk q1 0) (pz_mkL (q3 % 100) av) [] S M J (pz_ct X (d + 1) m is ls rest Q) else False) | none => False) := by
  cases h : pz_tk (q2 + 1) [] st with
  | none => exact pz_nn (by simp [pz_nx, pz_ca, h])
  | some q =>
    obtain ⟨av, rest⟩ := q
    dsimp only
    by_cases h2 : (rest.map Value.category).sum ≤ 8 ∧ (pz_al av).length ≤ q3 % 100 ∧ pz_rc 1 S (q3 / 100) av = true
    · rw [if_pos h2]; exact pz_cl (by simp [pz_nx, pz_ca, h, h2])
    · rw [if_neg h2]; exact pz_nn (by simp only [pz_nx, pz_ca, h]; rw [if_neg h2])
theorem w_calls {x q1 q2 q3 : Nat} {q4 : Int32} (h9 : ¬ 900 ≤ q1) : pz_wp X (d + 1) m ((.invokestatic x, q1, q2, q3, q4) :: is) ls st S M J Q = (match pz_tk (q2) [] st with | some (av, rest) => (if (rest.map Value.category).sum ≤ 8 ∧ (pz_al av).length ≤ q3 % 100 ∧ pz_rc 0 S (q3 / 100) av = true then pz_wp X d q1 (pz_blk q1 0) (pz_mkL (q3 % 100) av) [] S M J (pz_ct X (d + 1) m is ls rest Q) else False) | none => False) := by
  cases h : pz_tk (q2) [] st with
  | none => exact pz_nn (by simp [pz_nx, pz_ca, h, h9])
  | some q =>
    obtain ⟨av, rest⟩ := q
    dsimp only
    by_cases h2 : (rest.map Value.category).sum ≤ 8 ∧ (pz_al av).length ≤ q3 % 100 ∧ pz_rc 0 S (q3 / 100) av = true
    · rw [if_pos h2]; exact pz_cl (by simp [pz_nx, pz_ca, h, h2, h9])
    · rw [if_neg h2]; exact pz_nn (by simp only [pz_nx, pz_ca, h]; rw [if_neg h9, if_neg h2])
theorem w_abs {x q2 q3 : Nat} {q4 v : Int32} : pz_wp X (d + 1) m ((.invokestatic x, 997, q2, q3, q4) :: is) ls (.int v :: r) S M J Q = if (r.map Value.category).sum ≤ 8 then pz_wp X (d + 1) m is ls (.int (if 0 ≤ v then v else 0 - v) :: r) S M J Q else False := by
  by_cases h : (r.map Value.category).sum ≤ 8
  · rw [if_pos h]; exact pz_go (by simp [pz_nx, pz_sp, h])
  · rw [if_neg h]; exact pz_nn (by simp [pz_nx, pz_sp, h])
theorem w_labs {x q2 q3 : Nat} {q4 : Int32} {v : Int64} : pz_wp X (d + 1) m ((.invokestatic x, 996, q2, q3, q4) :: is) ls (.long v :: r) S M J Q = if (r.map Value.category).sum ≤ 8 then pz_wp X (d + 1) m is ls (.long (if 0 < v then v else -v) :: r) S M J Q else False := by
  by_cases h : (r.map Value.category).sum ≤ 8
  · rw [if_pos h]; exact pz_go (by simp [pz_nx, pz_sp, h])
  · rw [if_neg h]; exact pz_nn (by simp [pz_nx, pz_sp, h])
theorem w_min {x q2 q3 : Nat} {q4 u v : Int32} : pz_wp X (d + 1) m ((.invokestatic x, 995, q2, q3, q4) :: is) ls (.int v :: .int u :: r) S M J Q = if (r.map Value.category).sum ≤ 8 then pz_wp X (d + 1) m is ls (.int (if v < u then v else u) :: r) S M J Q else False := by
  by_cases h : (r.map Value.category).sum ≤ 8
  · rw [if_pos h]; exact pz_go (by simp [pz_nx, pz_sp, h])
  · rw [if_neg h]; exact pz_nn (by simp [pz_nx, pz_sp, h])
theorem w_tsw {q1 q2 q3 : Nat} {q4 : Int32} {df lo hi : Int} {offs : Array Int} {x : Int32} : pz_wp X d m ((.tableswitch df lo hi offs, q1, q2, q3, q4) :: is) ls (.int x :: r) S M J Q = (match pz_tsw q1 df lo hi offs x with | some t => pz_wp X d m (pz_blk m t) ls r S M J Q | none => False) := by
  cases h : pz_tsw q1 df lo hi offs x with
  | none => exact pz_nn (by simp [pz_nx, h])
  | some t => exact pz_go (by simp [pz_nx, h])
theorem w_lsw {q1 q2 q3 : Nat} {q4 : Int32} {df : Int} {ps : Array (Int × Int)} {x : Int32} : pz_wp X d m ((.lookupswitch df ps, q1, q2, q3, q4) :: is) ls (.int x :: r) S M J Q = (match pz_lsw q1 df ps x with | some t => pz_wp X d m (pz_blk m t) ls r S M J Q | none => False) := by
  cases h : pz_lsw q1 df ps x with
  | none => exact pz_nn (by simp [pz_nx, h])
  | some t => exact pz_go (by simp [pz_nx, h])
theorem w_cpy {x q2 q3 : Nat} {q4 n dp sp : Int32} {a1 a0 : Nat} : pz_wp X (d + 1) m ((.invokestatic x, 998, q2, q3, q4) :: is) ls (.int n :: .int dp :: .ref a1 :: .int sp :: .ref a0 :: r) S M J Q = (match pz_cp S M (.int n :: .int dp :: .ref a1 :: .int sp :: .ref a0 :: r) with | some (r', M') => pz_wp X (d + 1) m is ls r' S M' J Q | none => False) := by
  cases h : pz_cp S M (.int n :: .int dp :: .ref a1 :: .int sp :: .ref a0 :: r) with
  | none => exact pz_nn (by simp [pz_nx, pz_sp, h])
  | some q => exact pz_go (by simp [pz_nx, pz_sp, h])
end PZW
