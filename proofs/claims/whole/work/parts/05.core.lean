/-! THE PURE MACHINE: what a method does to the cells, as a function; no machine state in it -/
abbrev pzS : Type := (Nat × Nat × List Nat) ⊕ (Nat × List Nat)
abbrev pzM : Type := Nat → Nat → Int32
abbrev pzJ : Type := Nat → Nat → Int64
abbrev pzL : Type := List (Option Value)
abbrev pzX : Type := Nat × (Nat → Int32)
abbrev pzA : Type := (List pzI × pzL × List Value × List pzS × pzM × pzJ) ⊕ ((Option Value) ⊕ (Nat × pzL × List Value))
def pz_sr (M : pzM) (k : Nat) (f : Nat → Int32) : pzM := fun a => if a = k then f else M a
def pz_srJ (J : pzJ) (k : Nat) (f : Nat → Int64) : pzJ := fun a => if a = k then f else J a
def pz_ix (i : Int32) (n : Nat) : Option Nat := if i < 0 ∨ n ≤ i.toNatClampNeg then none else some i.toNatClampNeg
def pz_as (S : List pzS) (a : Nat) : Option (Nat × Nat) := match S[a]? with
  | some (.inl (t, n, _)) => some (t, n)
  | _ => none
def pz_fs (S : List pzS) (a ci k : Nat) : Option Nat := match S[a]? with
  | some (.inr (c, rs)) => if c = ci then rs[k]? else none
  | _ => none
def pz_oc (S : List pzS) (a : Nat) : Option Nat := match S[a]? with
  | some (.inr (c, _)) => some c
  | _ => none
def pz_ra (S : List pzS) (a j : Nat) : Option Nat := match S[a]? with
  | some (.inl (3, _, rs)) => rs[j]?
  | _ => none
def pz_cols (j : Nat) : Int32 := match j with
  | 1 => 1
  | 3 => -1
  | _ => 0
def pz_rows (j : Nat) : Int32 := match j with
  | 0 => -1
  | 2 => 1
  | _ => 0
def pz_ro (X : pzX) (j : Nat) : pzX := match j with
  | 0 => X
  | 1 => (4, pz_cols)
  | 2 => (4, pz_rows)
  | _ => (0, fun _ => 0)
def pz_kl (a : Option Value) : Option Value := match a with
  | some v => if v.category = 2 then none else some v
  | none => none
def pz_k0 (t : pzL) : pzL := match t with
  | [] => []
  | _ :: t => none :: t
def pz_st : pzL → Nat → Value → pzL
  | [], _, _ => []
  | _ :: t, 0, v => some v :: (if v.category = 2 then pz_k0 t else t)
  | a :: t, n + 1, v => (if n = 0 then pz_kl a else a) :: pz_st t n v
def pz_lk (ls : pzL) (i : Nat) : Option Value := match ls[i]? with
  | some (some v) => some v
  | _ => none
def pz_tk : Nat → List Value → List Value → Option (List Value × List Value)
  | 0, acc, st => some (acc, st)
  | n + 1, acc, v :: st => pz_tk n (v :: acc) st
  | _ + 1, _, [] => none
def pz_al : List Value → pzL
  | [] => []
  | v :: t => if v.category = 2 then some v :: none :: pz_al t else some v :: pz_al t
def pz_mkL (n : Nat) (vs : List Value) : pzL := pz_al vs ++ List.replicate (n - (pz_al vs).length) none
def pz_cnd (c : ClassFile.Cond) (x y : Int32) : Bool := match c with
  | .eq => decide (x = y)
  | .ne => decide (¬ x = y)
  | .lt => decide (x < y)
  | .ge => decide (y ≤ x)
  | .gt => decide (y < x)
  | .le => decide (x ≤ y)
def pz_to (pc : Nat) (off : Int) : Option Nat := if (pc : Int) + off < 0 then none else some ((pc : Int) + off).toNat
def pz_tsw (pc : Nat) (df lo hi : Int) (offs : Array Int) (x : Int32) : Option Nat :=
  if x.toInt < lo ∨ hi < x.toInt then pz_to pc df else match offs[(x.toInt - lo).toNat]? with
    | some off => pz_to pc off
    | none => none
def pz_lsw (pc : Nat) (df : Int) (ps : Array (Int × Int)) (x : Int32) : Option Nat := pz_to pc (Op.lookupswitch.offset ps.toList df x.toInt)
def pz_cp (S : List pzS) (M : pzM) (st : List Value) : Option (List Value × pzM) := match st with
  | .int n :: .int dp :: .ref a1 :: .int sp :: .ref a0 :: r => match pz_as S a0, pz_as S a1 with
    | some (0, n0), some (0, n1) => if ¬ sp < 0 ∧ ¬ dp < 0 ∧ ¬ n < 0 ∧ sp.toNatClampNeg + n.toNatClampNeg ≤ n0 ∧ dp.toNatClampNeg + n.toNatClampNeg ≤ n1 ∧ (r.map Value.category).sum ≤ 8 then some (r, pz_sr M a1 (va_cpy (M a0) (M a1) sp.toNatClampNeg dp.toNatClampNeg n.toNatClampNeg)) else none
    | _, _ => none
  | _ => none
/-- calls of the library that are taken as one step -/
def pz_sp (k : Nat) (S : List pzS) (M : pzM) (st : List Value) : Option (List Value × pzM) :=
  if k = 998 then pz_cp S M st
  else if k = 997 then match st with
    | .int x :: r => if (r.map Value.category).sum ≤ 8 then some (.int (if 0 ≤ x then x else 0 - x) :: r, M) else none
    | _ => none
  else if k = 996 then match st with
    | .long x :: r => if (r.map Value.category).sum ≤ 8 then some (.long (if 0 < x then x else -x) :: r, M) else none
    | _ => none
  else if k = 995 then match st with
    | .int y :: .int x :: r => if (r.map Value.category).sum ≤ 8 then some (.int (if y < x then y else x) :: r, M) else none
    | _ => none
  else none
def pz_rc (md : Nat) (S : List pzS) (ci : Nat) (av : List Value) : Bool := match md, av with
  | 0, _ => true
  | 1, .ref b :: _ => decide (pz_oc S b = some ci)
  | 2, .ref _ :: _ => true
  | _, _ => false
/-- a call: which method, its locals, what stays on the stack -/
def pz_ca (md : Nat) (S : List pzS) (k na c : Nat) (st : List Value) : Option pzA := match pz_tk na [] st with
  | some (av, r) => if (r.map Value.category).sum ≤ 8 ∧ (pz_al av).length ≤ c % 100 ∧ pz_rc md S (c / 100) av = true then some (.inr (.inr (k, pz_mkL (c % 100) av, r))) else none
  | none => none
/-- one instruction -/
def pz_nx (X : pzX) (d m : Nat) (i : pzI) (is : List pzI) (ls : pzL) (st : List Value) (S : List pzS) (M : pzM) (J : pzJ) : Option pzA :=
  match i, st with
  | (.nop, t, 1, _, _), st => some (.inl (pz_blk m t, ls, st, S, M, J))
  | (.goto _, t, _, _, _), st => some (.inl (pz_blk m t, ls, st, S, M, J))
  | (.if_icmp c _, t, _, _, _), .int y :: .int x :: r => some (.inl (if pz_cnd c x y = true then pz_blk m t else is, ls, r, S, M, J))
  | (.ifCond c _, t, _, _, _), .int x :: r => some (.inl (if pz_cnd c x 0 = true then pz_blk m t else is, ls, r, S, M, J))
  | (.tableswitch df lo hi offs, pc, _, _, _), .int x :: r => match pz_tsw pc df lo hi offs x with
    | some t => some (.inl (pz_blk m t, ls, r, S, M, J))
    | none => none
  | (.lookupswitch df ps, pc, _, _, _), .int x :: r => match pz_lsw pc df ps x with
    | some t => some (.inl (pz_blk m t, ls, r, S, M, J))
    | none => none
  | (.ireturn, z, _, _, _), [.int v] => if z = 1 ∧ ¬ (v = 0 ∨ v = 1) then none else some (.inr (.inl (some (.int v))))
  | (.lreturn, _, _, _, _), [.long v] => some (.inr (.inl (some (.long v))))
  | (.return_, _, _, _, _), [] => some (.inr (.inl none))
  | (.invokevirtual _, k, na, c, _), st => pz_ca 1 S k (na + 1) c st
  | (.invokestatic _, k, na, c, _), st => if 900 ≤ k then match d, pz_sp k S M st with
      | _ + 1, some (r, M') => some (.inl (is, ls, r, S, M', J))
      | _, _ => none
    else pz_ca 0 S k na c st
  | (.invokespecial _, k, na, c, _), st => if k = 999 then match d, st with
      | _ + 1, .ref _ :: r => if (r.map Value.category).sum ≤ 8 then some (.inl (is, ls, r, S, M, J)) else none
      | _, _ => none
    else pz_ca 2 S k (na + 1) c st
  | (.iconst _, _, _, _, v), st => some (.inl (is, ls, .int v :: st, S, M, J))
  | (.bipush _, _, _, _, v), st => some (.inl (is, ls, .int v :: st, S, M, J))
  | (.sipush _, _, _, _, v), st => some (.inl (is, ls, .int v :: st, S, M, J))
  | (.ldc _, _, _, _, v), st => some (.inl (is, ls, .int v :: st, S, M, J))
  | (.ldc_w _, _, _, _, v), st => some (.inl (is, ls, .int v :: st, S, M, J))
  | (.ldc2_w _, k, _, _, _), st => some (.inl (is, ls, .long (if k = 0 then -9223372036854775808 else Int64.ofNat k) :: st, S, M, J))
  | (.lconst n, _, _, _, _), st => some (.inl (is, ls, .long (Int64.ofNat n) :: st, S, M, J))
  | (.iload_n k, _, _, _, _), st => match pz_lk ls k with
    | some (.int x) => some (.inl (is, ls, .int x :: st, S, M, J))
    | _ => none
  | (.iload k, _, _, _, _), st => match pz_lk ls k with
    | some (.int x) => some (.inl (is, ls, .int x :: st, S, M, J))
    | _ => none
  | (.lload_n k, _, _, _, _), st => match pz_lk ls k with
    | some (.long x) => some (.inl (is, ls, .long x :: st, S, M, J))
    | _ => none
  | (.lload k, _, _, _, _), st => match pz_lk ls k with
    | some (.long x) => some (.inl (is, ls, .long x :: st, S, M, J))
    | _ => none
  | (.aload_n k, _, _, _, _), st => match pz_lk ls k with
    | some (.ref x) => some (.inl (is, ls, .ref x :: st, S, M, J))
    | some (.retAddr x) => some (.inl (is, ls, .retAddr x :: st, S, M, J))
    | _ => none
  | (.aload k, _, _, _, _), st => match pz_lk ls k with
    | some (.ref x) => some (.inl (is, ls, .ref x :: st, S, M, J))
    | some (.retAddr x) => some (.inl (is, ls, .retAddr x :: st, S, M, J))
    | _ => none
  | (.istore_n k, _, _, _, _), .int x :: r => if (k : Nat) < ls.length then some (.inl (is, pz_st ls k (.int x), r, S, M, J)) else none
  | (.istore k, _, _, _, _), .int x :: r => if k < ls.length then some (.inl (is, pz_st ls k (.int x), r, S, M, J)) else none
  | (.lstore_n k, _, _, _, _), .long x :: r => if (k : Nat) + 1 < ls.length then some (.inl (is, pz_st ls k (.long x), r, S, M, J)) else none
  | (.lstore k, _, _, _, _), .long x :: r => if k + 1 < ls.length then some (.inl (is, pz_st ls k (.long x), r, S, M, J)) else none
  | (.astore_n k, _, _, _, _), .ref x :: r => if (k : Nat) < ls.length then some (.inl (is, pz_st ls k (.ref x), r, S, M, J)) else none
  | (.astore k, _, _, _, _), .ref x :: r => if k < ls.length then some (.inl (is, pz_st ls k (.ref x), r, S, M, J)) else none
  | (.iinc k _, _, _, _, v), st => match pz_lk ls k with
    | some (.int x) => if k < ls.length then some (.inl (is, pz_st ls k (.int (x + v)), st, S, M, J)) else none
    | _ => none
  | (.iadd, _, _, _, _), .int y :: .int x :: r => some (.inl (is, ls, .int (x + y) :: r, S, M, J))
  | (.isub, _, _, _, _), .int y :: .int x :: r => some (.inl (is, ls, .int (x - y) :: r, S, M, J))
  | (.imul, _, _, _, _), .int y :: .int x :: r => some (.inl (is, ls, .int (x * y) :: r, S, M, J))
  | (.iand, _, _, _, _), .int y :: .int x :: r => some (.inl (is, ls, .int (x &&& y) :: r, S, M, J))
  | (.ior, _, _, _, _), .int y :: .int x :: r => some (.inl (is, ls, .int (x ||| y) :: r, S, M, J))
  | (.idiv, _, _, _, _), .int y :: .int x :: r => if y = 0 then none else some (.inl (is, ls, .int (x / y) :: r, S, M, J))
  | (.irem, _, _, _, _), .int y :: .int x :: r => if y = 0 then none else some (.inl (is, ls, .int (x - x / y * y) :: r, S, M, J))
  | (.ineg, _, _, _, _), .int x :: r => some (.inl (is, ls, .int (-x) :: r, S, M, J))
  | (.ishl, _, _, _, _), .int y :: .int x :: r => some (.inl (is, ls, .int (x <<< (y &&& 31)) :: r, S, M, J))
  | (.iushr, _, _, _, _), .int y :: .int x :: r => some (.inl (is, ls, .int (x.toUInt32 >>> (y.toUInt32 &&& Int32.toUInt32 31)).toInt32 :: r, S, M, J))
  | (.ladd, _, _, _, _), .long y :: .long x :: r => some (.inl (is, ls, .long (x + y) :: r, S, M, J))
  | (.lsub, _, _, _, _), .long y :: .long x :: r => some (.inl (is, ls, .long (x - y) :: r, S, M, J))
  | (.ldiv, _, _, _, _), .long y :: .long x :: r => if y = 0 then none else some (.inl (is, ls, .long (x / y) :: r, S, M, J))
  | (.lrem, _, _, _, _), .long y :: .long x :: r => if y = 0 then none else some (.inl (is, ls, .long (x - x / y * y) :: r, S, M, J))
  | (.lneg, _, _, _, _), .long x :: r => some (.inl (is, ls, .long (-x) :: r, S, M, J))
  | (.lcmp, _, _, _, _), .long y :: .long x :: r => some (.inl (is, ls, .int (lg_cmp x y) :: r, S, M, J))
  | (.i2l, _, _, _, _), .int x :: r => some (.inl (is, ls, .long x.toInt64 :: r, S, M, J))
  | (.l2i, _, _, _, _), .long x :: r => some (.inl (is, ls, .int x.toInt32 :: r, S, M, J))
  | (.i2b, _, _, _, _), .int x :: r => some (.inl (is, ls, .int x.toInt8.toInt32 :: r, S, M, J))
  | (.i2s, _, _, _, _), .int x :: r => some (.inl (is, ls, .int x.toInt16.toInt32 :: r, S, M, J))
  | (.dup, _, _, _, _), v :: r => if v.category = 1 then some (.inl (is, ls, v :: v :: r, S, M, J)) else none
  | (.dup2, _, _, _, _), v :: w :: r => if v.category = 1 ∧ w.category = 1 then some (.inl (is, ls, v :: w :: v :: w :: r, S, M, J)) else none
  | (.getfield _, ci, k, _, _), .ref a :: r => match pz_fs S a ci k with
    | some 0 => some (.inl (is, ls, .int (M a k) :: r, S, M, J))
    | some (q + 2) => some (.inl (is, ls, .ref q :: r, S, M, J))
    | _ => none
  | (.putfield _, ci, k, fl, _), .int v :: .ref a :: r => if fl = 0 ∨ fl = 1 ∧ (v = 0 ∨ v = 1) then match pz_fs S a ci k with
      | some 0 => some (.inl (is, ls, r, S, pz_sr M a (upd (M a) k v), J))
      | _ => none
    else none
  | (.putfield _, ci, k, fl, _), .ref q :: .ref a :: r => if fl = 2 then match S[a]? with
      | some (.inr (cj, rs)) => if cj = ci ∧ k < rs.length ∧ rs[k]? ≠ some 0 then some (.inl (is, ls, r, S.set a (.inr (cj, rs.set k (q + 2))), M, J)) else none
      | _ => none
    else none
  | (.getstatic _, j, _, _, _), st => some (.inl (is, ls, .retAddr j :: st, S, M, J))
  | (.arraylength, _, _, _, _), .retAddr 0 :: r => some (.inl (is, ls, .int (Int32.ofNat X.1) :: r, S, M, J))
  | (.iaload, _, _, _, _), .int i :: .ref a :: r => match pz_as S a with
    | some (0, n) => match pz_ix i n with
      | some j => some (.inl (is, ls, .int (M a j) :: r, S, M, J))
      | none => none
    | _ => none
  | (.iaload, _, _, _, _), .int i :: .retAddr q :: r => match pz_ix i (pz_ro X q).1 with
    | some j => some (.inl (is, ls, .int ((pz_ro X q).2 j) :: r, S, M, J))
    | none => none
  | (.baload, _, _, _, _), .int i :: .ref a :: r => match pz_as S a with
    | some (1, n) => match pz_ix i n with
      | some j => some (.inl (is, ls, .int (M a j) :: r, S, M, J))
      | none => none
    | _ => none
  | (.laload, _, _, _, _), .int i :: .ref a :: r => match pz_as S a with
    | some (2, n) => match pz_ix i n with
      | some j => some (.inl (is, ls, .long (J a j) :: r, S, M, J))
      | none => none
    | _ => none
  | (.aaload, _, _, _, _), .int i :: .ref a :: r => match pz_as S a with
    | some (3, n) => match pz_ix i n with
      | some j => match pz_ra S a j with
        | some (q + 2) => some (.inl (is, ls, .ref q :: r, S, M, J))
        | _ => none
      | none => none
    | _ => none
  | (.iastore, _, _, _, _), .int v :: .int i :: .ref a :: r => match pz_as S a with
    | some (0, n) => match pz_ix i n with
      | some j => some (.inl (is, ls, r, S, pz_sr M a (upd (M a) j v), J))
      | none => none
    | _ => none
  | (.bastore, _, _, _, _), .int v :: .int i :: .ref a :: r => if v = 0 ∨ v = 1 then match pz_as S a with
      | some (1, n) => match pz_ix i n with
        | some j => some (.inl (is, ls, r, S, pz_sr M a (upd (M a) j v), J))
        | none => none
      | _ => none
    else none
  | (.lastore, _, _, _, _), .long v :: .int i :: .ref a :: r => match pz_as S a with
    | some (2, n) => match pz_ix i n with
      | some j => some (.inl (is, ls, r, S, M, pz_srJ J a (vp_updL (J a) j v)))
      | none => none
    | _ => none
  | (.aastore, _, _, _, _), .ref q :: .int i :: .ref a :: r => match S[a]? with
    | some (.inl (3, n, rs)) => match pz_ix i n with
      | some j => if rs.length = n ∧ pz_oc S q = some 4 then some (.inl (is, ls, r, S.set a (.inl (3, n, rs.set j (q + 2))), M, J)) else none
      | none => none
    | _ => none
  | (.new _, ci, _, _, _), st => match pzKZ[ci]? with
    | some rs => some (.inl (is, ls, .ref S.length :: st, S ++ [.inr (ci, rs)], pz_sr M S.length (fun _ => 0), J))
    | none => none
  | (.newarray _, t, _, _, _), .int n :: r => if n < 0 ∨ 1000 < n.toNatClampNeg ∨ 2 < t then none else
      some (.inl (is, ls, .ref S.length :: r, S ++ [.inl (t, n.toNatClampNeg, [])], pz_sr M S.length (fun _ => 0), pz_srJ J S.length (fun _ => 0)))
  | (.anewarray _, _, _, _, _), .int n :: r => if n < 0 ∨ 1000 < n.toNatClampNeg then none else
      some (.inl (is, ls, .ref S.length :: r, S ++ [.inl (3, n.toNatClampNeg, List.replicate n.toNatClampNeg 1)], M, J))
  | _, _ => none
/-- a method's run: fuel, depth, method, the rest of its code, its frame, the cells -/
def pz_rn (X : pzX) : Nat → Nat → Nat → List pzI → pzL → List Value → List pzS → pzM → pzJ → Option (Option Value × List pzS × pzM × pzJ)
  | 0, _, _, _, _, _, _, _, _ => none
  | _ + 1, _, _, [], _, _, _, _, _ => none
  | n + 1, d, m, i :: is, ls, st, S, M, J => match pz_nx X d m i is ls st S M J with
    | some (.inl (is', ls', st', S', M', J')) => pz_rn X n d m is' ls' st' S' M' J'
    | some (.inr (.inl r)) => some (r, S, M, J)
    | some (.inr (.inr (k, lsk, rest))) => match d with
      | 0 => none
      | d' + 1 => match pz_rn X n d' k (pz_blk k 0) lsk [] S M J with
        | some (r, S', M', J') => pz_rn X n d m is ls (r.toList ++ rest) S' M' J'
        | none => none
    | none => none
def pz_wp (X : pzX) (d m : Nat) (is : List pzI) (ls : pzL) (st : List Value) (S : List pzS) (M : pzM) (J : pzJ) (Q : Option Value → List pzS → pzM → pzJ → Prop) : Prop :=
  ∃ n r S' M' J', pz_rn X n d m is ls st S M J = some (r, S', M', J') ∧ Q r S' M' J'
