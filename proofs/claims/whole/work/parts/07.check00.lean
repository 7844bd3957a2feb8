def pz_len (i : Instr) (b : Nat) : Nat := match i with
  | .bipush _ | .ldc _ | .iload _ | .lload _ | .aload _ | .istore _ | .lstore _ | .astore _ | .newarray _ => 2
  | .sipush _ | .ldc_w _ | .ldc2_w _ | .goto _ | .if_icmp _ _ | .ifCond _ _ | .iinc _ _ | .getfield _ | .putfield _ | .getstatic _ | .invokevirtual _ | .invokestatic _ | .invokespecial _ | .new _ | .anewarray _ => 3
  | .tableswitch _ _ _ _ | .lookupswitch _ _ => b
  | _ => 1
def pz_at_ (a : ArrayType) : Nat := match a with
  | .int => 0
  | .boolean => 1
  | .long => 2
  | _ => 9
def pz_cl_ (m k na c : Nat) : Bool := decide (0 < k) && decide (k < pzNM) && decide ((parseMethodDescriptor (pz_y k).desc).map (fun d => d.parameters.length) = some na) && decide (c % 100 = (pz_mt k).2.2.1) && decide (c / 100 = (pz_mt k).2.2.2.2) && decide ((pz_mt k).2.2.1 ≤ 40)
/-- what stands beside an instruction is what the tables say -/
def pz_pl (m pc : Nat) (i : pzI) : Bool := match i with
  | (.goto off, t, _, _, _) => decide ((pc : Int) + off = (t : Int))
  | (.if_icmp _ off, t, _, _, _) => decide ((pc : Int) + off = (t : Int))
  | (.ifCond _ off, t, _, _, _) => decide ((pc : Int) + off = (t : Int))
  | (.tableswitch _ _ _ _, t, _, _, _) => decide (t = pc)
  | (.lookupswitch _ ps, t, _, _, _) => decide (t = pc) && (ps.toList.zip (ps.toList.drop 1)).all (fun (a, next) => a.1 < next.1)
  | (.ireturn, z, _, _, _) => decide ((z = 0 ∧ (pz_mt m).2.2.2.1 = some .int) ∨ (z = 1 ∧ (pz_mt m).2.2.2.1 = some .boolean))
  | (.lreturn, _, _, _, _) => decide ((pz_mt m).2.2.2.1 = some .long)
  | (.return_, _, _, _, _) => decide ((pz_mt m).2.2.2.1 = none)
  | (.iconst n, _, _, _, v) => decide (Int32.ofInt n = v)
  | (.bipush n, _, _, _, v) => decide ((Int8.ofInt n).toInt32 = v)
  | (.sipush n, _, _, _, v) => decide ((Int16.ofInt n).toInt32 = v)
  | (.iinc _ n, _, _, _, v) => decide (Int32.ofInt n = v)
  | (.ldc x, _, _, _, v) => pzLKI.any (fun q => q.1 == (pz_mt m).2.2.2.2 && q.2.1 == x && decide (q.2.2.1 = v))
  | (.ldc_w x, _, _, _, v) => pzLKI.any (fun q => q.1 == (pz_mt m).2.2.2.2 && q.2.1 == x && decide (q.2.2.1 = v))
  | (.ldc2_w x, k, _, _, _) => pzLKL.any (fun q => q.1 == (pz_mt m).2.2.2.2 && q.2.1 == x && q.2.2.1 == k)
  | (.getfield x, ci, k, _, _) => pzLF.any (fun q => q.1 == (pz_mt m).2.2.2.2 && q.2.1 == x && q.2.2.1 == ci && q.2.2.2.1 == k)
  | (.putfield x, ci, k, fl, _) => pzLF.any (fun q => q.1 == (pz_mt m).2.2.2.2 && q.2.1 == x && q.2.2.1 == ci && q.2.2.2.1 == k) && decide ((pzFT.getD ci []).getD k 9 = fl) && (fl != 2 || (decide ((pz_mt m).2.2.2.2 = ci) && decide ((pz_y m).name = "<init>")))
  | (.getstatic x, j, _, _, _) => pzLG.any (fun q => q.1 == (pz_mt m).2.2.2.2 && q.2.1 == x && q.2.2.1 == j)
  | (.invokevirtual x, k, na, c, _) => pzLV.any (fun q => q.1 == (pz_mt m).2.2.2.2 && q.2.1 == x && q.2.2.1 == k) && pz_cl_ m k na c
  | (.invokestatic x, k, na, c, _) => if k = 998 then pzLAC.any (fun q => q.1 == (pz_mt m).2.2.2.2 && q.2.1 == x) else if 900 ≤ k then pzLMA.any (fun q => q.1 == (pz_mt m).2.2.2.2 && q.2.1 == x && q.2.2.1 == k) else pzLS.any (fun q => q.1 == (pz_mt m).2.2.2.2 && q.2.1 == x && q.2.2.1 == k) && pz_cl_ m k na c
  | (.invokespecial x, k, na, c, _) => if k = 999 then pzLO.any (fun q => q.1 == (pz_mt m).2.2.2.2 && q.2.1 == x) else (pzLI.any (fun q => q.1 == (pz_mt m).2.2.2.2 && q.2.1 == x && q.2.2.1 == k) || pzLN.any (fun q => q.1 == (pz_mt m).2.2.2.2 && q.2.1 == x && q.2.2.1 == k)) && pz_cl_ m k na c
  | (.new x, ci, _, _, _) => pzLC.any (fun q => q.1 == (pz_mt m).2.2.2.2 && q.2.1 == x && q.2.2.1 == ci)
  | (.anewarray x, _, _, _, _) => pzLA.any (fun q => q.1 == (pz_mt m).2.2.2.2 && q.2.1 == x)
  | (.newarray a, t, _, _, _) => pz_at_ a == t
  | _ => true
def pz_ok (m : Nat) : Nat → List pzI → Bool
  | _, [] => true
  | pc, i :: is => match i with
    | (.nop, t, 1, _, _) => decide (t = pc)
    | i => decide (decode (pz_mt m).2.1 pc = .ok (i.1, pz_len i.1 i.2.2.1)) && pz_pl m pc i && pz_ok m (pc + pz_len i.1 i.2.2.1) is
theorem pz_all2 {m t : Nat} {b : List pzI} {l : List (Nat × List pzI)} (h : pz_ok m t b = true) (hl : l.all (fun q => pz_ok m q.1 q.2) = true) : ((t, b) :: l).all (fun q => pz_ok m q.1 q.2) = true := by
  rw [List.all_cons, hl, Bool.and_true]
  exact h
