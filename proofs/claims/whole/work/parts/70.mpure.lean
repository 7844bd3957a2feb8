/-! ALL MATCHES IN THEIR ORDER -/
def zuf (W : Nat → Nat) (p v : Nat) : Nat → Nat := fun q => if q = p then v else W q
def zub (T : Nat → Bool) (p : Nat) (v : Bool) : Nat → Bool := fun q => if q = p then v else T q
def zct {α : Type} (g : Nat → List α) : Nat → List α
  | 0 => []
  | t + 1 => zct g t ++ g t
def zlv (n : Nat) : Nat → Nat → (Nat → Nat) → (Nat → Bool) → Bool → List (Nat → Nat)
  | 0, _, W, _, _ => [W]
  | e + 1, p, W, T, o => if T p then zlv n e (p + 1) W T o else zct (fun t => if T (p + 1 + t) then [] else zlv n e (p + 1) (zuf (zuf W p (p + 1 + t)) (p + 1 + t) p) (zub T (p + 1 + t) true) o) e ++ (if o then zlv n e (p + 1) (zuf W p n) T false else [])
def zrg (n : Nat) (W : Nat → Nat) : List Nat := (List.range n).map W
def zsm (jr : Nat → Nat → Nat) (n : Nat) (W : Nat → Nat) : Nat → Nat
  | 0 => 0
  | q + 1 => zsm jr n W q + (if q < W q ∧ W q < n then jr q (W q) else 0)
def zst (jr : Nat → Nat → Nat) (n : Nat) (a : Nat × List Nat) (w : List Nat) : Nat × List Nat := if zsm jr n (fun q => w.getD q 0) n < a.1 then (zsm jr n (fun q => w.getD q 0) n, w) else a
set_option maxRecDepth 100000 in
set_option maxHeartbeats 4000000 in
theorem zrg_get {n : Nat} {W : Nat → Nat} {q : Nat} (h : q < n) : (zrg n W).getD q 0 = W q := by
  unfold zrg
  rw [List.getD_eq_getElem?_getD, List.getElem?_map, List.getElem?_range h]
  rfl
set_option maxRecDepth 100000 in
set_option maxHeartbeats 4000000 in
theorem zsm_ext {jr : Nat → Nat → Nat} {n : Nat} {W W' : Nat → Nat} : ∀ {p : Nat}, (∀ q, q < p → W q = W' q) → zsm jr n W p = zsm jr n W' p
  | 0, _ => rfl
  | p + 1, h => by
    unfold zsm
    rw [zsm_ext (fun q hq => h q (by omega)), h p (by omega)]
set_option maxRecDepth 100000 in
set_option maxHeartbeats 4000000 in
theorem zsm_rg {jr : Nat → Nat → Nat} {n : Nat} {W : Nat → Nat} : zsm jr n (fun q => (zrg n W).getD q 0) n = zsm jr n W n := zsm_ext (fun q hq => zrg_get hq)
set_option maxRecDepth 100000 in
set_option maxHeartbeats 4000000 in
theorem zsm_le {jr : Nat → Nat → Nat} {n : Nat} {W : Nat → Nat} (h : ∀ a b, a < n → b < n → jr a b ≤ 13) : ∀ {p : Nat}, p ≤ n → zsm jr n W p ≤ 13 * p
  | 0, _ => Nat.le_refl _
  | p + 1, hp => by
    have ih := zsm_le (W := W) h (p := p) (by omega)
    unfold zsm
    split
    · have := h p (W p) (by omega) (by omega)
      omega
    · omega
set_option maxRecDepth 100000 in
set_option maxHeartbeats 4000000 in
theorem zst_lt {jr : Nat → Nat → Nat} {n : Nat} (hn : n ≤ 8) (h : ∀ a b, a < n → b < n → jr a b ≤ 13) : ∀ (l : List (List Nat)) (a : Nat × List Nat), a.1 < 2 ^ 31 → (l.foldl (zst jr n) a).1 < 2 ^ 31
  | [], a, ha => ha
  | w :: l, a, ha => by
    show (l.foldl (zst jr n) (zst jr n a w)).1 < 2 ^ 31
    refine zst_lt hn h l _ ?_
    unfold zst
    have := zsm_le (W := fun q => w.getD q 0) h (Nat.le_refl n)
    split
    · show zsm jr n (fun q => w.getD q 0) n < 2 ^ 31
      omega
    · exact ha
set_option maxRecDepth 100000 in
set_option maxHeartbeats 4000000 in
theorem zst_le {jr : Nat → Nat → Nat} {n : Nat} : ∀ (l : List (List Nat)) (a : Nat × List Nat), (l.foldl (zst jr n) a).1 ≤ a.1
  | [], a => Nat.le_refl _
  | w :: l, a => by
    have ih := zst_le (jr := jr) (n := n) l (zst jr n a w)
    show (l.foldl (zst jr n) (zst jr n a w)).1 ≤ a.1
    have : (zst jr n a w).1 ≤ a.1 := by
      unfold zst
      split
      · rename_i h
        exact Nat.le_of_lt h
      · exact Nat.le_refl _
    omega
/-! the number's match: as the model finds it -/
def zwq (of : Nat) (P : Nat → Option Nat) : Nat → Nat → Nat → Option Nat
  | 0, _, _ => none
  | e + 1, sk, q => if q < of then (match P q with
      | some _ => zwq of P e sk (q + 1)
      | none => if 0 < sk then zwq of P e (sk - 1) (q + 1) else some q) else none
def zup (P : Nat → Option Nat) (p : Nat) (v : Option Nat) : Nat → Option Nat := fun q => if q = p then v else P q
abbrev zS4 : Type := (Nat → Option Nat) × Nat × Nat × Nat
def zos (of p : Nat) (st : zS4) : Option zS4 := match st.1 p with
  | some _ => some st
  | none => if st.2.2.2 < 2 ∨ st.2.2.1 / (st.2.2.2 - 1) = 0 then none else (match zwq of st.1 9 (st.2.1 / (st.2.2.1 / (st.2.2.2 - 1))) (p + 1) with
    | none => none
    | some q => some (zup (zup st.1 p (some q)) q (some p), st.2.1 % (st.2.2.1 / (st.2.2.2 - 1)), st.2.2.1 / (st.2.2.2 - 1), st.2.2.2 - 2))
def zsc (of : Nat) : Nat := if of = 8 then 105 else if of = 6 then 15 else if of = 4 then 3 else 1
def zoi (of t : Nat) : Nat → Option zS4
  | 0 => some (fun _ => none, t, zsc of, of)
  | p + 1 => match zoi of t p with
    | none => none
    | some st => zos of p st
def zdl (n t : Nat) : List Nat := match zoi (n + n % 2) t (n + n % 2) with
  | none => []
  | some st => (List.range n).map (fun q => (st.1 q).getD 0)
def zck1 (n : Nat) : Bool := (List.range (zsc (n + n % 2))).all (fun t => match zoi (n + n % 2) t (n + n % 2) with
  | none => false
  | some st => (List.range n).all (fun q => (st.1 q).isSome))
set_option maxRecDepth 100000 in
set_option maxHeartbeats 4000000 in
theorem zck1_2 : zck1 2 = true := by decide +kernel
set_option maxRecDepth 100000 in
set_option maxHeartbeats 4000000 in
theorem zck1_3 : zck1 3 = true := by decide +kernel
set_option maxRecDepth 100000 in
set_option maxHeartbeats 4000000 in
theorem zck1_4 : zck1 4 = true := by decide +kernel
set_option maxRecDepth 100000 in
set_option maxHeartbeats 4000000 in
theorem zck1_5 : zck1 5 = true := by decide +kernel
set_option maxRecDepth 100000 in
set_option maxHeartbeats 4000000 in
theorem zck1_6 : zck1 6 = true := by decide +kernel
set_option maxRecDepth 100000 in
set_option maxHeartbeats 4000000 in
theorem zck1_7 : zck1 7 = true := by decide +kernel
set_option maxRecDepth 100000 in
set_option maxHeartbeats 4000000 in
theorem zck1_8 : zck1 8 = true := by decide +kernel
def zls (n : Nat) : List (List Nat) := (zlv n n 0 (fun _ => 0) (fun _ => false) (decide (n % 2 = 1))).map (zrg n)
set_option maxRecDepth 100000 in
set_option maxHeartbeats 4000000 in
theorem zck2_2 : zls 2 = (List.range (zsc (2 + 2 % 2))).map (zdl 2) := by decide +kernel
set_option maxRecDepth 100000 in
set_option maxHeartbeats 4000000 in
theorem zck2_3 : zls 3 = (List.range (zsc (3 + 3 % 2))).map (zdl 3) := by decide +kernel
set_option maxRecDepth 100000 in
set_option maxHeartbeats 4000000 in
theorem zck2_4 : zls 4 = (List.range (zsc (4 + 4 % 2))).map (zdl 4) := by decide +kernel
set_option maxRecDepth 100000 in
set_option maxHeartbeats 4000000 in
theorem zck2_5 : zls 5 = (List.range (zsc (5 + 5 % 2))).map (zdl 5) := by decide +kernel
set_option maxRecDepth 100000 in
set_option maxHeartbeats 4000000 in
theorem zck2_6 : zls 6 = (List.range (zsc (6 + 6 % 2))).map (zdl 6) := by decide +kernel
set_option maxRecDepth 100000 in
set_option maxHeartbeats 4000000 in
theorem zck2_7 : zls 7 = (List.range (zsc (7 + 7 % 2))).map (zdl 7) := by decide +kernel
set_option maxRecDepth 100000 in
set_option maxHeartbeats 4000000 in
theorem zck2_8 : zls 8 = (List.range (zsc (8 + 8 % 2))).map (zdl 8) := by decide +kernel
set_option maxRecDepth 100000 in
set_option maxHeartbeats 4000000 in
theorem zck1_all {n : Nat} (h2 : 2 ≤ n) (h8 : n ≤ 8) : zck1 n = true := by
  rcases (show n = 2 ∨ n = 3 ∨ n = 4 ∨ n = 5 ∨ n = 6 ∨ n = 7 ∨ n = 8 by omega) with rfl | rfl | rfl | rfl | rfl | rfl | rfl
  · exact zck1_2
  · exact zck1_3
  · exact zck1_4
  · exact zck1_5
  · exact zck1_6
  · exact zck1_7
  · exact zck1_8
set_option maxRecDepth 100000 in
set_option maxHeartbeats 4000000 in
theorem zck2_all {n : Nat} (h2 : 2 ≤ n) (h8 : n ≤ 8) : zls n = (List.range (zsc (n + n % 2))).map (zdl n) := by
  rcases (show n = 2 ∨ n = 3 ∨ n = 4 ∨ n = 5 ∨ n = 6 ∨ n = 7 ∨ n = 8 by omega) with rfl | rfl | rfl | rfl | rfl | rfl | rfl
  · exact zck2_2
  · exact zck2_3
  · exact zck2_4
  · exact zck2_5
  · exact zck2_6
  · exact zck2_7
  · exact zck2_8
set_option maxRecDepth 100000 in
set_option maxHeartbeats 4000000 in
theorem zck1_t {n t : Nat} (h2 : 2 ≤ n) (h8 : n ≤ 8) (ht : t < zsc (n + n % 2)) : ∃ st, zoi (n + n % 2) t (n + n % 2) = some st ∧ ∀ q, q < n → (st.1 q).isSome = true := by
  have h := zck1_all h2 h8
  unfold zck1 at h
  rw [List.all_eq_true] at h
  have g := h t (List.mem_range.mpr ht)
  cases e : zoi (n + n % 2) t (n + n % 2) with
  | none => rw [e] at g; cases g
  | some st =>
    rw [e] at g
    have g : (List.range n).all (fun q => (st.1 q).isSome) = true := g
    rw [List.all_eq_true] at g
    exact ⟨st, rfl, fun q hq => g q (List.mem_range.mpr hq)⟩
