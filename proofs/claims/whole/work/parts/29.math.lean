/-! NUMBERS OF THE DUCHY, AS NUMBERS -/
def nP (o : Option Nat) : Int32 := match o with
  | none => -9
  | some q => nI q
def nB (b : Bool) : Int32 := if b then 1 else 0
def zstr (k s : Nat → Nat) (p : Nat) : Nat := if k p = 0 then s p else if k p = 1 then s p + 1 else s p / 2
def zcw (w : Nat) : Int := if w = 1 then 1 else if w = 3 then -1 else 0
def zrw (w : Nat) : Int := if w = 2 then 1 else if w = 0 then -1 else 0
def zwC (k s w : Nat → Nat) (a b : Nat) : Int := (zstr k s a : Int) * zcw (w a) + ((zstr k s b / 2 : Nat) : Int) * zcw (w b)
def zwR (k s w : Nat → Nat) (a b : Nat) : Int := (zstr k s a : Int) * zrw (w a) + ((zstr k s b / 2 : Nat) : Int) * zrw (w b)
def zab (x y : Nat) : Nat := if x < y then y - x else x - y
def zqt (x y : Nat) : Nat := if 4 - zab x y < zab x y then 4 - zab x y else zab x y
def zjr (k s w : Nat → Nat) (a b : Nat) : Nat := zab (zstr k s a) (zstr k s b) + zqt (w a) (w b)
/-- how the rows of a duchy tell it -/
def RR (a0 a1 a2 : Int32) (K S W P F : Nat → Int32) (n noon hour : Nat) (k s w : Nat → Nat) (m : Nat → Option Nat) (f : Nat → Bool) : Prop :=
  a0 = nI n ∧ a1 = nI noon ∧ a2 = nI hour ∧ ∀ j, j < n → K j = nI (k j) ∧ S j = nI (s j) ∧ W j = nI (w j) ∧ P j = nP (m j) ∧ F j = nB (f j)
def RLc (C R : Nat → Int64) (n : Nat) (c r : Nat → Int) : Prop := ∀ j, j < n → C j = Int64.ofInt (c j) ∧ R j = Int64.ofInt (r j)
def RIc (C R : Nat → Int32) (n : Nat) (c r : Nat → Int) : Prop := ∀ j, j < n → C j = Int32.ofInt (c j) ∧ R j = Int32.ofInt (r j)
def WF (n noon : Nat) (k s w : Nat → Nat) (m : Nat → Option Nat) (f : Nat → Bool) : Prop :=
  n ≤ 8 ∧ (∀ j, j < n → k j ≤ 2 ∧ s j ≤ 9 ∧ w j ≤ 3) ∧ (∀ j, j < n → ∀ q, m j = some q → q < n ∧ q ≠ j ∧ m q = some j ∧ f q = !f j) ∧ (∀ j, j < n → m j = none → f j = false) ∧ (n = 0 ∨ 2 ≤ n ∧ 1 ≤ noon ∧ noon ≤ 9)
set_option maxRecDepth 100000 in
set_option maxHeartbeats 4000000 in
theorem zstr_le {k s : Nat → Nat} {p : Nat} (h : s p ≤ 9) : zstr k s p ≤ 10 := by
  unfold zstr
  split
  · omega
  · split <;> omega
set_option maxRecDepth 100000 in
set_option maxHeartbeats 4000000 in
theorem zcw_b (w : Nat) : -1 ≤ zcw w ∧ zcw w ≤ 1 := by
  unfold zcw
  split
  · omega
  · split <;> omega
set_option maxRecDepth 100000 in
set_option maxHeartbeats 4000000 in
theorem zrw_b (w : Nat) : -1 ≤ zrw w ∧ zrw w ≤ 1 := by
  unfold zrw
  split
  · omega
  · split <;> omega
-- Int32 facts
set_option maxRecDepth 100000 in
set_option maxHeartbeats 4000000 in
theorem xI_lt0 {j : Nat} (h : j < 2 ^ 31) : (nI j < 0) = False := eq_false (nI_pos h)
set_option maxRecDepth 100000 in
set_option maxHeartbeats 4000000 in
theorem xI_le {a b : Nat} (ha : a < 2 ^ 31) (hb : b < 2 ^ 31) : (nI a ≤ nI b) = (a ≤ b) := propext (nI_leI ha hb)
set_option maxRecDepth 100000 in
set_option maxHeartbeats 4000000 in
theorem xI_lt {a b : Nat} (ha : a < 2 ^ 31) (hb : b < 2 ^ 31) : (nI a < nI b) = (a < b) := propext (nI_ltI ha hb)
set_option maxRecDepth 100000 in
set_option maxHeartbeats 4000000 in
theorem xI_eq {a b : Nat} (ha : a < 2 ^ 31) (hb : b < 2 ^ 31) : (nI a = nI b) = (a = b) := propext (nI_eq ha hb)
set_option maxRecDepth 100000 in
set_option maxHeartbeats 4000000 in
theorem xI_ix {j n : Nat} (h : j < n) (hn : n < 2 ^ 31) : pz_ix (nI j) n = some j := by
  unfold pz_ix
  rw [if_neg (nI_in h hn), nI_clamp (Nat.lt_trans h hn)]
set_option maxRecDepth 100000 in
set_option maxHeartbeats 4000000 in
theorem xI_per (p : Int32) {n : Nat} (hn : n < 2 ^ 31) : p < 0 ∨ (¬ p < 0 ∧ nI n ≤ p) ∨ ∃ j : Nat, j < n ∧ p = nI j := by
  rcases pk_ix p hn with h | h | h
  · exact Or.inl h
  · by_cases h0 : p < 0
    · exact Or.inl h0
    · exact Or.inr (Or.inl ⟨h0, h⟩)
  · exact Or.inr (Or.inr h)
set_option maxRecDepth 100000 in
set_option maxHeartbeats 4000000 in
theorem xI_abs {a b : Nat} (ha : a < 2 ^ 30) (hb : b < 2 ^ 30) : (if 0 ≤ nI a - nI b then nI a - nI b else 0 - (nI a - nI b)) = nI (zab a b) := by
  have e := pk_sub_toInt ha hb
  unfold zab
  by_cases h : a < b
  · have h1 : ¬ 0 ≤ nI a - nI b := by
      rw [Int32.le_iff_toInt_le, e]
      show ¬ (0 : Int) ≤ _
      omega
    rw [if_neg h1, if_pos h]
    have h2 : nI b - nI a = nI (b - a) := pk_sub (Nat.le_of_lt h)
    rw [← h2]
    apply Int32.toBitVec_inj.mp
    simp
  · have h1 : 0 ≤ nI a - nI b := by
      rw [Int32.le_iff_toInt_le, e]
      show (0 : Int) ≤ _
      omega
    rw [if_pos h1, if_neg h]
    exact pk_sub (by omega)
set_option maxRecDepth 100000 in
set_option maxHeartbeats 4000000 in
theorem xI_div2 {a : Nat} (ha : a < 2 ^ 31) : nI a / 2 = nI (a / 2) := pk_div (d := 2) ha (by decide) (by decide)
