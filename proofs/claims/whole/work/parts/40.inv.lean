/-! WHAT HOLDS BETWEEN TWO CALLS -/
def pzID (i n noon hour : Nat) (k s w : Nat → Nat) (m : Nat → Option Nat) (f : Nat → Bool) (c r : Nat → Int) (M : pzM) (J : pzJ) : Prop :=
  RR (M 2 0) (M 2 1) (M 2 2) (M 3) (M 4) (M 5) (M 6) (M 7) n noon hour k s w m f ∧ RR (M 44 6) (M 44 5) (M 44 7) (M 48) (M 49) (M 50) (M 51) (M 52) n noon hour k s w m f ∧ WF n noon k s w m f ∧ RLc (J 8) (J 9) n c r ∧ RIc (M 53) (M 54) n c r ∧ (∀ j, j < 8 → M 7 j = 0 ∨ M 7 j = 1) ∧ (∀ j, j < 8 → M 52 j = 0 ∨ M 52 j = 1) ∧ hour ≤ 99 * i ∧ ∀ j, j < n → -(15 * (hour : Int)) ≤ c j ∧ c j ≤ 15 * hour ∧ -(15 * (hour : Int)) ≤ r j ∧ r j ≤ 15 * hour
def pzIR (n : Nat) (M : pzM) : Prop := ∃ q : Nat, q ≤ 8 ∧ M 27 0 = nI q ∧ M 44 29 = nI q ∧ ∀ j, j < q → ∃ a b : Nat, a < n ∧ b < n ∧ a ≠ b ∧ M 28 j = nI a ∧ M 63 j = nI a ∧ M 29 j = nI b ∧ M 64 j = nI b ∧ M 30 j = M 65 j ∧ M 31 j = M 66 j
def pzSh (O C : Nat → Int32) (so lo : Int32) (D : Nat → Int32) (t : Nat) : Prop := ((O 0 = 0 ∧ so = -9) ∨ (O 0 = 1 ∧ ∃ l z : Nat, l ≤ 2 ∧ z ≤ 60 ∧ O 1 = nI l ∧ so = nI l ∧ O 2 = nI z ∧ lo = nI z)) ∧ ∀ j, j < 60 → C j = D (60 * t + j)
def pzIS (M : pzM) : Prop := pzSh (M 36) (M 37) (M 45 0) (M 46 0) (M 47) 0 ∧ pzSh (M 38) (M 39) (M 45 1) (M 46 1) (M 47) 1 ∧ pzSh (M 40) (M 41) (M 45 2) (M 46 2) (M 47) 2 ∧ pzSh (M 42) (M 43) (M 45 3) (M 46 3) (M 47) 3
def pzIT (M : pzM) : Prop := M 0 6 = M 44 1 ∧ M 0 7 = M 44 0
def pzIK (M : pzM) : Prop := ∀ j, j < 8 → M 35 j = 0
def pzInv (i : Nat) (M : pzM) (J : pzJ) : Prop := ∃ (n noon hour : Nat) (k s w : Nat → Nat) (m : Nat → Option Nat) (f : Nat → Bool) (c r : Nat → Int), pzID i n noon hour k s w m f c r M J ∧ pzIR n M ∧ pzIS M ∧ pzIT M ∧ pzIK M
def pzK2 (i : Nat) (r : Option Value) : Option Value → List pzS → pzM → pzJ → Prop := fun r2 S2 M2 J2 => S2 = pzS0 ∧ r2 = r ∧ pzInv (i + 1) M2 J2
def pzK (X : pzX) (km : Nat) (lm : pzL) (i : Nat) : Option Value → List pzS → pzM → pzJ → Prop := fun r S1 M1 J1 => S1 = pzS0 ∧ (∃ v : Int32, r = some (.int v)) ∧ pz_wp X 999 km (pz_blk km 0) lm [] pzS0 M1 J1 (pzK2 i r)
def pzKl (X : pzX) (km : Nat) (lm : pzL) (i : Nat) : Option Value → List pzS → pzM → pzJ → Prop := fun r S1 M1 J1 => S1 = pzS0 ∧ (∃ v : Int64, r = some (.long v)) ∧ pz_wp X 999 km (pz_blk km 0) lm [] pzS0 M1 J1 (pzK2 i r)
set_option maxRecDepth 100000 in
set_option maxHeartbeats 4000000 in
theorem pzID_up {i n noon hour : Nat} {k s w : Nat → Nat} {m : Nat → Option Nat} {f : Nat → Bool} {c r : Nat → Int} {M : pzM} {J : pzJ} (h : pzID i n noon hour k s w m f c r M J) : pzID (i + 1) n noon hour k s w m f c r M J := by
  obtain ⟨h1, h2, h3, h4, h5, h6, h7, h8, h9⟩ := h
  exact ⟨h1, h2, h3, h4, h5, h6, h7, by omega, h9⟩
set_option maxRecDepth 100000 in
set_option maxHeartbeats 4000000 in
theorem pzInv_up {i : Nat} {M : pzM} {J : pzJ} (h : pzInv i M J) : pzInv (i + 1) M J := by
  obtain ⟨n, noon, hour, k, s, w, m, f, c, r, hD, h⟩ := h
  exact ⟨n, noon, hour, k, s, w, m, f, c, r, pzID_up hD, h⟩
/-- rows that tell the state: all else is for work -/
def pzRel (a : Nat) : Prop := a = 0 ∨ (2 ≤ a ∧ a ≤ 7) ∨ (27 ≤ a ∧ a ≤ 31) ∨ (35 ≤ a ∧ a ≤ 43) ∨ (45 ≤ a ∧ a ≤ 54) ∨ (63 ≤ a ∧ a ≤ 66)
set_option maxRecDepth 100000 in
set_option maxHeartbeats 4000000 in
theorem pzInv_fr {i : Nat} {M M' : pzM} {J J' : pzJ} (h : pzInv i M J) (hM : ∀ a, pzRel a → M' a = M a) (h44 : ∀ j, j = 0 ∨ j = 1 ∨ j = 5 ∨ j = 6 ∨ j = 7 ∨ j = 29 → M' 44 j = M 44 j) (h8 : J' 8 = J 8) (h9 : J' 9 = J 9) : pzInv i M' J' := by
  obtain ⟨n, noon, hour, k, s, w, m, f, c, r, hD, hR, hS, hT, hK⟩ := h
  refine ⟨n, noon, hour, k, s, w, m, f, c, r, ?_, ?_, ?_, ?_, ?_⟩
  · unfold pzID at hD ⊢
    rw [hM 2 (by unfold pzRel; omega), hM 3 (by unfold pzRel; omega), hM 4 (by unfold pzRel; omega), hM 5 (by unfold pzRel; omega), hM 6 (by unfold pzRel; omega), hM 7 (by unfold pzRel; omega), hM 48 (by unfold pzRel; omega), hM 49 (by unfold pzRel; omega), hM 50 (by unfold pzRel; omega), hM 51 (by unfold pzRel; omega), hM 52 (by unfold pzRel; omega), hM 53 (by unfold pzRel; omega), hM 54 (by unfold pzRel; omega), h44 5 (by omega), h44 6 (by omega), h44 7 (by omega), h8, h9]
    exact hD
  · unfold pzIR at hR ⊢
    rw [hM 27 (by unfold pzRel; omega), hM 28 (by unfold pzRel; omega), hM 29 (by unfold pzRel; omega), hM 30 (by unfold pzRel; omega), hM 31 (by unfold pzRel; omega), hM 63 (by unfold pzRel; omega), hM 64 (by unfold pzRel; omega), hM 65 (by unfold pzRel; omega), hM 66 (by unfold pzRel; omega), h44 29 (by omega)]
    exact hR
  · unfold pzIS at hS ⊢
    rw [hM 36 (by unfold pzRel; omega), hM 37 (by unfold pzRel; omega), hM 38 (by unfold pzRel; omega), hM 39 (by unfold pzRel; omega), hM 40 (by unfold pzRel; omega), hM 41 (by unfold pzRel; omega), hM 42 (by unfold pzRel; omega), hM 43 (by unfold pzRel; omega), hM 45 (by unfold pzRel; omega), hM 46 (by unfold pzRel; omega), hM 47 (by unfold pzRel; omega)]
    exact hS
  · unfold pzIT at hT ⊢
    rw [hM 0 (by unfold pzRel; omega), h44 0 (by omega), h44 1 (by omega)]
    exact hT
  · unfold pzIK at hK ⊢
    rw [hM 35 (by unfold pzRel; omega)]
    exact hK
