theorem pz_oka : ∀ k, (pzPG.getD k []).all (fun q => pz_ok k q.1 q.2) = true
  | 0 => oL_law
  | 1 => oX0_init
  | 2 => oX0_play
  | 3 => oX0_canBe
  | 4 => oX0_carryOut
  | 5 => oX0_passHours
  | 6 => oX0_answer
  | 7 => oX1_init
  | 8 => oX1_found
  | 9 => oX1_kindOf
  | 10 => oX1_become
  | 11 => oX1_isNone
  | 12 => oX1_isPerson
  | 13 => oX1_areTwo
  | 14 => oX1_isJoined
  | 15 => oX1_stride
  | 16 => oX1_jarOf
  | 17 => oX1_wouldRather
  | 18 => oX1_button
  | 19 => oX1_unbutton
  | 20 => oX1_horses
  | 21 => oX1_fronts
  | 22 => oX1_wayColumns
  | 23 => oX1_wayRows
  | 24 => oX1_passHour
  | 25 => oX1_changeFronts
  | 26 => oX1_atOnePlace
  | 27 => oX1_hasHorsesAtOnePlace
  | 28 => oX1_farFromStart
  | 29 => oX1_farAfter
  | 30 => oX2_init
  | 31 => oX2_seek
  | 32 => oX2_place
  | 33 => oX2_keep
  | 34 => oX3_init
  | 35 => oX3_add
  | 36 => oX3_allSo
  | 37 => oX3_fitting
  | 38 => oX4_init
  | 39 => oX4_renew
  | 40 => oX4_faultAs
  | 41 => oX4_holds
  | 42 => oX4_cut
  | 43 => oX5_init
  | 44 => oX5_duchy
  | 45 => oX5_ofPerson
  | 46 => oX5_where
  | 47 => oX5_train
  | 48 => oX5_bid
  | 49 => oX5_jar
  | 50 => oX5_join
  | 51 => oX5_part
  | 52 => oX5_hours
  | 53 => oX5_day
  | 54 => oX5_match
  | 55 => oX5_rather
  | 56 => oX5_meet
  | 57 => oX5_leads
  | 58 => oX5_reading
  | 59 => oX5_back
  | 60 => oX5_steps
  | 61 => oX5_wills
  | 62 => oX5_kinds
  | 63 => oX5_odds
  | 64 => oX5_sheet
  | 65 => oX5_lose
  | 66 => oX5_put
  | 67 => oX5_cell
  | 68 => oX5_copy
  | 69 => oX5_tell
  | 70 => oX5_pat
  | 71 => oX5_as
  | 72 => oX5_trace
  | 73 => oX5_fault
  | 74 => oX5_many
  | 75 => oX5_faulted
  | 76 => oX5_isSheet
  | 77 => oX5_isLane
  | 78 => oX5_isWithin
  | 79 => oX5_isDayQuestion
  | 80 => oX5_firstFault
  | 81 => oX5_goesOn
  | 82 => oX5_refusalOfActs
  | 83 => oX5_isActKind
  | 84 => oX5_waysAsLong
  | 85 => oX5_leave
  | 86 => oX5_foreTells
  | 87 => oX5_hindTells
  | 88 => oX5_oldTells
  | 89 => oX6_init
  | 90 => oX6_fails
  | 91 => oX6_lost
  | 92 => oX6_within
  | 93 => oX6_isSheet
  | 94 => oX6_isSort
  | 95 => oX6_against
  | 96 => oX6_isPerson
  | 97 => oX6_areTwo
  | 98 => oX6_apart
  | 99 => oX6_digit
  | 100 => oX6_isSign
  | 101 => oX6_duchy
  | 102 => oX6_takeDuchy
  | 103 => oX6_readDuchy
  | 104 => oX6_readPerson
  | 105 => oX6_strideOf
  | 106 => oX6_jarOf
  | 107 => oX6_ofPerson
  | 108 => oX6_where
  | 109 => oX6_train
  | 110 => oX6_bid
  | 111 => oX6_jar
  | 112 => oX6_horses
  | 113 => oX6_joins
  | 114 => oX6_parts
  | 115 => oX6_join
  | 116 => oX6_part
  | 117 => oX6_columnsOf
  | 118 => oX6_linesOf
  | 119 => oX6_wayColumns
  | 120 => oX6_wayLines
  | 121 => oX6_oneHour
  | 122 => oX6_hours
  | 123 => oX6_keep
  | 124 => oX6_putBack
  | 125 => oX6_areAt
  | 126 => oX6_isCrowded
  | 127 => oX6_does
  | 128 => oX6_goDay
  | 129 => oX6_refusesPair
  | 130 => oX6_day
  | 131 => oX6_tellDay
  | 132 => oX6_findTwos
  | 133 => oX6_findMatch
  | 134 => oX6_match
  | 135 => oX6_wouldRather
  | 136 => oX6_rather
  | 137 => oX6_meet
  | 138 => oX6_leads
  | 139 => oX6_reading
  | 140 => oX6_back
  | 141 => oX6_areSo
  | 142 => oX6_steps
  | 143 => oX6_wills
  | 144 => oX6_kinds
  | 145 => oX6_inLeastTerms
  | 146 => oX6_odds
  | 147 => oX6_sheet
  | 148 => oX6_lose
  | 149 => oX6_put
  | 150 => oX6_cell
  | 151 => oX6_copy
  | 152 => oX6_begins
  | 153 => oX6_tell
  | 154 => oX6_pat
  | 155 => oX6_as
  | 156 => oX6_trace
  | 157 => oX6_fault
  | 158 => oX6_many
  | 159 => oJ6_bitCount_0f7a4
  | n + 160 => rfl
theorem pz_lookup {α : Type} : ∀ (l : List (Nat × α)) (t : Nat) (x : α), l.lookup t = some x → (t, x) ∈ l
  | [], t, x, h => by cases h
  | (a, y) :: l, t, x, h => by
    rw [List.lookup_cons] at h
    split at h
    · rename_i e
      have e1 : t = a := by simpa using e
      cases h
      rw [e1]
      exact List.mem_cons_self
    · exact List.mem_cons_of_mem _ (pz_lookup l t x h)
/-- every block is the code that stands there -/
theorem pz_okb (k t : Nat) : pz_ok k t (pz_blk k t) = true := by
  unfold pz_blk
  split
  · rename_i q hq
    exact List.all_eq_true.mp (pz_oka k) (t, q) (pz_lookup _ t q hq)
  · rfl
theorem pz_ok_cons {k pc : Nat} {i : pzI} {is : List pzI} (hn : i.1 ≠ .nop) (h : pz_ok k pc (i :: is) = true) : decode (pz_mt k).2.1 pc = .ok (i.1, pz_len i.1 i.2.2.1) ∧ pz_pl k pc i = true ∧ pz_ok k (pc + pz_len i.1 i.2.2.1) is = true := by
  unfold pz_ok at h
  split at h
  · exact absurd rfl hn
  · simp only [Bool.and_eq_true, decide_eq_true_eq] at h
    exact ⟨h.1.1, h.1.2, h.2⟩
theorem pz_any {α : Type} {l : List α} {f : α → Bool} (h : l.any f = true) : ∃ q ∈ l, f q = true := List.any_eq_true.mp h
theorem pz_cl0 : ∀ q ∈ vwCl, ∀ w ∈ u_ws q.1 q.2.1 q.2.2, w ∈ lw_tbl := by decide +kernel
theorem pz_cl1 : ∀ q ∈ vwCl, Cond.initialized q.1 ∈ lw_tbl ∧ Cond.instantiable q.1 q.2.2 ∈ lw_tbl := by decide +kernel
theorem pz_lay_good (C : String) (T : u_T) (N : Nat) : ∀ w ∈ u_ws C T N, goodWord w = true := by
  intro w hw
  obtain ⟨k, -, rfl⟩ := List.mem_map.mp hw
  unfold u_lay
  split <;> rfl
theorem pz_cl_in {q : vw_C} (h : q ∈ vwCl) : ∀ w ∈ u_ws q.1 q.2.1 q.2.2, w ∈ pzGW := fun w hw => List.mem_filter.mpr ⟨pz_cl0 q h w hw, pz_lay_good _ _ _ w hw⟩
theorem pz_cl_ini {q : vw_C} (h : q ∈ vwCl) : Cond.initialized q.1 ∈ pzGW ∧ Cond.instantiable q.1 q.2.2 ∈ pzGW := ⟨List.mem_filter.mpr ⟨(pz_cl1 q h).1, rfl⟩, List.mem_filter.mpr ⟨(pz_cl1 q h).2, rfl⟩⟩
theorem pz_cl_nm : ∀ q ∈ vwCl, ∀ a, a < q.2.2 → ∀ b, b < q.2.2 → a ≠ b → (q.2.1 a).2.1 ≠ (q.2.1 b).2.1 := by
  intro q hq
  simp only [vwCl, List.mem_cons, List.not_mem_nil, or_false] at hq
  rcases hq with rfl | rfl | rfl | rfl | rfl | rfl | rfl
  · exact nmX0
  · exact nmX1
  · exact nmX2
  · exact nmX3
  · exact nmX4
  · exact nmX5
  · exact nmX6
def pz_kzd (c : Nat) (ty : FieldType) : Bool := decide ((c = 0 ∧ defaultValue ty = .int 0) ∨ (c = 1 ∧ defaultValue ty = .null))
theorem pz_cl_ty : ∀ ci q, vwCl[ci]? = some q → (∀ k, k < q.2.2 → parseFieldDescriptor (q.2.1 k).2.2.1 = some (pz_ty ci k)) ∧ (∀ k, k < q.2.2 → ((pzFT.getD ci []).getD k 9 = 0 → pz_ty ci k = .int ∧ (q.2.1 k).2.2.2 = false) ∧ ((pzFT.getD ci []).getD k 9 = 1 → pz_ty ci k = .boolean ∧ (q.2.1 k).2.2.2 = false) ∧ ((pzFT.getD ci []).getD k 9 = 2 → (q.2.1 k).2.2.2 = true ∧ (q.2.1 k).1 = pz_cn ci ∧ refKind (pz_ty ci k) = true)) ∧ (∀ k, k < q.2.2 → pz_kzd ((pzKZ.getD ci []).getD k 9) (pz_ty ci k) = true) ∧ (pzKZ.getD ci []).length = q.2.2
  | 0, q, h => by cases h; decide +kernel
  | 1, q, h => by cases h; decide +kernel
  | 2, q, h => by cases h; decide +kernel
  | 3, q, h => by cases h; decide +kernel
  | 4, q, h => by cases h; decide +kernel
  | 5, q, h => by cases h; decide +kernel
  | 6, q, h => by cases h; decide +kernel
  | n + 7, q, h => by simp [vwCl] at h
