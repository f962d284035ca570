/-! the shape of the world behind the two constructors: 0 CarbonSheets, 1 and 20 its now and trial, 39 tally, 42 history (44 + 19 j its states), 158 slots (163, 182), 160 pad, 162 reader; 201 the model, 202 .. its rows -/
def shL : List gE := [.inl (6, [some (some 1), some (some 20), some (some 39), some (some 42), some (some 158), some (some 159), some (some 160), some (some 162)]),
  .inl (4, [some (some 2), some (some 3), none, none, some (some 4)]),
  .inr (4, 5, [5, 8, 11, 14, 17]),
  .inr (0, 2, []),
  .inr (0, 5, []),
  .inl (3, [none, none, none, some (some 6), some (some 7)]),
  .inr (0, 10, []),
  .inr (0, 80, []),
  .inl (3, [none, none, none, some (some 9), some (some 10)]),
  .inr (0, 10, []),
  .inr (0, 80, []),
  .inl (3, [none, none, none, some (some 12), some (some 13)]),
  .inr (0, 10, []),
  .inr (0, 80, []),
  .inl (3, [none, none, none, some (some 15), some (some 16)]),
  .inr (0, 10, []),
  .inr (0, 80, []),
  .inl (3, [none, none, none, some (some 18), some (some 19)]),
  .inr (0, 10, []),
  .inr (0, 80, []),
  .inl (4, [some (some 21), some (some 22), none, none, some (some 23)]),
  .inr (4, 5, [24, 27, 30, 33, 36]),
  .inr (0, 2, []),
  .inr (0, 5, []),
  .inl (3, [none, none, none, some (some 25), some (some 26)]),
  .inr (0, 10, []),
  .inr (0, 80, []),
  .inl (3, [none, none, none, some (some 28), some (some 29)]),
  .inr (0, 10, []),
  .inr (0, 80, []),
  .inl (3, [none, none, none, some (some 31), some (some 32)]),
  .inr (0, 10, []),
  .inr (0, 80, []),
  .inl (3, [none, none, none, some (some 34), some (some 35)]),
  .inr (0, 10, []),
  .inr (0, 80, []),
  .inl (3, [none, none, none, some (some 37), some (some 38)]),
  .inr (0, 10, []),
  .inr (0, 80, []),
  .inl (5, [none, none, none, none, none, none, some (some 40), some (some 41)]),
  .inr (0, 5, []),
  .inr (0, 5, []),
  .inl (0, [none, some (some 43)]),
  .inr (5, 6, [44, 63, 82, 101, 120, 139]),
  .inl (4, [some (some 45), some (some 46), none, none, some (some 47)]),
  .inr (4, 5, [48, 51, 54, 57, 60]),
  .inr (0, 2, []),
  .inr (0, 5, []),
  .inl (3, [none, none, none, some (some 49), some (some 50)]),
  .inr (0, 10, []),
  .inr (0, 80, []),
  .inl (3, [none, none, none, some (some 52), some (some 53)]),
  .inr (0, 10, []),
  .inr (0, 80, []),
  .inl (3, [none, none, none, some (some 55), some (some 56)]),
  .inr (0, 10, []),
  .inr (0, 80, []),
  .inl (3, [none, none, none, some (some 58), some (some 59)]),
  .inr (0, 10, []),
  .inr (0, 80, []),
  .inl (3, [none, none, none, some (some 61), some (some 62)]),
  .inr (0, 10, []),
  .inr (0, 80, []),
  .inl (4, [some (some 64), some (some 65), none, none, some (some 66)]),
  .inr (4, 5, [67, 70, 73, 76, 79]),
  .inr (0, 2, []),
  .inr (0, 5, []),
  .inl (3, [none, none, none, some (some 68), some (some 69)]),
  .inr (0, 10, []),
  .inr (0, 80, []),
  .inl (3, [none, none, none, some (some 71), some (some 72)]),
  .inr (0, 10, []),
  .inr (0, 80, []),
  .inl (3, [none, none, none, some (some 74), some (some 75)]),
  .inr (0, 10, []),
  .inr (0, 80, []),
  .inl (3, [none, none, none, some (some 77), some (some 78)]),
  .inr (0, 10, []),
  .inr (0, 80, []),
  .inl (3, [none, none, none, some (some 80), some (some 81)]),
  .inr (0, 10, []),
  .inr (0, 80, []),
  .inl (4, [some (some 83), some (some 84), none, none, some (some 85)]),
  .inr (4, 5, [86, 89, 92, 95, 98]),
  .inr (0, 2, []),
  .inr (0, 5, []),
  .inl (3, [none, none, none, some (some 87), some (some 88)]),
  .inr (0, 10, []),
  .inr (0, 80, []),
  .inl (3, [none, none, none, some (some 90), some (some 91)]),
  .inr (0, 10, []),
  .inr (0, 80, []),
  .inl (3, [none, none, none, some (some 93), some (some 94)]),
  .inr (0, 10, []),
  .inr (0, 80, []),
  .inl (3, [none, none, none, some (some 96), some (some 97)]),
  .inr (0, 10, []),
  .inr (0, 80, []),
  .inl (3, [none, none, none, some (some 99), some (some 100)]),
  .inr (0, 10, []),
  .inr (0, 80, []),
  .inl (4, [some (some 102), some (some 103), none, none, some (some 104)]),
  .inr (4, 5, [105, 108, 111, 114, 117]),
  .inr (0, 2, []),
  .inr (0, 5, []),
  .inl (3, [none, none, none, some (some 106), some (some 107)]),
  .inr (0, 10, []),
  .inr (0, 80, []),
  .inl (3, [none, none, none, some (some 109), some (some 110)]),
  .inr (0, 10, []),
  .inr (0, 80, []),
  .inl (3, [none, none, none, some (some 112), some (some 113)]),
  .inr (0, 10, []),
  .inr (0, 80, []),
  .inl (3, [none, none, none, some (some 115), some (some 116)]),
  .inr (0, 10, []),
  .inr (0, 80, []),
  .inl (3, [none, none, none, some (some 118), some (some 119)]),
  .inr (0, 10, []),
  .inr (0, 80, []),
  .inl (4, [some (some 121), some (some 122), none, none, some (some 123)]),
  .inr (4, 5, [124, 127, 130, 133, 136]),
  .inr (0, 2, []),
  .inr (0, 5, []),
  .inl (3, [none, none, none, some (some 125), some (some 126)]),
  .inr (0, 10, []),
  .inr (0, 80, []),
  .inl (3, [none, none, none, some (some 128), some (some 129)]),
  .inr (0, 10, []),
  .inr (0, 80, []),
  .inl (3, [none, none, none, some (some 131), some (some 132)]),
  .inr (0, 10, []),
  .inr (0, 80, []),
  .inl (3, [none, none, none, some (some 134), some (some 135)]),
  .inr (0, 10, []),
  .inr (0, 80, []),
  .inl (3, [none, none, none, some (some 137), some (some 138)]),
  .inr (0, 10, []),
  .inr (0, 80, []),
  .inl (4, [some (some 140), some (some 141), none, none, some (some 142)]),
  .inr (4, 5, [143, 146, 149, 152, 155]),
  .inr (0, 2, []),
  .inr (0, 5, []),
  .inl (3, [none, none, none, some (some 144), some (some 145)]),
  .inr (0, 10, []),
  .inr (0, 80, []),
  .inl (3, [none, none, none, some (some 147), some (some 148)]),
  .inr (0, 10, []),
  .inr (0, 80, []),
  .inl (3, [none, none, none, some (some 150), some (some 151)]),
  .inr (0, 10, []),
  .inr (0, 80, []),
  .inl (3, [none, none, none, some (some 153), some (some 154)]),
  .inr (0, 10, []),
  .inr (0, 80, []),
  .inl (3, [none, none, none, some (some 156), some (some 157)]),
  .inr (0, 10, []),
  .inr (0, 80, []),
  .inr (3, 2, [163, 182]),
  .inr (2, 2, []),
  .inl (2, [none, some (some 161)]),
  .inr (1, 80, []),
  .inl (1, [none, none, none, none, none]),
  .inl (4, [some (some 164), some (some 165), none, none, some (some 166)]),
  .inr (4, 5, [167, 170, 173, 176, 179]),
  .inr (0, 2, []),
  .inr (0, 5, []),
  .inl (3, [none, none, none, some (some 168), some (some 169)]),
  .inr (0, 10, []),
  .inr (0, 80, []),
  .inl (3, [none, none, none, some (some 171), some (some 172)]),
  .inr (0, 10, []),
  .inr (0, 80, []),
  .inl (3, [none, none, none, some (some 174), some (some 175)]),
  .inr (0, 10, []),
  .inr (0, 80, []),
  .inl (3, [none, none, none, some (some 177), some (some 178)]),
  .inr (0, 10, []),
  .inr (0, 80, []),
  .inl (3, [none, none, none, some (some 180), some (some 181)]),
  .inr (0, 10, []),
  .inr (0, 80, []),
  .inl (4, [some (some 183), some (some 184), none, none, some (some 185)]),
  .inr (4, 5, [186, 189, 192, 195, 198]),
  .inr (0, 2, []),
  .inr (0, 5, []),
  .inl (3, [none, none, none, some (some 187), some (some 188)]),
  .inr (0, 10, []),
  .inr (0, 80, []),
  .inl (3, [none, none, none, some (some 190), some (some 191)]),
  .inr (0, 10, []),
  .inr (0, 80, []),
  .inl (3, [none, none, none, some (some 193), some (some 194)]),
  .inr (0, 10, []),
  .inr (0, 80, []),
  .inl (3, [none, none, none, some (some 196), some (some 197)]),
  .inr (0, 10, []),
  .inr (0, 80, []),
  .inl (3, [none, none, none, some (some 199), some (some 200)]),
  .inr (0, 10, []),
  .inr (0, 80, []),
  .inl (7, [some (some 202), some (some 203), some (some 204), none, some (some 205), some (some 206), some (some 207), none, none, some (some 208), none, none, none, none, none, some (some 209), none, none, none]),
  .inr (0, 470, []),
  .inr (0, 470, []),
  .inr (0, 2820, []),
  .inr (0, 940, []),
  .inr (2, 2, []),
  .inr (0, 80, []),
  .inr (0, 5, []),
  .inr (0, 320, [])]
def shC (i : Nat) : gE := (shL[i]?).getD (.inl (0, []))
def S0 (ad : Nat → Nat) : gS := (210, shC, ad)
theorem sh_at (ad : Nat → Nat) (i : Nat) (e : gE) (h : shL[i]? = some e) : gat (S0 ad) i e := ⟨by have := (List.getElem?_eq_some_iff.mp h).1; exact this, by show (shL[i]?).getD _ = e; rw [h]; rfl⟩
theorem sh_cs (ad : Nat → Nat) : gat (S0 ad) 0 (.inl (6, [some (some 1), some (some 20), some (some 39), some (some 42), some (some 158), some (some 159), some (some 160), some (some 162)])) := sh_at ad 0 _ rfl
theorem sh_tally (ad : Nat → Nat) : gat (S0 ad) 39 (.inl (5, [none, none, none, none, none, none, some (some 40), some (some 41)])) := sh_at ad 39 _ rfl
theorem sh_tvals (ad : Nat → Nat) : gat (S0 ad) 40 (.inr (0, 5, [])) := sh_at ad 40 _ rfl
theorem sh_tvotes (ad : Nat → Nat) : gat (S0 ad) 41 (.inr (0, 5, [])) := sh_at ad 41 _ rfl
theorem sh_hist (ad : Nat → Nat) : gat (S0 ad) 42 (.inl (0, [none, some (some 43)])) := sh_at ad 42 _ rfl
theorem sh_states (ad : Nat → Nat) : gat (S0 ad) 43 (.inr (5, 6, [44, 63, 82, 101, 120, 139])) := sh_at ad 43 _ rfl
theorem sh_slots (ad : Nat → Nat) : gat (S0 ad) 158 (.inr (3, 2, [163, 182])) := sh_at ad 158 _ rfl
theorem sh_cSaved (ad : Nat → Nat) : gat (S0 ad) 159 (.inr (2, 2, [])) := sh_at ad 159 _ rfl
theorem sh_cpad (ad : Nat → Nat) : gat (S0 ad) 160 (.inl (2, [none, some (some 161)])) := sh_at ad 160 _ rfl
theorem sh_codes (ad : Nat → Nat) : gat (S0 ad) 161 (.inr (1, 80, [])) := sh_at ad 161 _ rfl
theorem sh_reader (ad : Nat → Nat) : gat (S0 ad) 162 (.inl (1, [none, none, none, none, none])) := sh_at ad 162 _ rfl
theorem sh_M (ad : Nat → Nat) : gat (S0 ad) 201 (.inl (7, [some (some 202), some (some 203), some (some 204), none, some (some 205), some (some 206), some (some 207), none, none, some (some 208), none, none, none, none, none, some (some 209), none, none, none])) := sh_at ad 201 _ rfl
theorem sh_mnow (ad : Nat → Nat) : gat (S0 ad) 202 (.inr (0, 470, [])) := sh_at ad 202 _ rfl
theorem sh_mkept (ad : Nat → Nat) : gat (S0 ad) 203 (.inr (0, 470, [])) := sh_at ad 203 _ rfl
theorem sh_mhistory (ad : Nat → Nat) : gat (S0 ad) 204 (.inr (0, 2820, [])) := sh_at ad 204 _ rfl
theorem sh_msaved (ad : Nat → Nat) : gat (S0 ad) 205 (.inr (0, 940, [])) := sh_at ad 205 _ rfl
theorem sh_misSaved (ad : Nat → Nat) : gat (S0 ad) 206 (.inr (2, 2, [])) := sh_at ad 206 _ rfl
theorem sh_mpad (ad : Nat → Nat) : gat (S0 ad) 207 (.inr (0, 80, [])) := sh_at ad 207 _ rfl
theorem sh_mcomes (ad : Nat → Nat) : gat (S0 ad) 208 (.inr (0, 5, [])) := sh_at ad 208 _ rfl
theorem sh_morders (ad : Nat → Nat) : gat (S0 ad) 209 (.inr (0, 320, [])) := sh_at ad 209 _ rfl
def bases : List Nat := [1, 20, 44, 63, 82, 101, 120, 139, 163, 182]
def isB (B : Nat) : Prop := B ∈ bases
theorem isB_lt {B : Nat} (h : isB B) : 1 ≤ B ∧ B + 19 ≤ 201 := by
  have : ∀ B ∈ bases, 1 ≤ B ∧ B + 19 ≤ 201 := by decide
  exact this B h
theorem isB_apart {B C : Nat} (h : isB B) (h2 : isB C) : B = C ∨ B + 19 ≤ C ∨ C + 19 ≤ B := by
  have : ∀ B ∈ bases, ∀ C ∈ bases, B = C ∨ B + 19 ≤ C ∨ C + 19 ≤ B := by decide
  exact this B h C h2
theorem isB_far {B : Nat} (h : isB B) (i : Nat) (hi : i ∈ [0, 39, 40, 41, 42, 43, 158, 159, 160, 161, 162]) : i < B ∨ B + 19 ≤ i := by
  have : ∀ B ∈ bases, ∀ i ∈ [0, 39, 40, 41, 42, 43, 158, 159, 160, 161, 162], i < B ∨ B + 19 ≤ i := by decide
  exact this B h i hi
theorem isB_hist {j : Nat} (h : j < 6) : isB (44 + 19 * j) := by
  have : ∀ j, j < 6 → (44 + 19 * j) ∈ bases := by decide
  exact this j h
theorem isB_slot {j : Nat} (h : j < 2) : isB (163 + 19 * j) := by
  have : ∀ j, j < 2 → (163 + 19 * j) ∈ bases := by decide
  exact this j h
theorem isB_1 : isB 1 := by unfold isB; decide
theorem isB_20 : isB 20 := by unfold isB; decide
theorem states_at {j : Nat} (h : j < 6) : ([44, 63, 82, 101, 120, 139] : List Nat)[j]? = some (44 + 19 * j) := by
  have : ∀ j, j < 6 → ([44, 63, 82, 101, 120, 139] : List Nat)[j]? = some (44 + 19 * j) := by decide
  exact this j h
theorem slots_at {j : Nat} (h : j < 2) : ([163, 182] : List Nat)[j]? = some (163 + 19 * j) := by
  have : ∀ j, j < 2 → ([163, 182] : List Nat)[j]? = some (163 + 19 * j) := by decide
  exact this j h
theorem sh_st (ad : Nat → Nat) {B : Nat} (h : isB B) : gat (S0 ad) (B) (.inl (4, [some (some (B + 1)), some (some (B + 2)), none, none, some (some (B + 3))])) := by
  simp only [isB, bases, List.mem_cons, List.not_mem_nil, or_false] at h
  rcases h with rfl | rfl | rfl | rfl | rfl | rfl | rfl | rfl | rfl | rfl <;> exact sh_at ad _ _ rfl
theorem sh_st1 (ad : Nat → Nat) {B : Nat} (h : isB B) : gat (S0 ad) (B + 1) (.inr (4, 5, [B + 4, B + 7, B + 10, B + 13, B + 16])) := by
  simp only [isB, bases, List.mem_cons, List.not_mem_nil, or_false] at h
  rcases h with rfl | rfl | rfl | rfl | rfl | rfl | rfl | rfl | rfl | rfl <;> exact sh_at ad _ _ rfl
theorem sh_st2 (ad : Nat → Nat) {B : Nat} (h : isB B) : gat (S0 ad) (B + 2) (.inr (0, 2, [])) := by
  simp only [isB, bases, List.mem_cons, List.not_mem_nil, or_false] at h
  rcases h with rfl | rfl | rfl | rfl | rfl | rfl | rfl | rfl | rfl | rfl <;> exact sh_at ad _ _ rfl
theorem sh_st3 (ad : Nat → Nat) {B : Nat} (h : isB B) : gat (S0 ad) (B + 3) (.inr (0, 5, [])) := by
  simp only [isB, bases, List.mem_cons, List.not_mem_nil, or_false] at h
  rcases h with rfl | rfl | rfl | rfl | rfl | rfl | rfl | rfl | rfl | rfl <;> exact sh_at ad _ _ rfl
theorem sh_sheet (ad : Nat → Nat) {B t : Nat} (h : isB B) (ht : t < 5) : gat (S0 ad) (B + 4 + 3 * t) (.inl (3, [none, none, none, some (some (B + 4 + 3 * t + 1)), some (some (B + 4 + 3 * t + 2))])) := by
  simp only [isB, bases, List.mem_cons, List.not_mem_nil, or_false] at h
  obtain rfl | rfl | rfl | rfl | rfl : t = 0 ∨ t = 1 ∨ t = 2 ∨ t = 3 ∨ t = 4 := by omega
  all_goals
    rcases h with rfl | rfl | rfl | rfl | rfl | rfl | rfl | rfl | rfl | rfl <;> exact sh_at ad _ _ rfl
theorem sh_counts (ad : Nat → Nat) {B t : Nat} (h : isB B) (ht : t < 5) : gat (S0 ad) (B + 4 + 3 * t + 1) (.inr (0, 10, [])) := by
  simp only [isB, bases, List.mem_cons, List.not_mem_nil, or_false] at h
  obtain rfl | rfl | rfl | rfl | rfl : t = 0 ∨ t = 1 ∨ t = 2 ∨ t = 3 ∨ t = 4 := by omega
  all_goals
    rcases h with rfl | rfl | rfl | rfl | rfl | rfl | rfl | rfl | rfl | rfl <;> exact sh_at ad _ _ rfl
theorem sh_marks (ad : Nat → Nat) {B t : Nat} (h : isB B) (ht : t < 5) : gat (S0 ad) (B + 4 + 3 * t + 2) (.inr (0, 80, [])) := by
  simp only [isB, bases, List.mem_cons, List.not_mem_nil, or_false] at h
  obtain rfl | rfl | rfl | rfl | rfl : t = 0 ∨ t = 1 ∨ t = 2 ∨ t = 3 ∨ t = 4 := by omega
  all_goals
    rcases h with rfl | rfl | rfl | rfl | rfl | rfl | rfl | rfl | rfl | rfl <;> exact sh_at ad _ _ rfl
theorem sheets_at {B t : Nat} (ht : t < 5) : ([B + 4, B + 7, B + 10, B + 13, B + 16] : List Nat)[t]? = some (B + 4 + 3 * t) := by
  match t, ht with
  | 0, _ => rfl
  | 1, _ => rfl
  | 2, _ => rfl
  | 3, _ => rfl
  | 4, _ => rfl
/-- posts of methods that change nothing -/
def pR (X : gX) (e : Int32) : Int32 → gX → Prop := fun v X' => X' = X ∧ v = e
theorem up_ind {P : Nat → Prop} (e : Nat) (h : ∀ k, k ≤ e → (k < e → P (k + 1)) → P k) : ∀ k, k ≤ e → P k := by
  have : ∀ n k, k ≤ e → e - k ≤ n → P k := by
    intro n
    induction n with
    | zero => intro k hk hn; exact h k hk (fun h1 => by omega)
    | succ n ih => intro k hk hn; exact h k hk (fun h1 => ih (k + 1) (by omega) (by omega))
  exact fun k hk => this (e - k) k hk (Nat.le_refl _)
theorem dn_ind {P : Nat → Prop} (h : ∀ k, (∀ j, k = j + 1 → P j) → P k) : ∀ k, P k := by
  intro k
  induction k with
  | zero => exact h 0 (fun j hj => by omega)
  | succ k ih => exact h (k + 1) (fun j hj => by have : k = j := by omega
                                                 subst this; exact ih)
def gle : List Value → List Value → Prop
  | [], [] => True
  | a :: as, b :: bs => (a = .null ∨ a = b) ∧ gle as bs
  | _, _ => False
theorem gle_at : ∀ {as bs : List Value}, gle as bs → ∀ (i : Nat) (v : Value), as[i]? = some v → v ≠ .null → bs[i]? = some v := by
  intro as
  induction as with
  | nil => intro bs _ i v h; simp at h
  | cons a as ih =>
    intro bs h i v hv hn
    cases bs with
    | nil => exact h.elim
    | cons b bs =>
      obtain ⟨h1, h2⟩ := h
      cases i with
      | zero =>
        simp at hv
        subst hv
        rcases h1 with h1 | h1
        · exact absurd h1 hn
        · subst h1; rfl
      | succ i =>
        simp at hv ⊢
        exact ih h2 i v hv hn
theorem g_weak {F : gF} {S : gS} {K : Nat × Nat} {X : gX} {pc : Nat} {ls ls2 st : List Value} (h : G F S K X pc ls st) (hl : gle ls ls2) : G F S K X pc ls2 st := by
  obtain ⟨p, l, e, R, s, m, args, below, meth, c, Γ, A, Q⟩ := F
  intro H locs L hL hc0 hP hD hS
  exact h H locs L ⟨hL.1, hL.2.1, fun i v hi hv => hL.2.2 i v (gle_at hl i v hi hv) hv⟩ hc0 hP hD hS
section
variable {F : gF} {own : String} {cc : ByteArray} {nL : Nat} {rm : Room} {S : gS} {K : Nat × Nat} {X : gX} {pc pc' : Nat} {ls st : List Value}
theorem g_callV0R (hC : Cx F own cc nL rm) {y : MethodName} {cc2 : ByteArray} {nL2 : Nat} {rt : Option FieldType} {fr lo : Nat} {rest : List Value} {id ci : Nat} {fs : List (Option (Option Nat))} {idx : Nat} {e : Int32} (hM : Ct F.2.1 S y cc2 nL2 rt fr lo [.ref id] X 0 0 (pI S (pR X e))) (hk : MLV own idx y cc2 nL2 rt 0) (hsh : gat S id (.inl (ci, fs))) (hci : (gCl[ci]?).map (fun q => q.1) = some y.cls) (hroom : fr + 1 ≤ rm.frames ∧ 8 + (nL2 + 11) + lo ≤ rm.locals) (hW : (rest.map fun v => v.category).sum ≤ 8) (d : decode cc pc = .ok (.invokevirtual idx, 3)) (hp : pc + 3 = pc') (hf : K.1 ≤ rm.cells ∧ K.2 ≤ rm.slots) (kk : G F S K X pc' ls (.int e :: rest)) : G F S K X pc ls (.ref id :: rest) :=
  g_callV0I hC hM hk hsh hci hroom hW d hp hf (fun v X' h => by obtain ⟨rfl, rfl⟩ := h; exact kk)
theorem g_callV1R (hC : Cx F own cc nL rm) {y : MethodName} {cc2 : ByteArray} {nL2 : Nat} {rt : Option FieldType} {fr lo : Nat} {a0 : Value} {rest : List Value} {id ci : Nat} {fs : List (Option (Option Nat))} {idx : Nat} {e : Int32} (hM : Ct F.2.1 S y cc2 nL2 rt fr lo [.ref id, a0] X 0 0 (pI S (pR X e))) (hk : MLV own idx y cc2 nL2 rt 1) (hsh : gat S id (.inl (ci, fs))) (hci : (gCl[ci]?).map (fun q => q.1) = some y.cls) (hroom : fr + 1 ≤ rm.frames ∧ 8 + (nL2 + 11) + lo ≤ rm.locals) (hW : (rest.map fun v => v.category).sum ≤ 8) (d : decode cc pc = .ok (.invokevirtual idx, 3)) (hp : pc + 3 = pc') (hf : K.1 ≤ rm.cells ∧ K.2 ≤ rm.slots) (kk : G F S K X pc' ls (.int e :: rest)) : G F S K X pc ls (a0 :: .ref id :: rest) :=
  g_callV1I hC hM hk hsh hci hroom hW d hp hf (fun v X' h => by obtain ⟨rfl, rfl⟩ := h; exact kk)
theorem g_callV2R (hC : Cx F own cc nL rm) {y : MethodName} {cc2 : ByteArray} {nL2 : Nat} {rt : Option FieldType} {fr lo : Nat} {a0 a1 : Value} {rest : List Value} {id ci : Nat} {fs : List (Option (Option Nat))} {idx : Nat} {e : Int32} (hM : Ct F.2.1 S y cc2 nL2 rt fr lo [.ref id, a0, a1] X 0 0 (pI S (pR X e))) (hk : MLV own idx y cc2 nL2 rt 2) (hsh : gat S id (.inl (ci, fs))) (hci : (gCl[ci]?).map (fun q => q.1) = some y.cls) (hroom : fr + 1 ≤ rm.frames ∧ 8 + (nL2 + 11) + lo ≤ rm.locals) (hW : (rest.map fun v => v.category).sum ≤ 8) (d : decode cc pc = .ok (.invokevirtual idx, 3)) (hp : pc + 3 = pc') (hf : K.1 ≤ rm.cells ∧ K.2 ≤ rm.slots) (kk : G F S K X pc' ls (.int e :: rest)) : G F S K X pc ls (a1 :: a0 :: .ref id :: rest) :=
  g_callV2I hC hM hk hsh hci hroom hW d hp hf (fun v X' h => by obtain ⟨rfl, rfl⟩ := h; exact kk)
theorem g_callV3R (hC : Cx F own cc nL rm) {y : MethodName} {cc2 : ByteArray} {nL2 : Nat} {rt : Option FieldType} {fr lo : Nat} {a0 a1 a2 : Value} {rest : List Value} {id ci : Nat} {fs : List (Option (Option Nat))} {idx : Nat} {e : Int32} (hM : Ct F.2.1 S y cc2 nL2 rt fr lo [.ref id, a0, a1, a2] X 0 0 (pI S (pR X e))) (hk : MLV own idx y cc2 nL2 rt 3) (hsh : gat S id (.inl (ci, fs))) (hci : (gCl[ci]?).map (fun q => q.1) = some y.cls) (hroom : fr + 1 ≤ rm.frames ∧ 8 + (nL2 + 11) + lo ≤ rm.locals) (hW : (rest.map fun v => v.category).sum ≤ 8) (d : decode cc pc = .ok (.invokevirtual idx, 3)) (hp : pc + 3 = pc') (hf : K.1 ≤ rm.cells ∧ K.2 ≤ rm.slots) (kk : G F S K X pc' ls (.int e :: rest)) : G F S K X pc ls (a2 :: a1 :: a0 :: .ref id :: rest) :=
  g_callV3I hC hM hk hsh hci hroom hW d hp hf (fun v X' h => by obtain ⟨rfl, rfl⟩ := h; exact kk)
theorem g_callV4R (hC : Cx F own cc nL rm) {y : MethodName} {cc2 : ByteArray} {nL2 : Nat} {rt : Option FieldType} {fr lo : Nat} {a0 a1 a2 a3 : Value} {rest : List Value} {id ci : Nat} {fs : List (Option (Option Nat))} {idx : Nat} {e : Int32} (hM : Ct F.2.1 S y cc2 nL2 rt fr lo [.ref id, a0, a1, a2, a3] X 0 0 (pI S (pR X e))) (hk : MLV own idx y cc2 nL2 rt 4) (hsh : gat S id (.inl (ci, fs))) (hci : (gCl[ci]?).map (fun q => q.1) = some y.cls) (hroom : fr + 1 ≤ rm.frames ∧ 8 + (nL2 + 11) + lo ≤ rm.locals) (hW : (rest.map fun v => v.category).sum ≤ 8) (d : decode cc pc = .ok (.invokevirtual idx, 3)) (hp : pc + 3 = pc') (hf : K.1 ≤ rm.cells ∧ K.2 ≤ rm.slots) (kk : G F S K X pc' ls (.int e :: rest)) : G F S K X pc ls (a3 :: a2 :: a1 :: a0 :: .ref id :: rest) :=
  g_callV4I hC hM hk hsh hci hroom hW d hp hf (fun v X' h => by obtain ⟨rfl, rfl⟩ := h; exact kk)
theorem g_callS1R (hC : Cx F own cc nL rm) {y : MethodName} {cc2 : ByteArray} {nL2 : Nat} {rt : Option FieldType} {fr lo : Nat} {a0 : Value} {rest : List Value} {idx : Nat} {e : Int32} (hM : Ct F.2.1 S y cc2 nL2 rt fr lo [a0] X 0 0 (pI S (pR X e))) (hk : MLS own idx y cc2 nL2 rt 1) (hroom : fr + 1 ≤ rm.frames ∧ 8 + (nL2 + 11) + lo ≤ rm.locals) (hW : (rest.map fun v => v.category).sum ≤ 8) (d : decode cc pc = .ok (.invokestatic idx, 3)) (hp : pc + 3 = pc') (hf : K.1 ≤ rm.cells ∧ K.2 ≤ rm.slots) (kk : G F S K X pc' ls (.int e :: rest)) : G F S K X pc ls (a0 :: rest) :=
  g_callS1I hC hM hk hroom hW d hp hf (fun v X' h => by obtain ⟨rfl, rfl⟩ := h; exact kk)
theorem g_callS2R (hC : Cx F own cc nL rm) {y : MethodName} {cc2 : ByteArray} {nL2 : Nat} {rt : Option FieldType} {fr lo : Nat} {a0 a1 : Value} {rest : List Value} {idx : Nat} {e : Int32} (hM : Ct F.2.1 S y cc2 nL2 rt fr lo [a0, a1] X 0 0 (pI S (pR X e))) (hk : MLS own idx y cc2 nL2 rt 2) (hroom : fr + 1 ≤ rm.frames ∧ 8 + (nL2 + 11) + lo ≤ rm.locals) (hW : (rest.map fun v => v.category).sum ≤ 8) (d : decode cc pc = .ok (.invokestatic idx, 3)) (hp : pc + 3 = pc') (hf : K.1 ≤ rm.cells ∧ K.2 ≤ rm.slots) (kk : G F S K X pc' ls (.int e :: rest)) : G F S K X pc ls (a1 :: a0 :: rest) :=
  g_callS2I hC hM hk hroom hW d hp hf (fun v X' h => by obtain ⟨rfl, rfl⟩ := h; exact kk)
theorem g_callS3R (hC : Cx F own cc nL rm) {y : MethodName} {cc2 : ByteArray} {nL2 : Nat} {rt : Option FieldType} {fr lo : Nat} {a0 a1 a2 : Value} {rest : List Value} {idx : Nat} {e : Int32} (hM : Ct F.2.1 S y cc2 nL2 rt fr lo [a0, a1, a2] X 0 0 (pI S (pR X e))) (hk : MLS own idx y cc2 nL2 rt 3) (hroom : fr + 1 ≤ rm.frames ∧ 8 + (nL2 + 11) + lo ≤ rm.locals) (hW : (rest.map fun v => v.category).sum ≤ 8) (d : decode cc pc = .ok (.invokestatic idx, 3)) (hp : pc + 3 = pc') (hf : K.1 ≤ rm.cells ∧ K.2 ≤ rm.slots) (kk : G F S K X pc' ls (.int e :: rest)) : G F S K X pc ls (a2 :: a1 :: a0 :: rest) :=
  g_callS3I hC hM hk hroom hW d hp hf (fun v X' h => by obtain ⟨rfl, rfl⟩ := h; exact kk)
theorem g_callS4R (hC : Cx F own cc nL rm) {y : MethodName} {cc2 : ByteArray} {nL2 : Nat} {rt : Option FieldType} {fr lo : Nat} {a0 a1 a2 a3 : Value} {rest : List Value} {idx : Nat} {e : Int32} (hM : Ct F.2.1 S y cc2 nL2 rt fr lo [a0, a1, a2, a3] X 0 0 (pI S (pR X e))) (hk : MLS own idx y cc2 nL2 rt 4) (hroom : fr + 1 ≤ rm.frames ∧ 8 + (nL2 + 11) + lo ≤ rm.locals) (hW : (rest.map fun v => v.category).sum ≤ 8) (d : decode cc pc = .ok (.invokestatic idx, 3)) (hp : pc + 3 = pc') (hf : K.1 ≤ rm.cells ∧ K.2 ≤ rm.slots) (kk : G F S K X pc' ls (.int e :: rest)) : G F S K X pc ls (a3 :: a2 :: a1 :: a0 :: rest) :=
  g_callS4I hC hM hk hroom hW d hp hf (fun v X' h => by obtain ⟨rfl, rfl⟩ := h; exact kk)
theorem g_callN1R (hC : Cx F own cc nL rm) {y : MethodName} {cc2 : ByteArray} {nL2 : Nat} {rt : Option FieldType} {fr lo : Nat} {a0 : Value} {rest : List Value} {idx : Nat} {e : Int32} (hM : Ct F.2.1 S y cc2 nL2 rt fr lo [a0] X 0 0 (pI S (pR X e))) (hk : MLN own idx y cc2 nL2 rt 1) (hroom : fr + 1 ≤ rm.frames ∧ 8 + (nL2 + 11) + lo ≤ rm.locals) (hW : (rest.map fun v => v.category).sum ≤ 8) (d : decode cc pc = .ok (.invokestatic idx, 3)) (hp : pc + 3 = pc') (hf : K.1 ≤ rm.cells ∧ K.2 ≤ rm.slots) (kk : G F S K X pc' ls (.int e :: rest)) : G F S K X pc ls (a0 :: rest) :=
  g_callN1I hC hM hk hroom hW d hp hf (fun v X' h => by obtain ⟨rfl, rfl⟩ := h; exact kk)
theorem g_callN2R (hC : Cx F own cc nL rm) {y : MethodName} {cc2 : ByteArray} {nL2 : Nat} {rt : Option FieldType} {fr lo : Nat} {a0 a1 : Value} {rest : List Value} {idx : Nat} {e : Int32} (hM : Ct F.2.1 S y cc2 nL2 rt fr lo [a0, a1] X 0 0 (pI S (pR X e))) (hk : MLN own idx y cc2 nL2 rt 2) (hroom : fr + 1 ≤ rm.frames ∧ 8 + (nL2 + 11) + lo ≤ rm.locals) (hW : (rest.map fun v => v.category).sum ≤ 8) (d : decode cc pc = .ok (.invokestatic idx, 3)) (hp : pc + 3 = pc') (hf : K.1 ≤ rm.cells ∧ K.2 ≤ rm.slots) (kk : G F S K X pc' ls (.int e :: rest)) : G F S K X pc ls (a1 :: a0 :: rest) :=
  g_callN2I hC hM hk hroom hW d hp hf (fun v X' h => by obtain ⟨rfl, rfl⟩ := h; exact kk)
theorem g_callN3R (hC : Cx F own cc nL rm) {y : MethodName} {cc2 : ByteArray} {nL2 : Nat} {rt : Option FieldType} {fr lo : Nat} {a0 a1 a2 : Value} {rest : List Value} {idx : Nat} {e : Int32} (hM : Ct F.2.1 S y cc2 nL2 rt fr lo [a0, a1, a2] X 0 0 (pI S (pR X e))) (hk : MLN own idx y cc2 nL2 rt 3) (hroom : fr + 1 ≤ rm.frames ∧ 8 + (nL2 + 11) + lo ≤ rm.locals) (hW : (rest.map fun v => v.category).sum ≤ 8) (d : decode cc pc = .ok (.invokestatic idx, 3)) (hp : pc + 3 = pc') (hf : K.1 ≤ rm.cells ∧ K.2 ≤ rm.slots) (kk : G F S K X pc' ls (.int e :: rest)) : G F S K X pc ls (a2 :: a1 :: a0 :: rest) :=
  g_callN3I hC hM hk hroom hW d hp hf (fun v X' h => by obtain ⟨rfl, rfl⟩ := h; exact kk)
theorem g_callN4R (hC : Cx F own cc nL rm) {y : MethodName} {cc2 : ByteArray} {nL2 : Nat} {rt : Option FieldType} {fr lo : Nat} {a0 a1 a2 a3 : Value} {rest : List Value} {idx : Nat} {e : Int32} (hM : Ct F.2.1 S y cc2 nL2 rt fr lo [a0, a1, a2, a3] X 0 0 (pI S (pR X e))) (hk : MLN own idx y cc2 nL2 rt 4) (hroom : fr + 1 ≤ rm.frames ∧ 8 + (nL2 + 11) + lo ≤ rm.locals) (hW : (rest.map fun v => v.category).sum ≤ 8) (d : decode cc pc = .ok (.invokestatic idx, 3)) (hp : pc + 3 = pc') (hf : K.1 ≤ rm.cells ∧ K.2 ≤ rm.slots) (kk : G F S K X pc' ls (.int e :: rest)) : G F S K X pc ls (a3 :: a2 :: a1 :: a0 :: rest) :=
  g_callN4I hC hM hk hroom hW d hp hf (fun v X' h => by obtain ⟨rfl, rfl⟩ := h; exact kk)
end
abbrev K_X0_record (l : Launch) (ad : Nat → Nat) (as : List Value) (X : gX) (post : gX → Prop) : Prop := Ct l (S0 ad) yX0_record cX0_record 2 none 3 69 as X 0 0 (pV (S0 ad) post)
abbrev K_X0_dropOldest (l : Launch) (ad : Nat → Nat) (as : List Value) (X : gX) (post : gX → Prop) : Prop := Ct l (S0 ad) yX0_dropOldest cX0_dropOldest 3 none 0 0 as X 0 0 (pV (S0 ad) post)
abbrev K_X0_takesBackInto (l : Launch) (ad : Nat → Nat) (as : List Value) (X : gX) (post : Int32 → gX → Prop) : Prop := Ct l (S0 ad) yX0_takesBackInto cX0_takesBackInto 2 (some .boolean) 3 69 as X 0 0 (pI (S0 ad) post)
abbrev K_X1_begin (l : Launch) (ad : Nat → Nat) (as : List Value) (X : gX) (post : gX → Prop) : Prop := Ct l (S0 ad) yX1_begin cX1_begin 1 none 0 0 as X 0 0 (pV (S0 ad) post)
abbrev K_X1_isAfterOrder (l : Launch) (ad : Nat → Nat) (as : List Value) (X : gX) (post : Int32 → gX → Prop) : Prop := Ct l (S0 ad) yX1_isAfterOrder cX1_isAfterOrder 1 (some .boolean) 0 0 as X 0 0 (pI (S0 ad) post)
abbrev K_X1_takes (l : Launch) (ad : Nat → Nat) (as : List Value) (X : gX) (post : Int32 → gX → Prop) : Prop := Ct l (S0 ad) yX1_takes cX1_takes 2 (some .boolean) 3 63 as X 0 0 (pI (S0 ad) post)
abbrev K_X1_goesOn (l : Launch) (ad : Nat → Nat) (as : List Value) (X : gX) (post : Int32 → gX → Prop) : Prop := Ct l (S0 ad) yX1_goesOn cX1_goesOn 3 (some .boolean) 0 0 as X 0 0 (pI (S0 ad) post)
abbrev K_X1_takesKind (l : Launch) (ad : Nat → Nat) (as : List Value) (X : gX) (post : Int32 → gX → Prop) : Prop := Ct l (S0 ad) yX1_takesKind cX1_takesKind 2 (some .boolean) 1 22 as X 0 0 (pI (S0 ad) post)
abbrev K_X1_takesField (l : Launch) (ad : Nat → Nat) (as : List Value) (X : gX) (post : Int32 → gX → Prop) : Prop := Ct l (S0 ad) yX1_takesField cX1_takesField 2 (some .boolean) 1 22 as X 0 0 (pI (S0 ad) post)
abbrev K_X1_takesFirstDigit (l : Launch) (ad : Nat → Nat) (as : List Value) (X : gX) (post : Int32 → gX → Prop) : Prop := Ct l (S0 ad) yX1_takesFirstDigit cX1_takesFirstDigit 2 (some .boolean) 1 22 as X 0 0 (pI (S0 ad) post)
abbrev K_X1_takesOneMoreDigit (l : Launch) (ad : Nat → Nat) (as : List Value) (X : gX) (post : Int32 → gX → Prop) : Prop := Ct l (S0 ad) yX1_takesOneMoreDigit cX1_takesOneMoreDigit 2 (some .boolean) 1 20 as X 0 0 (pI (S0 ad) post)
abbrev K_X1_takesPressure (l : Launch) (ad : Nat → Nat) (as : List Value) (X : gX) (post : Int32 → gX → Prop) : Prop := Ct l (S0 ad) yX1_takesPressure cX1_takesPressure 2 (some .boolean) 2 42 as X 0 0 (pI (S0 ad) post)
abbrev K_X1_isDigit (l : Launch) (ad : Nat → Nat) (as : List Value) (X : gX) (post : Int32 → gX → Prop) : Prop := Ct l (S0 ad) yX1_isDigit cX1_isDigit 1 (some .boolean) 0 0 as X 0 0 (pI (S0 ad) post)
abbrev K_X2_sizeOf (l : Launch) (ad : Nat → Nat) (as : List Value) (X : gX) (post : Int32 → gX → Prop) : Prop := Ct l (S0 ad) yX2_sizeOf cX2_sizeOf 6 (some .int) 1 22 as X 0 0 (pI (S0 ad) post)
abbrev K_X2_append (l : Launch) (ad : Nat → Nat) (as : List Value) (X : gX) (post : gX → Prop) : Prop := Ct l (S0 ad) yX2_append cX2_append 5 none 0 0 as X 0 0 (pV (S0 ad) post)
abbrev K_X2_firstFault (l : Launch) (ad : Nat → Nat) (as : List Value) (X : gX) (post : Int32 → gX → Prop) : Prop := Ct l (S0 ad) yX2_firstFault cX2_firstFault 3 (some .int) 4 84 as X 0 0 (pI (S0 ad) post)
abbrev K_X3_copyFrom (l : Launch) (ad : Nat → Nat) (as : List Value) (X : gX) (post : gX → Prop) : Prop := Ct l (S0 ad) yX3_copyFrom cX3_copyFrom 2 none 1 26 as X 0 0 (pV (S0 ad) post)
abbrev K_X3_hasRoom (l : Launch) (ad : Nat → Nat) (as : List Value) (X : gX) (post : Int32 → gX → Prop) : Prop := Ct l (S0 ad) yX3_hasRoom cX3_hasRoom 2 (some .boolean) 0 0 as X 0 0 (pI (S0 ad) post)
abbrev K_X3_addMark (l : Launch) (ad : Nat → Nat) (as : List Value) (X : gX) (post : gX → Prop) : Prop := Ct l (S0 ad) yX3_addMark cX3_addMark 4 none 1 21 as X 0 0 (pV (S0 ad) post)
abbrev K_X3_valueAt (l : Launch) (ad : Nat → Nat) (as : List Value) (X : gX) (post : Int32 → gX → Prop) : Prop := Ct l (S0 ad) yX3_valueAt cX3_valueAt 3 (some .int) 0 0 as X 0 0 (pI (S0 ad) post)
abbrev K_X3_strengthAt (l : Launch) (ad : Nat → Nat) (as : List Value) (X : gX) (post : Int32 → gX → Prop) : Prop := Ct l (S0 ad) yX3_strengthAt cX3_strengthAt 3 (some .int) 0 0 as X 0 0 (pI (S0 ad) post)
abbrev K_X3_isStruck (l : Launch) (ad : Nat → Nat) (as : List Value) (X : gX) (post : Int32 → gX → Prop) : Prop := Ct l (S0 ad) yX3_isStruck cX3_isStruck 3 (some .boolean) 0 0 as X 0 0 (pI (S0 ad) post)
abbrev K_X3_isReadable (l : Launch) (ad : Nat → Nat) (as : List Value) (X : gX) (post : Int32 → gX → Prop) : Prop := Ct l (S0 ad) yX3_isReadable cX3_isReadable 5 (some .boolean) 0 0 as X 0 0 (pI (S0 ad) post)
abbrev K_X3_strikeUpTo (l : Launch) (ad : Nat → Nat) (as : List Value) (X : gX) (post : Int32 → gX → Prop) : Prop := Ct l (S0 ad) yX3_strikeUpTo cX3_strikeUpTo 5 (some .int) 1 22 as X 0 0 (pI (S0 ad) post)
abbrev K_X3_lastReadable (l : Launch) (ad : Nat → Nat) (as : List Value) (X : gX) (post : Int32 → gX → Prop) : Prop := Ct l (S0 ad) yX3_lastReadable cX3_lastReadable 4 (some .int) 1 24 as X 0 0 (pI (S0 ad) post)
abbrev K_X3_readableMarks (l : Launch) (ad : Nat → Nat) (as : List Value) (X : gX) (post : Int32 → gX → Prop) : Prop := Ct l (S0 ad) yX3_readableMarks cX3_readableMarks 5 (some .int) 1 24 as X 0 0 (pI (S0 ad) post)
abbrev K_X3_strongestReadable (l : Launch) (ad : Nat → Nat) (as : List Value) (X : gX) (post : Int32 → gX → Prop) : Prop := Ct l (S0 ad) yX3_strongestReadable cX3_strongestReadable 5 (some .int) 1 24 as X 0 0 (pI (S0 ad) post)
abbrev K_X3_kindOf (l : Launch) (ad : Nat → Nat) (as : List Value) (X : gX) (post : Int32 → gX → Prop) : Prop := Ct l (S0 ad) yX3_kindOf cX3_kindOf 8 (some .int) 2 47 as X 0 0 (pI (S0 ad) post)
abbrev K_X3_allMarks (l : Launch) (ad : Nat → Nat) (as : List Value) (X : gX) (post : Int32 → gX → Prop) : Prop := Ct l (S0 ad) yX3_allMarks cX3_allMarks 3 (some .int) 0 0 as X 0 0 (pI (S0 ad) post)
abbrev K_X3_struckMarks (l : Launch) (ad : Nat → Nat) (as : List Value) (X : gX) (post : Int32 → gX → Prop) : Prop := Ct l (S0 ad) yX3_struckMarks cX3_struckMarks 4 (some .int) 1 22 as X 0 0 (pI (S0 ad) post)
abbrev K_X4_copyFrom (l : Launch) (ad : Nat → Nat) (as : List Value) (X : gX) (post : gX → Prop) : Prop := Ct l (S0 ad) yX4_copyFrom cX4_copyFrom 3 none 2 47 as X 0 0 (pV (S0 ad) post)
abbrev K_X4_isStackEmpty (l : Launch) (ad : Nat → Nat) (as : List Value) (X : gX) (post : Int32 → gX → Prop) : Prop := Ct l (S0 ad) yX4_isStackEmpty cX4_isStackEmpty 1 (some .boolean) 0 0 as X 0 0 (pI (S0 ad) post)
abbrev K_X4_isInStack (l : Launch) (ad : Nat → Nat) (as : List Value) (X : gX) (post : Int32 → gX → Prop) : Prop := Ct l (S0 ad) yX4_isInStack cX4_isInStack 2 (some .boolean) 0 0 as X 0 0 (pI (S0 ad) post)
abbrev K_X4_stack (l : Launch) (ad : Nat → Nat) (as : List Value) (X : gX) (post : Int32 → gX → Prop) : Prop := Ct l (S0 ad) yX4_stack cX4_stack 3 (some .int) 1 21 as X 0 0 (pI (S0 ad) post)
abbrev K_X4_noteIfApart (l : Launch) (ad : Nat → Nat) (as : List Value) (X : gX) (post : gX → Prop) : Prop := Ct l (S0 ad) yX4_noteIfApart cX4_noteIfApart 3 none 1 21 as X 0 0 (pV (S0 ad) post)
abbrev K_X4_measure (l : Launch) (ad : Nat → Nat) (as : List Value) (X : gX) (post : gX → Prop) : Prop := Ct l (S0 ad) yX4_measure cX4_measure 5 none 1 21 as X 0 0 (pV (S0 ad) post)
abbrev K_X4_wearCarbons (l : Launch) (ad : Nat → Nat) (as : List Value) (X : gX) (post : gX → Prop) : Prop := Ct l (S0 ad) yX4_wearCarbons cX4_wearCarbons 2 none 0 0 as X 0 0 (pV (S0 ad) post)
abbrev K_X4_refusalToWrite (l : Launch) (ad : Nat → Nat) (as : List Value) (X : gX) (post : Int32 → gX → Prop) : Prop := Ct l (S0 ad) yX4_refusalToWrite cX4_refusalToWrite 5 (some .int) 2 45 as X 0 0 (pI (S0 ad) post)
abbrev K_X4_pressValue (l : Launch) (ad : Nat → Nat) (as : List Value) (X : gX) (post : Int32 → gX → Prop) : Prop := Ct l (S0 ad) yX4_pressValue cX4_pressValue 6 (some .int) 2 45 as X 0 0 (pI (S0 ad) post)
abbrev K_X4_refusalToStrike (l : Launch) (ad : Nat → Nat) (as : List Value) (X : gX) (post : Int32 → gX → Prop) : Prop := Ct l (S0 ad) yX4_refusalToStrike cX4_refusalToStrike 3 (some .int) 2 42 as X 0 0 (pI (S0 ad) post)
abbrev K_X4_pressStroke (l : Launch) (ad : Nat → Nat) (as : List Value) (X : gX) (post : Int32 → gX → Prop) : Prop := Ct l (S0 ad) yX4_pressStroke cX4_pressStroke 5 (some .int) 2 46 as X 0 0 (pI (S0 ad) post)
abbrev K_X4_refusalToTear (l : Launch) (ad : Nat → Nat) (as : List Value) (X : gX) (post : Int32 → gX → Prop) : Prop := Ct l (S0 ad) yX4_refusalToTear cX4_refusalToTear 2 (some .int) 1 20 as X 0 0 (pI (S0 ad) post)
abbrev K_X4_tearOff (l : Launch) (ad : Nat → Nat) (as : List Value) (X : gX) (post : Int32 → gX → Prop) : Prop := Ct l (S0 ad) yX4_tearOff cX4_tearOff 2 (some .int) 0 0 as X 0 0 (pI (S0 ad) post)
abbrev K_X4_kindOf (l : Launch) (ad : Nat → Nat) (as : List Value) (X : gX) (post : Int32 → gX → Prop) : Prop := Ct l (S0 ad) yX4_kindOf cX4_kindOf 3 (some .int) 3 74 as X 0 0 (pI (S0 ad) post)
abbrev K_X4_fieldsThatAre (l : Launch) (ad : Nat → Nat) (as : List Value) (X : gX) (post : Int32 → gX → Prop) : Prop := Ct l (S0 ad) yX4_fieldsThatAre cX4_fieldsThatAre 5 (some .int) 4 96 as X 0 0 (pI (S0 ad) post)
abbrev K_X4_readTheSame (l : Launch) (ad : Nat → Nat) (as : List Value) (X : gX) (post : Int32 → gX → Prop) : Prop := Ct l (S0 ad) yX4_readTheSame cX4_readTheSame 5 (some .boolean) 4 96 as X 0 0 (pI (S0 ad) post)
abbrev K_X4_lastValue (l : Launch) (ad : Nat → Nat) (as : List Value) (X : gX) (post : Int32 → gX → Prop) : Prop := Ct l (S0 ad) yX4_lastValue cX4_lastValue 4 (some .int) 2 47 as X 0 0 (pI (S0 ad) post)
abbrev K_X4_lastStrength (l : Launch) (ad : Nat → Nat) (as : List Value) (X : gX) (post : Int32 → gX → Prop) : Prop := Ct l (S0 ad) yX4_lastStrength cX4_lastStrength 4 (some .int) 2 47 as X 0 0 (pI (S0 ad) post)
abbrev K_X4_allMarks (l : Launch) (ad : Nat → Nat) (as : List Value) (X : gX) (post : Int32 → gX → Prop) : Prop := Ct l (S0 ad) yX4_allMarks cX4_allMarks 3 (some .int) 1 22 as X 0 0 (pI (S0 ad) post)
abbrev K_X4_wouldBeEmptied (l : Launch) (ad : Nat → Nat) (as : List Value) (X : gX) (post : Int32 → gX → Prop) : Prop := Ct l (S0 ad) yX4_wouldBeEmptied cX4_wouldBeEmptied 5 (some .boolean) 2 48 as X 0 0 (pI (S0 ad) post)
abbrev K_X4_pressesToTheLowest (l : Launch) (ad : Nat → Nat) (as : List Value) (X : gX) (post : Int32 → gX → Prop) : Prop := Ct l (S0 ad) yX4_pressesToTheLowest cX4_pressesToTheLowest 4 (some .int) 2 45 as X 0 0 (pI (S0 ad) post)
abbrev K_X5_takeIn (l : Launch) (ad : Nat → Nat) (as : List Value) (X : gX) (post : gX → Prop) : Prop := Ct l (S0 ad) yX5_takeIn cX5_takeIn 4 none 4 96 as X 0 0 (pV (S0 ad) post)
abbrev K_X5_addVotes (l : Launch) (ad : Nat → Nat) (as : List Value) (X : gX) (post : gX → Prop) : Prop := Ct l (S0 ad) yX5_addVotes cX5_addVotes 4 none 0 0 as X 0 0 (pV (S0 ad) post)
abbrev K_X5_findLeaders (l : Launch) (ad : Nat → Nat) (as : List Value) (X : gX) (post : gX → Prop) : Prop := Ct l (S0 ad) yX5_findLeaders cX5_findLeaders 3 none 1 21 as X 0 0 (pV (S0 ad) post)
abbrev K_X6_set (l : Launch) (ad : Nat → Nat) (as : List Value) (X : gX) (post : Int32 → gX → Prop) : Prop := Ct l (S0 ad) yX6_set cX6_set 4 (some .int) 4 90 as X 0 0 (pI (S0 ad) post)
abbrev K_X6_thickness (l : Launch) (ad : Nat → Nat) (as : List Value) (X : gX) (post : Int32 → gX → Prop) : Prop := Ct l (S0 ad) yX6_thickness cX6_thickness 4 (some .int) 4 90 as X 0 0 (pI (S0 ad) post)
abbrev K_X6_carbon (l : Launch) (ad : Nat → Nat) (as : List Value) (X : gX) (post : Int32 → gX → Prop) : Prop := Ct l (S0 ad) yX6_carbon cX6_carbon 4 (some .int) 4 90 as X 0 0 (pI (S0 ad) post)
abbrev K_X6_write (l : Launch) (ad : Nat → Nat) (as : List Value) (X : gX) (post : Int32 → gX → Prop) : Prop := Ct l (S0 ad) yX6_write cX6_write 5 (some .int) 4 90 as X 0 0 (pI (S0 ad) post)
abbrev K_X6_strike (l : Launch) (ad : Nat → Nat) (as : List Value) (X : gX) (post : Int32 → gX → Prop) : Prop := Ct l (S0 ad) yX6_strike cX6_strike 4 (some .int) 4 90 as X 0 0 (pI (S0 ad) post)
abbrev K_X6_paint (l : Launch) (ad : Nat → Nat) (as : List Value) (X : gX) (post : Int32 → gX → Prop) : Prop := Ct l (S0 ad) yX6_paint cX6_paint 3 (some .int) 4 90 as X 0 0 (pI (S0 ad) post)
abbrev K_X6_amend (l : Launch) (ad : Nat → Nat) (as : List Value) (X : gX) (post : Int32 → gX → Prop) : Prop := Ct l (S0 ad) yX6_amend cX6_amend 5 (some .int) 4 90 as X 0 0 (pI (S0 ad) post)
abbrev K_X6_tear (l : Launch) (ad : Nat → Nat) (as : List Value) (X : gX) (post : Int32 → gX → Prop) : Prop := Ct l (S0 ad) yX6_tear cX6_tear 3 (some .int) 4 90 as X 0 0 (pI (S0 ad) post)
abbrev K_X6_ofSheet (l : Launch) (ad : Nat → Nat) (as : List Value) (X : gX) (post : Int32 → gX → Prop) : Prop := Ct l (S0 ad) yX6_ofSheet cX6_ofSheet 4 (some .int) 5 120 as X 0 0 (pI (S0 ad) post)
abbrev K_X6_reading (l : Launch) (ad : Nat → Nat) (as : List Value) (X : gX) (post : Int32 → gX → Prop) : Prop := Ct l (S0 ad) yX6_reading cX6_reading 6 (some .int) 4 96 as X 0 0 (pI (S0 ad) post)
abbrev K_X6_ofMark (l : Launch) (ad : Nat → Nat) (as : List Value) (X : gX) (post : Int32 → gX → Prop) : Prop := Ct l (S0 ad) yX6_ofMark cX6_ofMark 6 (some .int) 2 42 as X 0 0 (pI (S0 ad) post)
abbrev K_X6_together (l : Launch) (ad : Nat → Nat) (as : List Value) (X : gX) (post : Int32 → gX → Prop) : Prop := Ct l (S0 ad) yX6_together cX6_together 3 (some .int) 5 119 as X 0 0 (pI (S0 ad) post)
abbrev K_X6_count (l : Launch) (ad : Nat → Nat) (as : List Value) (X : gX) (post : Int32 → gX → Prop) : Prop := Ct l (S0 ad) yX6_count cX6_count 2 (some .int) 6 143 as X 0 0 (pI (S0 ad) post)
abbrev K_X6_differ (l : Launch) (ad : Nat → Nat) (as : List Value) (X : gX) (post : Int32 → gX → Prop) : Prop := Ct l (S0 ad) yX6_differ cX6_differ 5 (some .int) 5 120 as X 0 0 (pI (S0 ad) post)
abbrev K_X6_enoughFor (l : Launch) (ad : Nat → Nat) (as : List Value) (X : gX) (post : Int32 → gX → Prop) : Prop := Ct l (S0 ad) yX6_enoughFor cX6_enoughFor 3 (some .int) 2 45 as X 0 0 (pI (S0 ad) post)
abbrev K_X6_strikeFor (l : Launch) (ad : Nat → Nat) (as : List Value) (X : gX) (post : Int32 → gX → Prop) : Prop := Ct l (S0 ad) yX6_strikeFor cX6_strikeFor 3 (some .int) 3 72 as X 0 0 (pI (S0 ad) post)
abbrev K_X6_lasts (l : Launch) (ad : Nat → Nat) (as : List Value) (X : gX) (post : Int32 → gX → Prop) : Prop := Ct l (S0 ad) yX6_lasts cX6_lasts 2 (some .int) 3 68 as X 0 0 (pI (S0 ad) post)
abbrev K_X6_ifWritten (l : Launch) (ad : Nat → Nat) (as : List Value) (X : gX) (post : Int32 → gX → Prop) : Prop := Ct l (S0 ad) yX6_ifWritten cX6_ifWritten 5 (some .int) 5 119 as X 0 0 (pI (S0 ad) post)
abbrev K_X6_put (l : Launch) (ad : Nat → Nat) (as : List Value) (X : gX) (post : Int32 → gX → Prop) : Prop := Ct l (S0 ad) yX6_put cX6_put 4 (some .int) 2 47 as X 0 0 (pI (S0 ad) post)
abbrev K_X6_wipe (l : Launch) (ad : Nat → Nat) (as : List Value) (X : gX) (post : Int32 → gX → Prop) : Prop := Ct l (S0 ad) yX6_wipe cX6_wipe 2 (some .int) 0 0 as X 0 0 (pI (S0 ad) post)
abbrev K_X6_fault (l : Launch) (ad : Nat → Nat) (as : List Value) (X : gX) (post : Int32 → gX → Prop) : Prop := Ct l (S0 ad) yX6_fault cX6_fault 1 (some .int) 5 106 as X 0 0 (pI (S0 ad) post)
abbrev K_X6_carryOut (l : Launch) (ad : Nat → Nat) (as : List Value) (X : gX) (post : Int32 → gX → Prop) : Prop := Ct l (S0 ad) yX6_carryOut cX6_carryOut 2 (some .int) 5 113 as X 0 0 (pI (S0 ad) post)
abbrev K_X6_undo (l : Launch) (ad : Nat → Nat) (as : List Value) (X : gX) (post : Int32 → gX → Prop) : Prop := Ct l (S0 ad) yX6_undo cX6_undo 1 (some .int) 4 90 as X 0 0 (pI (S0 ad) post)
abbrev K_X6_save (l : Launch) (ad : Nat → Nat) (as : List Value) (X : gX) (post : Int32 → gX → Prop) : Prop := Ct l (S0 ad) yX6_save cX6_save 2 (some .int) 3 69 as X 0 0 (pI (S0 ad) post)
abbrev K_X6_restore (l : Launch) (ad : Nat → Nat) (as : List Value) (X : gX) (post : Int32 → gX → Prop) : Prop := Ct l (S0 ad) yX6_restore cX6_restore 2 (some .int) 4 90 as X 0 0 (pI (S0 ad) post)
abbrev K_X6_fieldsWithLeaders (l : Launch) (ad : Nat → Nat) (as : List Value) (X : gX) (post : Int32 → gX → Prop) : Prop := Ct l (S0 ad) yX6_fieldsWithLeaders cX6_fieldsWithLeaders 5 (some .int) 5 119 as X 0 0 (pI (S0 ad) post)
abbrev K_X6_carryOutThePad (l : Launch) (ad : Nat → Nat) (as : List Value) (X : gX) (post : Int32 → gX → Prop) : Prop := Ct l (S0 ad) yX6_carryOutThePad cX6_carryOutThePad 3 (some .int) 4 91 as X 0 0 (pI (S0 ad) post)
abbrev K_X6_carriesOutOrder (l : Launch) (ad : Nat → Nat) (as : List Value) (X : gX) (post : Int32 → gX → Prop) : Prop := Ct l (S0 ad) yX6_carriesOutOrder cX6_carriesOutOrder 2 (some .boolean) 3 70 as X 0 0 (pI (S0 ad) post)
abbrev K_X6_isWithin (l : Launch) (ad : Nat → Nat) (as : List Value) (X : gX) (post : Int32 → gX → Prop) : Prop := Ct l (S0 ad) yX6_isWithin cX6_isWithin 3 (some .boolean) 0 0 as X 0 0 (pI (S0 ad) post)
abbrev K_X6_isSheet (l : Launch) (ad : Nat → Nat) (as : List Value) (X : gX) (post : Int32 → gX → Prop) : Prop := Ct l (S0 ad) yX6_isSheet cX6_isSheet 1 (some .boolean) 1 22 as X 0 0 (pI (S0 ad) post)
abbrev K_X6_isField (l : Launch) (ad : Nat → Nat) (as : List Value) (X : gX) (post : Int32 → gX → Prop) : Prop := Ct l (S0 ad) yX6_isField cX6_isField 1 (some .boolean) 1 22 as X 0 0 (pI (S0 ad) post)
abbrev K_X6_isValue (l : Launch) (ad : Nat → Nat) (as : List Value) (X : gX) (post : Int32 → gX → Prop) : Prop := Ct l (S0 ad) yX6_isValue cX6_isValue 1 (some .boolean) 1 22 as X 0 0 (pI (S0 ad) post)
abbrev K_X6_isPressure (l : Launch) (ad : Nat → Nat) (as : List Value) (X : gX) (post : Int32 → gX → Prop) : Prop := Ct l (S0 ad) yX6_isPressure cX6_isPressure 1 (some .boolean) 1 22 as X 0 0 (pI (S0 ad) post)
abbrev K_X6_isSlot (l : Launch) (ad : Nat → Nat) (as : List Value) (X : gX) (post : Int32 → gX → Prop) : Prop := Ct l (S0 ad) yX6_isSlot cX6_isSlot 1 (some .boolean) 1 22 as X 0 0 (pI (S0 ad) post)
abbrev K_X6_isSettingWith (l : Launch) (ad : Nat → Nat) (as : List Value) (X : gX) (post : Int32 → gX → Prop) : Prop := Ct l (S0 ad) yX6_isSettingWith cX6_isSettingWith 2 (some .boolean) 1 22 as X 0 0 (pI (S0 ad) post)
abbrev K_X7_in (l : Launch) (ad : Nat → Nat) (as : List Value) (X : gX) (post : Int32 → gX → Prop) : Prop := Ct l (S0 ad) yX7_in cX7_in 3 (some .boolean) 0 0 as X 0 0 (pI (S0 ad) post)
abbrev K_X7_record (l : Launch) (ad : Nat → Nat) (as : List Value) (X : gX) (post : gX → Prop) : Prop := Ct l (S0 ad) yX7_record cX7_record 2 none 0 0 as X 0 0 (pV (S0 ad) post)
abbrev K_X7_set (l : Launch) (ad : Nat → Nat) (as : List Value) (X : gX) (post : Int32 → gX → Prop) : Prop := Ct l (S0 ad) yX7_set cX7_set 4 (some .int) 1 22 as X 0 0 (pI (S0 ad) post)
abbrev K_X7_isSheet (l : Launch) (ad : Nat → Nat) (as : List Value) (X : gX) (post : Int32 → gX → Prop) : Prop := Ct l (S0 ad) yX7_isSheet cX7_isSheet 1 (some .boolean) 1 22 as X 0 0 (pI (S0 ad) post)
abbrev K_X7_isField (l : Launch) (ad : Nat → Nat) (as : List Value) (X : gX) (post : Int32 → gX → Prop) : Prop := Ct l (S0 ad) yX7_isField cX7_isField 1 (some .boolean) 1 22 as X 0 0 (pI (S0 ad) post)
abbrev K_X7_isInStack (l : Launch) (ad : Nat → Nat) (as : List Value) (X : gX) (post : Int32 → gX → Prop) : Prop := Ct l (S0 ad) yX7_isInStack cX7_isInStack 2 (some .boolean) 1 22 as X 0 0 (pI (S0 ad) post)
abbrev K_X7_hasStack (l : Launch) (ad : Nat → Nat) (as : List Value) (X : gX) (post : Int32 → gX → Prop) : Prop := Ct l (S0 ad) yX7_hasStack cX7_hasStack 1 (some .boolean) 0 0 as X 0 0 (pI (S0 ad) post)
abbrev K_X7_thickness (l : Launch) (ad : Nat → Nat) (as : List Value) (X : gX) (post : Int32 → gX → Prop) : Prop := Ct l (S0 ad) yX7_thickness cX7_thickness 4 (some .int) 2 42 as X 0 0 (pI (S0 ad) post)
abbrev K_X7_carbon (l : Launch) (ad : Nat → Nat) (as : List Value) (X : gX) (post : Int32 → gX → Prop) : Prop := Ct l (S0 ad) yX7_carbon cX7_carbon 4 (some .int) 2 43 as X 0 0 (pI (S0 ad) post)
abbrev K_X7_spot (l : Launch) (ad : Nat → Nat) (as : List Value) (X : gX) (post : Int32 → gX → Prop) : Prop := Ct l (S0 ad) yX7_spot cX7_spot 2 (some .int) 0 0 as X 0 0 (pI (S0 ad) post)
abbrev K_X7_many (l : Launch) (ad : Nat → Nat) (as : List Value) (X : gX) (post : Int32 → gX → Prop) : Prop := Ct l (S0 ad) yX7_many cX7_many 3 (some .int) 1 21 as X 0 0 (pI (S0 ad) post)
abbrev K_X7_markAt (l : Launch) (ad : Nat → Nat) (as : List Value) (X : gX) (post : Int32 → gX → Prop) : Prop := Ct l (S0 ad) yX7_markAt cX7_markAt 4 (some .int) 1 21 as X 0 0 (pI (S0 ad) post)
abbrev K_X7_valueOf (l : Launch) (ad : Nat → Nat) (as : List Value) (X : gX) (post : Int32 → gX → Prop) : Prop := Ct l (S0 ad) yX7_valueOf cX7_valueOf 1 (some .int) 0 0 as X 0 0 (pI (S0 ad) post)
abbrev K_X7_strengthOf (l : Launch) (ad : Nat → Nat) (as : List Value) (X : gX) (post : Int32 → gX → Prop) : Prop := Ct l (S0 ad) yX7_strengthOf cX7_strengthOf 1 (some .int) 0 0 as X 0 0 (pI (S0 ad) post)
abbrev K_X7_isStruck (l : Launch) (ad : Nat → Nat) (as : List Value) (X : gX) (post : Int32 → gX → Prop) : Prop := Ct l (S0 ad) yX7_isStruck cX7_isStruck 1 (some .boolean) 0 0 as X 0 0 (pI (S0 ad) post)
abbrev K_X7_addMark (l : Launch) (ad : Nat → Nat) (as : List Value) (X : gX) (post : gX → Prop) : Prop := Ct l (S0 ad) yX7_addMark cX7_addMark 5 none 2 43 as X 0 0 (pV (S0 ad) post)
abbrev K_X7_strikeAt (l : Launch) (ad : Nat → Nat) (as : List Value) (X : gX) (post : Int32 → gX → Prop) : Prop := Ct l (S0 ad) yX7_strikeAt cX7_strikeAt 7 (some .int) 2 44 as X 0 0 (pI (S0 ad) post)
abbrev K_X7_layPress (l : Launch) (ad : Nat → Nat) (as : List Value) (X : gX) (post : Int32 → gX → Prop) : Prop := Ct l (S0 ad) yX7_layPress cX7_layPress 5 (some .int) 0 0 as X 0 0 (pI (S0 ad) post)
abbrev K_X7_usePress (l : Launch) (ad : Nat → Nat) (as : List Value) (X : gX) (post : gX → Prop) : Prop := Ct l (S0 ad) yX7_usePress cX7_usePress 3 none 0 0 as X 0 0 (pV (S0 ad) post)
abbrev K_X7_barOf (l : Launch) (ad : Nat → Nat) (as : List Value) (X : gX) (post : Int32 → gX → Prop) : Prop := Ct l (S0 ad) yX7_barOf cX7_barOf 7 (some .int) 2 43 as X 0 0 (pI (S0 ad) post)
abbrev K_X7_writeNow (l : Launch) (ad : Nat → Nat) (as : List Value) (X : gX) (post : Int32 → gX → Prop) : Prop := Ct l (S0 ad) yX7_writeNow cX7_writeNow 6 (some .int) 3 67 as X 0 0 (pI (S0 ad) post)
abbrev K_X7_write (l : Launch) (ad : Nat → Nat) (as : List Value) (X : gX) (post : Int32 → gX → Prop) : Prop := Ct l (S0 ad) yX7_write cX7_write 5 (some .int) 4 92 as X 0 0 (pI (S0 ad) post)
abbrev K_X7_strikeNow (l : Launch) (ad : Nat → Nat) (as : List Value) (X : gX) (post : Int32 → gX → Prop) : Prop := Ct l (S0 ad) yX7_strikeNow cX7_strikeNow 6 (some .int) 3 70 as X 0 0 (pI (S0 ad) post)
abbrev K_X7_strike (l : Launch) (ad : Nat → Nat) (as : List Value) (X : gX) (post : Int32 → gX → Prop) : Prop := Ct l (S0 ad) yX7_strike cX7_strike 3 (some .int) 4 95 as X 0 0 (pI (S0 ad) post)
abbrev K_X7_paint (l : Launch) (ad : Nat → Nat) (as : List Value) (X : gX) (post : Int32 → gX → Prop) : Prop := Ct l (S0 ad) yX7_paint cX7_paint 3 (some .int) 3 70 as X 0 0 (pI (S0 ad) post)
abbrev K_X7_amend (l : Launch) (ad : Nat → Nat) (as : List Value) (X : gX) (post : Int32 → gX → Prop) : Prop := Ct l (S0 ad) yX7_amend cX7_amend 5 (some .int) 3 67 as X 0 0 (pI (S0 ad) post)
abbrev K_X7_tear (l : Launch) (ad : Nat → Nat) (as : List Value) (X : gX) (post : Int32 → gX → Prop) : Prop := Ct l (S0 ad) yX7_tear cX7_tear 2 (some .int) 1 22 as X 0 0 (pI (S0 ad) post)
abbrev K_X7_isReadable (l : Launch) (ad : Nat → Nat) (as : List Value) (X : gX) (post : Int32 → gX → Prop) : Prop := Ct l (S0 ad) yX7_isReadable cX7_isReadable 2 (some .boolean) 1 20 as X 0 0 (pI (S0 ad) post)
abbrev K_X7_lastAt (l : Launch) (ad : Nat → Nat) (as : List Value) (X : gX) (post : Int32 → gX → Prop) : Prop := Ct l (S0 ad) yX7_lastAt cX7_lastAt 5 (some .int) 2 44 as X 0 0 (pI (S0 ad) post)
abbrev K_X7_stateOf (l : Launch) (ad : Nat → Nat) (as : List Value) (X : gX) (post : Int32 → gX → Prop) : Prop := Ct l (S0 ad) yX7_stateOf cX7_stateOf 8 (some .int) 3 68 as X 0 0 (pI (S0 ad) post)
abbrev K_X7_lastOf (l : Launch) (ad : Nat → Nat) (as : List Value) (X : gX) (post : Int32 → gX → Prop) : Prop := Ct l (S0 ad) yX7_lastOf cX7_lastOf 6 (some .int) 3 68 as X 0 0 (pI (S0 ad) post)
abbrev K_X7_fieldsOf (l : Launch) (ad : Nat → Nat) (as : List Value) (X : gX) (post : Int32 → gX → Prop) : Prop := Ct l (S0 ad) yX7_fieldsOf cX7_fieldsOf 5 (some .int) 4 95 as X 0 0 (pI (S0 ad) post)
abbrev K_X7_marksOf (l : Launch) (ad : Nat → Nat) (as : List Value) (X : gX) (post : Int32 → gX → Prop) : Prop := Ct l (S0 ad) yX7_marksOf cX7_marksOf 6 (some .int) 2 44 as X 0 0 (pI (S0 ad) post)
abbrev K_X7_ofSheet (l : Launch) (ad : Nat → Nat) (as : List Value) (X : gX) (post : Int32 → gX → Prop) : Prop := Ct l (S0 ad) yX7_ofSheet cX7_ofSheet 3 (some .int) 5 119 as X 0 0 (pI (S0 ad) post)
abbrev K_X7_reading (l : Launch) (ad : Nat → Nat) (as : List Value) (X : gX) (post : Int32 → gX → Prop) : Prop := Ct l (S0 ad) yX7_reading cX7_reading 6 (some .int) 4 95 as X 0 0 (pI (S0 ad) post)
abbrev K_X7_ofMark (l : Launch) (ad : Nat → Nat) (as : List Value) (X : gX) (post : Int32 → gX → Prop) : Prop := Ct l (S0 ad) yX7_ofMark cX7_ofMark 6 (some .int) 2 44 as X 0 0 (pI (S0 ad) post)
abbrev K_X7_votesFor (l : Launch) (ad : Nat → Nat) (as : List Value) (X : gX) (post : Int32 → gX → Prop) : Prop := Ct l (S0 ad) yX7_votesFor cX7_votesFor 5 (some .int) 4 95 as X 0 0 (pI (S0 ad) post)
abbrev K_X7_layTogether (l : Launch) (ad : Nat → Nat) (as : List Value) (X : gX) (post : gX → Prop) : Prop := Ct l (S0 ad) yX7_layTogether cX7_layTogether 7 none 5 119 as X 0 0 (pV (S0 ad) post)
abbrev K_X7_together (l : Launch) (ad : Nat → Nat) (as : List Value) (X : gX) (post : Int32 → gX → Prop) : Prop := Ct l (S0 ad) yX7_together cX7_together 3 (some .int) 6 145 as X 0 0 (pI (S0 ad) post)
abbrev K_X7_fieldsWith (l : Launch) (ad : Nat → Nat) (as : List Value) (X : gX) (post : Int32 → gX → Prop) : Prop := Ct l (S0 ad) yX7_fieldsWith cX7_fieldsWith 4 (some .int) 6 145 as X 0 0 (pI (S0 ad) post)
abbrev K_X7_stack (l : Launch) (ad : Nat → Nat) (as : List Value) (X : gX) (post : Int32 → gX → Prop) : Prop := Ct l (S0 ad) yX7_stack cX7_stack 3 (some .int) 2 43 as X 0 0 (pI (S0 ad) post)
abbrev K_X7_count (l : Launch) (ad : Nat → Nat) (as : List Value) (X : gX) (post : Int32 → gX → Prop) : Prop := Ct l (S0 ad) yX7_count cX7_count 4 (some .int) 7 168 as X 0 0 (pI (S0 ad) post)
abbrev K_X7_differ (l : Launch) (ad : Nat → Nat) (as : List Value) (X : gX) (post : Int32 → gX → Prop) : Prop := Ct l (S0 ad) yX7_differ cX7_differ 7 (some .int) 4 95 as X 0 0 (pI (S0 ad) post)
abbrev K_X7_enoughFor (l : Launch) (ad : Nat → Nat) (as : List Value) (X : gX) (post : Int32 → gX → Prop) : Prop := Ct l (S0 ad) yX7_enoughFor cX7_enoughFor 3 (some .int) 2 42 as X 0 0 (pI (S0 ad) post)
abbrev K_X7_keep (l : Launch) (ad : Nat → Nat) (as : List Value) (X : gX) (post : gX → Prop) : Prop := Ct l (S0 ad) yX7_keep cX7_keep 2 none 0 0 as X 0 0 (pV (S0 ad) post)
abbrev K_X7_comeBack (l : Launch) (ad : Nat → Nat) (as : List Value) (X : gX) (post : gX → Prop) : Prop := Ct l (S0 ad) yX7_comeBack cX7_comeBack 2 none 0 0 as X 0 0 (pV (S0 ad) post)
abbrev K_X7_isEmptyInStack (l : Launch) (ad : Nat → Nat) (as : List Value) (X : gX) (post : Int32 → gX → Prop) : Prop := Ct l (S0 ad) yX7_isEmptyInStack cX7_isEmptyInStack 4 (some .boolean) 3 68 as X 0 0 (pI (S0 ad) post)
abbrev K_X7_strikeFor (l : Launch) (ad : Nat → Nat) (as : List Value) (X : gX) (post : Int32 → gX → Prop) : Prop := Ct l (S0 ad) yX7_strikeFor cX7_strikeFor 4 (some .int) 4 95 as X 0 0 (pI (S0 ad) post)
abbrev K_X7_lasts (l : Launch) (ad : Nat → Nat) (as : List Value) (X : gX) (post : Int32 → gX → Prop) : Prop := Ct l (S0 ad) yX7_lasts cX7_lasts 5 (some .int) 1 22 as X 0 0 (pI (S0 ad) post)
abbrev K_X7_ifWritten (l : Launch) (ad : Nat → Nat) (as : List Value) (X : gX) (post : Int32 → gX → Prop) : Prop := Ct l (S0 ad) yX7_ifWritten cX7_ifWritten 5 (some .int) 6 145 as X 0 0 (pI (S0 ad) post)
abbrev K_X7_sign (l : Launch) (ad : Nat → Nat) (as : List Value) (X : gX) (post : Int32 → gX → Prop) : Prop := Ct l (S0 ad) yX7_sign cX7_sign 1 (some .int) 0 0 as X 0 0 (pI (S0 ad) post)
abbrev K_X7_one (l : Launch) (ad : Nat → Nat) (as : List Value) (X : gX) (post : Int32 → gX → Prop) : Prop := Ct l (S0 ad) yX7_one cX7_one 4 (some .int) 1 22 as X 0 0 (pI (S0 ad) post)
abbrev K_X7_between (l : Launch) (ad : Nat → Nat) (as : List Value) (X : gX) (post : gX → Prop) : Prop := Ct l (S0 ad) yX7_between cX7_between 2 none 1 20 as X 0 0 (pV (S0 ad) post)
abbrev K_X7_number (l : Launch) (ad : Nat → Nat) (as : List Value) (X : gX) (post : Int32 → gX → Prop) : Prop := Ct l (S0 ad) yX7_number cX7_number 2 (some .int) 2 45 as X 0 0 (pI (S0 ad) post)
abbrev K_X7_readOne (l : Launch) (ad : Nat → Nat) (as : List Value) (X : gX) (post : gX → Prop) : Prop := Ct l (S0 ad) yX7_readOne cX7_readOne 3 none 3 66 as X 0 0 (pV (S0 ad) post)
abbrev K_X7_faultOf (l : Launch) (ad : Nat → Nat) (as : List Value) (X : gX) (post : Int32 → gX → Prop) : Prop := Ct l (S0 ad) yX7_faultOf cX7_faultOf 1 (some .int) 4 88 as X 0 0 (pI (S0 ad) post)
abbrev K_X7_put (l : Launch) (ad : Nat → Nat) (as : List Value) (X : gX) (post : Int32 → gX → Prop) : Prop := Ct l (S0 ad) yX7_put cX7_put 7 (some .int) 1 22 as X 0 0 (pI (S0 ad) post)
abbrev K_X7_wipe (l : Launch) (ad : Nat → Nat) (as : List Value) (X : gX) (post : Int32 → gX → Prop) : Prop := Ct l (S0 ad) yX7_wipe cX7_wipe 2 (some .int) 0 0 as X 0 0 (pI (S0 ad) post)
abbrev K_X7_fault (l : Launch) (ad : Nat → Nat) (as : List Value) (X : gX) (post : Int32 → gX → Prop) : Prop := Ct l (S0 ad) yX7_fault cX7_fault 1 (some .int) 5 108 as X 0 0 (pI (S0 ad) post)
abbrev K_X7_carry (l : Launch) (ad : Nat → Nat) (as : List Value) (X : gX) (post : Int32 → gX → Prop) : Prop := Ct l (S0 ad) yX7_carry cX7_carry 2 (some .int) 5 117 as X 0 0 (pI (S0 ad) post)
abbrev K_X7_carryOut (l : Launch) (ad : Nat → Nat) (as : List Value) (X : gX) (post : Int32 → gX → Prop) : Prop := Ct l (S0 ad) yX7_carryOut cX7_carryOut 2 (some .int) 6 138 as X 0 0 (pI (S0 ad) post)
abbrev K_X7_undo (l : Launch) (ad : Nat → Nat) (as : List Value) (X : gX) (post : Int32 → gX → Prop) : Prop := Ct l (S0 ad) yX7_undo cX7_undo 2 (some .int) 0 0 as X 0 0 (pI (S0 ad) post)
abbrev K_X7_save (l : Launch) (ad : Nat → Nat) (as : List Value) (X : gX) (post : Int32 → gX → Prop) : Prop := Ct l (S0 ad) yX7_save cX7_save 3 (some .int) 3 65 as X 0 0 (pI (S0 ad) post)
abbrev K_X7_restore (l : Launch) (ad : Nat → Nat) (as : List Value) (X : gX) (post : Int32 → gX → Prop) : Prop := Ct l (S0 ad) yX7_restore cX7_restore 3 (some .int) 3 65 as X 0 0 (pI (S0 ad) post)
