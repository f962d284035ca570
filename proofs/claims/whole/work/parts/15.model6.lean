def fN (X X' : gX) : Prop := ∀ i, i ≠ 202 → i ≠ 208 → X' i = X i
theorem fN.tr {X Y W : gX} (h : fN X Y) (h2 : fN Y W) : fN X W := fun i a b => (h2 i a b).trans (h i a b)
theorem fN.c {X Y : gX} (h : ∀ i, i ≠ 208 → Y i = X i) : fN X Y := fun i _ b => h i b
theorem fN.n {X Y : gX} (h : ∀ i, i ≠ 202 → Y i = X i) : fN X Y := fun i a _ => h i a
theorem fN.w {X Y : gX} (h : fN X Y) : fW X Y := ⟨fun i _ b _ d => h i b d, fun j _ => by rw [h 201 (by decide) (by decide)]⟩
theorem anB_f {P : Nat → Bool} {k : Nat} (h : P k = false) : anB P (k + 1) = anB P k := by
  show (anB P k || P k) = _
  rw [h, Bool.or_false]
theorem anB_t {P : Nat → Bool} {k : Nat} (h : P k = true) : anB P (k + 1) = true := by
  show (anB P k || P k) = _
  rw [h, Bool.or_true]
theorem anB_n {P : Nat → Bool} {k : Nat} (h : (!anB P k) = false) : (!anB P (k + 1)) = false := by
  have h2 : anB P k = true := by
    cases hz : anB P k with
    | true => rfl
    | false => rw [hz] at h; cases h
  show (!(anB P k || P k)) = false
  rw [h2]
  rfl
def full (g : Nat → Nat) (f p : Nat) : Bool := anB (fun t => hit g p t && decide (8 ≤ cnt g t f)) 5
theorem full_seg {g : Nat → Nat} {f p : Nat} (hI : Inv g) : anB (fun k => decide (8 ≤ cnt g (g 2 + k) f)) (reach g p) = full g f p := by
  have hr : ∀ t, t < 5 → (0 < arv g p t ↔ g 2 ≤ t ∧ t < g 2 + reach g p) := fun t ht => reach_seg ht
  have hr5 : g 2 + reach g p ≤ 5 := by
    refine Nat.not_lt.mp fun z => ?_
    have h0 : reach g p ≤ 5 := cnB_le _ _
    have hseg : reach g p ≤ 5 - g 2 := by
      have : ∀ m, cnB (hit g p) m ≤ m - g 2 := by
        intro m
        induction m with
        | zero => exact Nat.zero_le _
        | succ m ih =>
          unfold cnB
          split
          · rename_i hh
            simp only [hit, decide_eq_true_eq] at hh
            have : g 2 ≤ m := Nat.not_lt.mp fun w => by rw [arv_out (by omega)] at hh; omega
            omega
          · omega
      exact this 5
    have := hI.1.2.2
    omega
  rw [Bool.eq_iff_iff]
  unfold full
  rw [anB_iff, anB_iff]
  constructor
  · rintro ⟨k, h1, h2⟩
    refine ⟨g 2 + k, by omega, ?_⟩
    simp only [hit, Bool.and_eq_true, decide_eq_true_eq] at h2 ⊢
    exact ⟨(hr _ (by omega)).mpr ⟨by omega, by omega⟩, h2⟩
  · rintro ⟨t, h1, h2⟩
    simp only [hit, Bool.and_eq_true, decide_eq_true_eq] at h2
    have := (hr t h1).mp h2.1
    refine ⟨t - g 2, by omega, ?_⟩
    rw [show g 2 + (t - g 2) = t by omega]
    exact decide_eq_true h2.2
theorem reach_5 {g : Nat → Nat} {p : Nat} (hI : Inv g) : g 2 + reach g p ≤ 5 := by
  have hseg : reach g p ≤ 5 - g 2 := by
    have : ∀ m, cnB (hit g p) m ≤ m - g 2 := by
      intro m
      induction m with
      | zero => exact Nat.zero_le _
      | succ m ih =>
        unfold cnB
        split
        · rename_i hh
          simp only [hit, decide_eq_true_eq] at hh
          have : g 2 ≤ m := Nat.not_lt.mp fun w => by rw [arv_out (by omega)] at hh; omega
          omega
        · omega
    exact this 5
  have := hI.1.2.2
  omega
theorem reach_pos {g : Nat → Nat} {p : Nat} (hI : Inv g) (hp : 1 ≤ p) (h : g 2 < g 3) : 1 ≤ reach g p := by
  have h1 := (reach_seg (g := g) (p := p) (t := g 2) (by have := hI.1.2.2; omega)).mp (by rw [arv_in ⟨Nat.le_refl _, h⟩, prs_top g p _ (Nat.le_refl _)]; omega)
  omega
/-- the carbons behind a press -/
def wear (g : Nat → Nat) (p : Nat) : Nat → Nat := fun j => if (9 ≤ j ∧ j < 14) ∧ (0 < arv g p (j - 9) ∧ 0 < arv g p (j - 8)) then g j - 1 else g j
theorem wear_uz {g : Nat → Nat} {p : Nat} (hI : Inv g) (hp : 1 ≤ p) (h : g 2 < g 3) (j : Nat) : uz g (reach g p - 1) j = wear g p j := by
  have h5 := reach_5 (p := p) hI
  have h1 := reach_pos hI hp h
  unfold uz wear
  by_cases hj : 9 ≤ j ∧ j < 14
  · have e1 := reach_seg (g := g) (p := p) (t := j - 9) (by omega)
    by_cases h13 : j = 13
    · have e0 : arv g p (13 - 8) = 0 := arv_out (by have := hI.1.2.2; omega)
      rw [if_neg (by omega), if_neg (fun w => by rw [h13, e0] at w; omega)]
    · have e2 := reach_seg (g := g) (p := p) (t := j - 8) (by omega)
      by_cases hy : 9 + g 2 ≤ j ∧ j < 9 + g 2 + (reach g p - 1)
      · rw [if_pos hy, if_pos ⟨hj, e1.mpr (by omega), e2.mpr (by omega)⟩]
      · rw [if_neg hy, if_neg]
        rintro ⟨-, w1, w2⟩
        have := e1.mp w1
        have := e2.mp w2
        omega
  · rw [if_neg (fun w => hj ⟨by omega, by omega⟩), if_neg (fun w => hj w.1)]
theorem wear_pos {g : Nat → Nat} {p k : Nat} (hk : k < reach g p - 1) (h5 : g 2 + reach g p ≤ 5) : 1 ≤ g (9 + g 2 + k) := by
  have e := (reach_seg (g := g) (p := p) (t := g 2 + k + 1) (by omega)).mpr (by omega)
  have := (arv_seg e (by omega)).2
  rw [show 9 + g 2 + k = 9 + (g 2 + k) by omega]
  exact this
/-- a value laid on the sheets, with the strengths A -/
def lay (f v : Nat) (A : Nat → Nat) (g : Nat → Nat) : Nat → Nat := fun j =>
  if 20 ≤ j ∧ j < 70 then (if (j - 20) % 10 = f ∧ 0 < A ((j - 20) / 10) then g j + 1 else g j)
  else if 70 ≤ j ∧ j < 470 then (if (j - 70) / 8 % 10 = f ∧ 0 < A ((j - 70) / 80) ∧ (j - 70) % 8 = cnt g ((j - 70) / 80) f then 20 * v + 2 * A ((j - 70) / 80) else g j)
  else g j
def upt (A : Nat → Nat) (n : Nat) : Nat → Nat := fun t => if t < n then A t else 0
theorem lay_small {f v : Nat} {A : Nat → Nat} {g : Nat → Nat} {j : Nat} (h : j < 20) : lay f v A g j = g j := by
  unfold lay
  rw [if_neg (by omega), if_neg (by omega)]
theorem lay_0 {f v n : Nat} {A : Nat → Nat} {g : Nat → Nat} (h : ∀ t, t < n → A t = 0) (j : Nat) : lay f v (upt A n) g j = g j := by
  have h0 : ∀ t, upt A n t = 0 := fun t => by
    unfold upt
    split
    · exact h t ‹_›
    · rfl
  unfold lay
  simp only [h0, Nat.lt_irrefl, false_and, and_false, if_false, ite_self]
theorem lay_cnt {f v n s : Nat} {A : Nat → Nat} {g : Nat → Nat} (hf : f < 10) (hs : s < 5) (h : n ≤ s) : cnt (lay f v (upt A n) g) s f = cnt g s f := by
  unfold cnt lay upt
  have e1 : (20 + (10 * s + f) - 20) / 10 = s := by omega
  simp only [e1]
  rw [if_pos (by omega), if_neg (fun w => by have := w.2; rw [if_neg (by omega)] at this; omega)]
/-- one more sheet -/
theorem lay_step {f v n : Nat} {A : Nat → Nat} {g : Nat → Nat} (hf : f < 10) (hn : n < 5) (hA : 0 < A n) (hc : cnt g n f < 8) {j : Nat} (hj : j < 470) : addm (lay f v (upt A n) g) n f v (A n) j = lay f v (upt A (n + 1)) g j := by
  unfold addm
  rw [lay_cnt hf hn (Nat.le_refl _)]
  unfold updN
  by_cases h1 : j = 20 + (10 * n + f)
  · rw [if_pos h1, h1]
    unfold lay
    have e1 : (20 + (10 * n + f) - 20) / 10 = n := by omega
    have e2 : (20 + (10 * n + f) - 20) % 10 = f := by omega
    simp only [e1, e2]
    rw [if_pos (by omega), if_pos ⟨trivial, by unfold upt; rw [if_pos (by omega)]; exact hA⟩]
    rfl
  · rw [if_neg h1]
    by_cases h2 : j = 70 + 8 * (10 * n + f) + cnt g n f
    · rw [if_pos h2]
      have e1 : (j - 70) / 80 = n := by omega
      have e2 : (j - 70) / 8 % 10 = f := by omega
      have e3 : (j - 70) % 8 = cnt g n f := by omega
      unfold lay
      simp only [e1, e2, e3]
      rw [if_neg (by omega), if_pos (by omega), if_pos ⟨trivial, by unfold upt; rw [if_pos (by omega)]; exact hA, trivial⟩]
      unfold upt
      rw [if_pos (by omega)]
    · rw [if_neg h2]
      unfold lay
      by_cases h3 : 20 ≤ j ∧ j < 70
      · rw [if_pos h3, if_pos h3]
        by_cases hq : (j - 20) / 10 = n
        · rw [if_neg (fun w => by omega), if_neg (fun w => by omega)]
        · have : upt A n ((j - 20) / 10) = upt A (n + 1) ((j - 20) / 10) := by
            unfold upt
            by_cases hy : (j - 20) / 10 < n
            · rw [if_pos hy, if_pos (by omega)]
            · rw [if_neg hy, if_neg (by omega)]
          rw [this]
      · rw [if_neg h3, if_neg h3]
        by_cases h4 : 70 ≤ j ∧ j < 470
        · rw [if_pos h4, if_pos h4]
          by_cases hq : (j - 70) / 80 = n
          · rw [hq, if_neg (fun w => by omega), if_neg (fun w => by omega)]
          · have : upt A n ((j - 70) / 80) = upt A (n + 1) ((j - 70) / 80) := by
              unfold upt
              by_cases hy : (j - 70) / 80 < n
              · rw [if_pos hy, if_pos (by omega)]
              · rw [if_neg hy, if_neg (by omega)]
            rw [this]
        · rw [if_neg h4, if_neg h4]
theorem lay_congr {f v : Nat} {A B : Nat → Nat} {g : Nat → Nat} {j : Nat} (hj : j < 470) (h : ∀ t, t < 5 → A t = B t) : lay f v A g j = lay f v B g j := by
  unfold lay
  by_cases h3 : 20 ≤ j ∧ j < 70
  · rw [if_pos h3, if_pos h3, h ((j - 20) / 10) (by omega)]
  · rw [if_neg h3, if_neg h3]
    by_cases h4 : 70 ≤ j ∧ j < 470
    · rw [if_pos h4, if_pos h4, h ((j - 70) / 80) (by omega)]
    · rw [if_neg h4, if_neg h4]
/-- the state behind a writing -/
def wrt (g : Nat → Nat) (f v p : Nat) : Nat → Nat := lay f v (arv g p) (wear g p)
/-- a stroke on the sheets -/
def sco (f : Nat) (A : Nat → Nat) (g : Nat → Nat) : Nat → Nat := fun j =>
  if 70 ≤ j ∧ j < 470 then (if (j - 70) / 8 % 10 = f ∧ 0 < A ((j - 70) / 80) ∧ (j - 70) % 8 < cnt g ((j - 70) / 80) f ∧ (g j % 2 = 0 ∧ g j / 2 % 10 ≤ A ((j - 70) / 80)) then g j + 1 else g j)
  else g j
theorem sco_small {f : Nat} {A : Nat → Nat} {g : Nat → Nat} {j : Nat} (h : j < 70) : sco f A g j = g j := by
  unfold sco
  rw [if_neg (by omega)]
theorem sco_cnt {f : Nat} {A : Nat → Nat} {g : Nat → Nat} {s f' : Nat} (hs : s < 5) (hf : f' < 10) : cnt (sco f A g) s f' = cnt g s f' := sco_small (by omega)
theorem sco_0 {f n : Nat} {A : Nat → Nat} {g : Nat → Nat} (h : ∀ t, t < n → A t = 0) (j : Nat) : sco f (upt A n) g j = g j := by
  have h0 : ∀ t, upt A n t = 0 := fun t => by
    unfold upt
    split
    · exact h t ‹_›
    · rfl
  unfold sco
  simp only [h0, Nat.lt_irrefl, false_and, and_false, if_false, ite_self]
theorem sco_mk {f n s : Nat} {A : Nat → Nat} {g : Nat → Nat} (hf : f < 10) (hs : s < 5) (h : n ≤ s) {k : Nat} (hk : k < 8) : mk (sco f (upt A n) g) s f k = mk g s f k := by
  unfold mk sco upt
  have e1 : (70 + 8 * (10 * s + f) + k - 70) / 80 = s := by omega
  simp only [e1]
  rw [if_pos (by omega), if_neg (fun w => by have := w.2.1; rw [if_neg (by omega)] at this; omega)]
theorem sco_step {f n : Nat} {A : Nat → Nat} {g : Nat → Nat} (hf : f < 10) (hn : n < 5) (hA : 0 < A n) (hc : cnt g n f ≤ 8) {j : Nat} (hj : j < 470) : stk (sco f (upt A n) g) n f (A n) j = sco f (upt A (n + 1)) g j := by
  unfold stk
  rw [sco_cnt hn hf]
  unfold stz
  by_cases h4 : 70 ≤ j ∧ j < 470
  · by_cases hq : (j - 70) / 80 = n
    · by_cases hf2 : (j - 70) / 8 % 10 = f
      · have e0 : sco f (upt A n) g j = g j := by
          unfold sco
          rw [if_pos h4, hq, if_neg (fun w => by have := w.2.1; unfold upt at this; rw [if_neg (by omega)] at this; omega)]
        rw [e0]
        unfold sco
        rw [if_pos h4, hq]
        have e1 : upt A (n + 1) n = A n := by unfold upt; rw [if_pos (by omega)]
        rw [e1]
        by_cases hz : (j - 70) % 8 < cnt g n f ∧ (g j % 2 = 0 ∧ g j / 2 % 10 ≤ A n)
        · rw [if_pos ⟨by omega, by omega, hz.2⟩, if_pos ⟨hf2, hA, hz⟩]
        · rw [if_neg (fun w => hz ⟨by omega, w.2.2⟩), if_neg (fun w => hz w.2.2)]
      · rw [if_neg (fun w => by omega)]
        unfold sco
        rw [if_pos h4, if_pos h4, if_neg (fun w => hf2 w.1), if_neg (fun w => hf2 w.1)]
    · rw [if_neg (fun w => by omega)]
      have : upt A n ((j - 70) / 80) = upt A (n + 1) ((j - 70) / 80) := by
        unfold upt
        by_cases hy : (j - 70) / 80 < n
        · rw [if_pos hy, if_pos (by omega)]
        · rw [if_neg hy, if_neg (by omega)]
      unfold sco
      rw [if_pos h4, if_pos h4, this]
  · rw [if_neg (fun w => by omega)]
    unfold sco
    rw [if_neg h4, if_neg h4]
theorem sco_congr {f : Nat} {A B : Nat → Nat} {g : Nat → Nat} {j : Nat} (hj : j < 470) (h : ∀ t, t < 5 → A t = B t) : sco f A g j = sco f B g j := by
  unfold sco
  by_cases h4 : 70 ≤ j ∧ j < 470
  · rw [if_pos h4, if_pos h4, h ((j - 70) / 80) (by omega)]
  · rw [if_neg h4, if_neg h4]
def str (g : Nat → Nat) (f p : Nat) : Nat → Nat := sco f (arv g p) (wear g p)
/-- how many marks a stroke strikes -/
def strN (g : Nat → Nat) (f p : Nat) : Nat := smN (fun t => if 0 < arv g p t then cnB (stt g t f (arv g p t)) (cnt g t f) else 0) 5
theorem upt_all {g : Nat → Nat} {p : Nat} : ∀ t, t < 5 → upt (arv g p) (g 2 + reach g p) t = arv g p t := fun t ht => by
  unfold upt
  split
  · rfl
  · rename_i h
    have := (reach_seg (g := g) (p := p) ht)
    omega
theorem below_0 {g : Nat → Nat} {p : Nat} : ∀ t, t < g 2 → arv g p t = 0 := fun t ht => arv_out (by omega)
theorem wear_hi {g : Nat → Nat} {p j : Nat} (h : j < 9 ∨ 14 ≤ j) : wear g p j = g j := by
  unfold wear
  rw [if_neg (by omega)]
theorem smN_seg {F : Nat → Nat} {a r : Nat} (h : a + r ≤ 5) (h0 : ∀ t, t < 5 → ¬ (a ≤ t ∧ t < a + r) → F t = 0) : smN F 5 = smN (fun k => F (a + k)) r := by
  have h1 : ∀ t, t ≤ a → smN F t = 0 := by
    intro t
    induction t with
    | zero => intro _; rfl
    | succ t ih => intro ht; unfold smN; rw [ih (by omega), h0 t (by omega) (by omega)]
  have h2 : ∀ k, k ≤ r → smN F (a + k) = smN (fun k => F (a + k)) k := by
    intro k
    induction k with
    | zero => intro _; rw [Nat.add_zero, h1 a (Nat.le_refl _)]; rfl
    | succ k ih => intro hk; rw [show a + (k + 1) = (a + k) + 1 by omega]; unfold smN; rw [ih (by omega)]
  have h3 : ∀ m, a + r + m ≤ 5 → smN F (a + r + m) = smN F (a + r) := by
    intro m
    induction m with
    | zero => intro _; rfl
    | succ m ih => intro hm; show smN F (a + r + m) + F (a + r + m) = smN F (a + r); rw [ih (by omega), h0 _ (by omega) (by omega)]; rfl
  have := h3 (5 - (a + r)) (by omega)
  rw [show a + r + (5 - (a + r)) = 5 by omega] at this
  rw [this]
  exact h2 r (Nat.le_refl _)
theorem wear_cnt {g : Nat → Nat} {p s f : Nat} (hs : s < 5) (hf : f < 10) : cnt (wear g p) s f = cnt g s f := wear_hi (by omega)
theorem wear_mk {g : Nat → Nat} {p s f k : Nat} : mk (wear g p) s f k = mk g s f k := wear_hi (by omega)
theorem not_full {g : Nat → Nat} {f p t : Nat} (h : full g f p = false) (ht : t < 5) (ha : 0 < arv g p t) : cnt (wear g p) t f < 8 := by
  have e : cnt (wear g p) t f = cnt g t f := wear_hi (by omega)
  rw [e]
  refine Nat.not_le.mp fun z => ?_
  have : full g f p = true := anB_iff.mpr ⟨t, ht, by simp only [hit, Bool.and_eq_true, decide_eq_true_eq]; exact ⟨ha, z⟩⟩
  rw [this] at h
  cases h
theorem wear_c {g : Nat → Nat} {f p s : Nat} (hI : Inv g) (hs : s < 5) (hf : f < 10) : cnt (wear g p) s f ≤ 8 := by
  rw [wear_cnt hs hf]
  exact hI.c hs hf
theorem wear_le (g : Nat → Nat) (p j : Nat) : wear g p j ≤ g j := by unfold wear; split <;> omega
theorem sco_inv {g : Nat → Nat} {f p : Nat} (hI : Inv g) (hf : f < 10) (hp : 1 ≤ p ∧ p ≤ 9) (k : Nat) : Inv (sco f (upt (arv g p) (g 2 + k)) (wear g p)) := by
  refine ⟨?_, ?_, ?_, ?_, ?_⟩
  · rw [sco_small (by decide), sco_small (by decide), sco_small (by decide), sco_small (by decide), wear_hi (by omega), wear_hi (by omega), wear_hi (by omega), wear_hi (by omega)]
    exact hI.1
  · intro t ht
    rw [sco_small (by omega), sco_small (by omega), sco_small (by omega), wear_hi (show 4 + t < 9 ∨ 14 ≤ 4 + t by omega), wear_hi (show 14 + t < 9 ∨ 14 ≤ 14 + t by omega)]
    have := wear_le g p (9 + t)
    have := hI.t ht
    exact ⟨this.1, by omega, this.2.2⟩
  · intro s f' hs hf'
    rw [sco_cnt hs hf', wear_cnt hs hf']
    exact hI.c hs hf'
  · intro s f' k' hs hf' hk'
    have h1 := hI.m hs hf' hk'
    have e := wear_mk (g := g) (p := p) (s := s) (f := f') (k := k')
    unfold mk at h1 e ⊢
    unfold sco
    split
    · split
      · rename_i hh
        have := hh.2.2.2.1
        omega
      · omega
    · omega
  · intro s f' k' hs hf' hk'
    rw [sco_cnt hs hf', wear_cnt hs hf'] at hk'
    have h1 := hI.p hs hf' hk'
    have e := wear_mk (g := g) (p := p) (s := s) (f := f') (k := k')
    unfold mk at h1 e ⊢
    unfold sco
    split
    · split
      · rename_i hh
        have := hh.2.2.2.1
        omega
      · omega
    · omega
theorem stt_eq {g : Nat → Nat} {f p k : Nat} (hf : f < 10) (hs : g 2 + k < 5) (h8 : cnt g (g 2 + k) f ≤ 8) {q : Nat} : cnB (stt (sco f (upt (arv g p) (g 2 + k)) (wear g p)) (g 2 + k) f q) (cnt (sco f (upt (arv g p) (g 2 + k)) (wear g p)) (g 2 + k) f) = cnB (stt g (g 2 + k) f q) (cnt g (g 2 + k) f) := by
  rw [sco_cnt hs hf, wear_cnt hs hf]
  refine cnB_congr (fun j hj => ?_)
  unfold stt
  rw [sco_mk hf hs (Nat.le_refl _) (by omega), wear_mk]
theorem strN_seg {g : Nat → Nat} {f p : Nat} (hI : Inv g) : strN g f p = smN (fun k => cnB (stt g (g 2 + k) f (arv g p (g 2 + k))) (cnt g (g 2 + k) f)) (reach g p) := by
  have h5 := reach_5 (p := p) hI
  unfold strN
  rw [smN_seg h5 (fun t ht h => by rw [if_neg]; intro w; exact h ((reach_seg ht).mp w))]
  refine smN_congr (fun k hk => ?_)
  rw [if_pos ((reach_seg (by omega)).mpr (by omega))]
def barI (g : Nat → Nat) (a v p : Int32) : Int32 := if inB a (nI 0) (nI 9) = true then (if inB v (nI 0) (nI 999) = true then (if inB p (nI 1) (nI 9) = true then (if g 2 < g 3 then (if full g (cl a) (cl p) = true then -4 else nI 0) else -5) else -2) else -2) else -1

set_option maxHeartbeats 4000000 in
set_option maxRecDepth 100000 in
theorem c_barOf {l : Launch} {ad : Nat → Nat} {X : gX} {a v p : Int32} {n : Nat} {h : Nat → Nat → Nat} {b : Bool} {g : Nat → Nat} (hm : MR X g n h b) (hI : Inv g) : K_X7_barOf l ad [.ref 201, .int (a), .int (v), .int (p)] X (fun r X' => r = barI g a v p ∧ ∀ i, i ≠ 208 → X' i = X i) := by
  refine Ct.of [.ref 201, .int (a), .int (v), .int (p), .null, .null, .null] 3 (by decide +kernel) rfl (Nat.le_of_ble_eq_true rfl) (fun F hl hC hRt _ => ?_)
  subst hl
  have b23 : g 2 ≤ g 3 ∧ g 3 ≤ 5 := hI.1.2.2
  refine g_iload_1 hC dX7_barOf_0 (pc' := 1) rfl ?_
  refine g_callS1R hC (c_isField) ml_X7_75 ⟨(Nat.le_of_ble_eq_true rfl), (Nat.le_of_ble_eq_true rfl)⟩ (Nat.le_of_ble_eq_true rfl) dX7_barOf_1 (pc' := 4) rfl ⟨Nat.zero_le _, Nat.zero_le _⟩ ?_
  refine g_ifZ_ne hC dX7_barOf_4 (pc' := 7) (tgt := 9) (by decide) rfl (fun h4 => ?_) (fun h4 => ?_)
  · obtain ⟨f, rfl, -, hf⟩ := inB_N (by decide) h4 (by decide)
    have cf : cl (nI f) = f := cl_nI (by omega)
    refine g_iload_2 hC dX7_barOf_9 (pc' := 10) rfl ?_
    refine g_iconst hC dX7_barOf_10 (pc' := 11) kc_iconst_0 rfl ?_
    refine g_sipush hC dX7_barOf_11 (pc' := 14) kc_sipush_999 rfl ?_
    refine g_callS3R hC (c_in) ml_X7_43 ⟨(Nat.le_of_ble_eq_true rfl), (Nat.le_of_ble_eq_true rfl)⟩ (Nat.le_of_ble_eq_true rfl) dX7_barOf_14 (pc' := 17) rfl ⟨Nat.zero_le _, Nat.zero_le _⟩ ?_
    refine g_ifZ_eq hC dX7_barOf_17 (pc' := 20) (tgt := 30) (by decide) rfl (fun h17 => ?_) (fun h17 => ?_)
    · refine g_bipush hC dX7_barOf_30 (pc' := 32) kc_bipush_m2 rfl ?_
      refine g_iretI hC hRt rfl dX7_barOf_32 ?_
      refine ⟨?_, fun _ _ => rfl⟩
      simp only [barI, cl_nI, h4, cf, h17, ↓reduceIte, Bool.false_eq_true]
    · obtain ⟨w, rfl, -, hw⟩ := inB_N (by decide) h17 (by decide)
      have cw : cl (nI w) = w := cl_nI (by omega)
      refine g_iload_3 hC dX7_barOf_20 (pc' := 21) rfl ?_
      refine g_iconst hC dX7_barOf_21 (pc' := 22) kc_iconst_1 rfl ?_
      refine g_bipush hC dX7_barOf_22 (pc' := 24) kc_bipush_9 rfl ?_
      refine g_callS3R hC (c_in) ml_X7_43 ⟨(Nat.le_of_ble_eq_true rfl), (Nat.le_of_ble_eq_true rfl)⟩ (Nat.le_of_ble_eq_true rfl) dX7_barOf_24 (pc' := 27) rfl ⟨Nat.zero_le _, Nat.zero_le _⟩ ?_
      refine g_ifZ_ne hC dX7_barOf_27 (pc' := 30) (tgt := 33) (by decide) rfl (fun h27 => ?_) (fun h27 => ?_)
      · obtain ⟨q, rfl, hq1, hq⟩ := inB_N (by decide) h27 (by decide)
        have cq : cl (nI q) = q := cl_nI (by omega)
        refine g_aload_0 hC dX7_barOf_33 (pc' := 34) rfl ?_
        refine g_callV0R hC (c_hasStack hm.1 hI) ml_X7_78 (sh_M ad) rfl ⟨(Nat.le_of_ble_eq_true rfl), (Nat.le_of_ble_eq_true rfl)⟩ (Nat.le_of_ble_eq_true rfl) dX7_barOf_34 (pc' := 37) rfl ⟨Nat.zero_le _, Nat.zero_le _⟩ ?_
        refine g_ifZ_ne hC dX7_barOf_37 (pc' := 40) (tgt := 43) (by decide) rfl (fun h37 => ?_) (fun h37 => ?_)
        · have h37b := of_decide_eq_true h37
          refine g_aload_0 hC dX7_barOf_43 (pc' := 44) rfl ?_
          refine g_iload_3 hC dX7_barOf_44 (pc' := 45) rfl ?_
          refine g_callV1I hC (c_layPress (p := q) ⟨hq1, hq⟩ hm.1 hI) ml_X7_82 (sh_M ad) rfl ⟨(Nat.le_of_ble_eq_true rfl), (Nat.le_of_ble_eq_true rfl)⟩ (Nat.le_of_ble_eq_true rfl) dX7_barOf_45 (pc' := 48) rfl ⟨Nat.zero_le _, Nat.zero_le _⟩ (fun v45 X45 q45 => ?_)
          obtain ⟨rfl, hX, -⟩ := q45
          have h5 := reach_5 (p := q) hI
          have hR2 := hm.1.of (hX 202 (by decide))
          refine g_istore_4 hC dX7_barOf_48 (pc' := 50) rfl (Nat.le_of_ble_eq_true rfl) rfl ?_
          refine g_iconst hC dX7_barOf_50 (pc' := 51) kc_iconst_1 rfl ?_
          refine g_istore_5 hC dX7_barOf_51 (pc' := 53) rfl (Nat.le_of_ble_eq_true rfl) rfl ?_
          refine g_iconst hC dX7_barOf_53 (pc' := 54) kc_iconst_0 rfl ?_
          refine g_istore_6 hC dX7_barOf_54 (pc' := 56) rfl (Nat.le_of_ble_eq_true rfl) rfl ?_
          have L56 : ∀ k, k ≤ reach g q → G F (S0 ad) (0, 0) X45 56 [.ref 201, .int (nI f), .int (nI w), .int (nI q), .int (nI (reach g q)), .int (zI (!anB (fun k => decide (8 ≤ cnt g (g 2 + k) f)) k)), .int (nI k)] [] := by
            refine up_ind _ (fun k hk56 ih56 => ?_)
            refine g_iload_6 hC dX7_barOf_56 (pc' := 58) rfl ?_
            refine g_iload_4 hC dX7_barOf_58 (pc' := 60) rfl ?_
            refine g_icmpN_ge hC dX7_barOf_60 (pc' := 63) (tgt := 100) (by decide) rfl (by omega) (by omega) (fun h60 => ?_) (fun h60 => ?_)
            · refine g_iload_5 hC dX7_barOf_100 (pc' := 102) rfl ?_
              refine g_ifZ_eq hC dX7_barOf_102 (pc' := 105) (tgt := 109) (by decide) rfl (fun h102 => ?_) (fun h102 => ?_)
              · simp only [Bool.not_eq_eq_eq_not, Bool.not_true, Bool.not_false] at h102
                refine g_bipush hC dX7_barOf_109 (pc' := 111) kc_bipush_m4 rfl ?_
                refine g_iretI hC hRt rfl dX7_barOf_111 ?_
                refine ⟨?_, hX⟩
                rw [show k = reach g q by omega, full_seg hI] at h102
                simp only [barI, cl_nI, h4, cf, h17, cw, h27, cq, h37, eq_true h37b, h102, ↓reduceIte, Bool.false_eq_true]
              · simp only [Bool.not_eq_eq_eq_not, Bool.not_true, Bool.not_false] at h102
                refine g_iconst hC dX7_barOf_105 (pc' := 106) kc_iconst_0 rfl ?_
                refine g_goto hC dX7_barOf_106 (tgt := 111) (by decide) ?_
                refine g_iretI hC hRt rfl dX7_barOf_111 ?_
                refine ⟨?_, hX⟩
                rw [show k = reach g q by omega, full_seg hI] at h102
                simp only [barI, cl_nI, h4, cf, h17, cw, h27, cq, h37, eq_true h37b, h102, ↓reduceIte, Bool.false_eq_true]
            · refine g_iload_5 hC dX7_barOf_63 (pc' := 65) rfl ?_
              refine g_ifZ_eq hC dX7_barOf_65 (pc' := 68) (tgt := 91) (by decide) rfl (fun h65 => ?_) (fun h65 => ?_)
              · refine g_iconst hC dX7_barOf_91 (pc' := 92) kc_iconst_0 rfl ?_
                refine g_istore_5 hC dX7_barOf_92 (pc' := 94) rfl (Nat.le_of_ble_eq_true rfl) rfl ?_
                refine g_iinc_6 hC dX7_barOf_94 (pc' := 97) rfl (Nat.le_of_ble_eq_true rfl) rfl (nI_inc _ _ kc_iinc_1) ?_
                refine g_goto hC dX7_barOf_97 (tgt := 56) (by decide) ?_
                exact g_weak (ih56 (by omega)) (gle_s (gle_s (gle_s (gle_s (gle_s (gle_i (by first | exact (nI1_z (by rw [anB_f (decide_eq_false (show ¬ 8 ≤ cnt g (g 2 + k) f by omega))]; exact h65)).symm | exact (nI0_z (anB_n h65)).symm | exact (nI0_z (by rw [anB_t (decide_eq_true (show 8 ≤ cnt g (g 2 + k) f by omega))]; rfl)).symm) (gle_i (by first | rfl | omega) gle_nil)))))))
              · refine g_aload_0 hC dX7_barOf_68 (pc' := 69) rfl ?_
                refine g_aload_0 hC dX7_barOf_69 (pc' := 70) rfl ?_
                refine g_getR hC fl_X7_7 (sh_M ad) rfl dX7_barOf_70 (pc' := 73) rfl ?_
                refine g_iconst hC dX7_barOf_73 (pc' := 74) kc_iconst_2 rfl ?_
                refine g_iald hC (sh_mnow ad) (Nat.le_of_ble_eq_true rfl) (by omega) (hR2.at (by decide) (by decide)) dX7_barOf_74 (pc' := 75) rfl ?_
                refine g_iload_6 hC dX7_barOf_75 (pc' := 77) rfl ?_
                refine g_iaddN hC dX7_barOf_77 (pc' := 78) rfl ?_
                refine g_iload_1 hC dX7_barOf_78 (pc' := 79) rfl ?_
                refine g_callV2R hC (c_many (s := g 2 + k) (f := f) (by omega) (by omega) hR2) ml_X7_61 (sh_M ad) rfl ⟨(Nat.le_of_ble_eq_true rfl), (Nat.le_of_ble_eq_true rfl)⟩ (Nat.le_of_ble_eq_true rfl) dX7_barOf_79 (pc' := 82) rfl ⟨Nat.zero_le _, Nat.zero_le _⟩ ?_
                have hb := hI.c (show g 2 + k < 5 by omega) (show f < 10 by omega)
                refine g_bipush hC dX7_barOf_82 (pc' := 84) kc_bipush_8 rfl ?_
                refine g_icmpN_ge hC dX7_barOf_84 (pc' := 87) (tgt := 91) (by decide) rfl (by omega) (by omega) (fun h84 => ?_) (fun h84 => ?_)
                · refine g_iconst hC dX7_barOf_91 (pc' := 92) kc_iconst_0 rfl ?_
                  refine g_istore_5 hC dX7_barOf_92 (pc' := 94) rfl (Nat.le_of_ble_eq_true rfl) rfl ?_
                  refine g_iinc_6 hC dX7_barOf_94 (pc' := 97) rfl (Nat.le_of_ble_eq_true rfl) rfl (nI_inc _ _ kc_iinc_1) ?_
                  refine g_goto hC dX7_barOf_97 (tgt := 56) (by decide) ?_
                  exact g_weak (ih56 (by omega)) (gle_s (gle_s (gle_s (gle_s (gle_s (gle_i (by first | exact (nI1_z (by rw [anB_f (decide_eq_false (show ¬ 8 ≤ cnt g (g 2 + k) f by omega))]; exact h65)).symm | exact (nI0_z (anB_n h65)).symm | exact (nI0_z (by rw [anB_t (decide_eq_true (show 8 ≤ cnt g (g 2 + k) f by omega))]; rfl)).symm) (gle_i (by first | rfl | omega) gle_nil)))))))
                · refine g_iconst hC dX7_barOf_87 (pc' := 88) kc_iconst_1 rfl ?_
                  refine g_goto hC dX7_barOf_88 (tgt := 92) (by decide) ?_
                  refine g_istore_5 hC dX7_barOf_92 (pc' := 94) rfl (Nat.le_of_ble_eq_true rfl) rfl ?_
                  refine g_iinc_6 hC dX7_barOf_94 (pc' := 97) rfl (Nat.le_of_ble_eq_true rfl) rfl (nI_inc _ _ kc_iinc_1) ?_
                  refine g_goto hC dX7_barOf_97 (tgt := 56) (by decide) ?_
                  exact g_weak (ih56 (by omega)) (gle_s (gle_s (gle_s (gle_s (gle_s (gle_i (by first | exact (nI1_z (by rw [anB_f (decide_eq_false (show ¬ 8 ≤ cnt g (g 2 + k) f by omega))]; exact h65)).symm | exact (nI0_z (anB_n h65)).symm | exact (nI0_z (by rw [anB_t (decide_eq_true (show 8 ≤ cnt g (g 2 + k) f by omega))]; rfl)).symm) (gle_i (by first | rfl | omega) gle_nil)))))))
          exact g_weak (L56 0 (by exact Nat.zero_le _)) (gle_s (gle_s (gle_s (gle_s (gle_s (gle_i (by rfl) (gle_s gle_nil)))))))
        · have h37b : ¬ g 2 < g 3 := of_decide_eq_false h37
          refine g_bipush hC dX7_barOf_40 (pc' := 42) kc_bipush_m5 rfl ?_
          refine g_iretI hC hRt rfl dX7_barOf_42 ?_
          refine ⟨?_, fun _ _ => rfl⟩
          simp only [barI, cl_nI, h4, cf, h17, cw, h27, cq, h37, eq_false h37b, ↓reduceIte, Bool.false_eq_true]
      · refine g_bipush hC dX7_barOf_30 (pc' := 32) kc_bipush_m2 rfl ?_
        refine g_iretI hC hRt rfl dX7_barOf_32 ?_
        refine ⟨?_, fun _ _ => rfl⟩
        simp only [barI, cl_nI, h4, cf, h17, cw, h27, ↓reduceIte, Bool.false_eq_true]
  · refine g_iconst hC dX7_barOf_7 (pc' := 8) kc_iconst_m1 rfl ?_
    refine g_iretI hC hRt rfl dX7_barOf_8 ?_
    refine ⟨?_, fun _ _ => rfl⟩
    simp only [barI, cl_nI, h4, ↓reduceIte, Bool.false_eq_true]

set_option maxHeartbeats 4000000 in
set_option maxRecDepth 100000 in
theorem c_writeNow {l : Launch} {ad : Nat → Nat} {X : gX} {f v p n : Nat} {h : Nat → Nat → Nat} {b : Bool} {g : Nat → Nat} (hf : f < 10) (hv : v ≤ 999) (hp : 1 ≤ p ∧ p ≤ 9) (hst : g 2 < g 3) (hfl : full g f p = false) (hm : MR X g n h b) (hI : Inv g) : K_X7_writeNow l ad [.ref 201, .int (nI f), .int (nI v), .int (nI p)] X (fun r X' => r = nI (reach g p) ∧ MR X' (wrt g f v p) n h b ∧ fN X X') := by
  refine Ct.of [.ref 201, .int (nI f), .int (nI v), .int (nI p), .null, .null] 2 (by decide +kernel) rfl (Nat.le_of_ble_eq_true rfl) (fun F hl hC hRt _ => ?_)
  subst hl
  have b23 : g 2 ≤ g 3 ∧ g 3 ≤ 5 := hI.1.2.2
  have h5 := reach_5 (p := p) hI
  have h1 := reach_pos hI hp.1 hst
  refine g_aload_0 hC dX7_writeNow_0 (pc' := 1) rfl ?_
  refine g_iload_3 hC dX7_writeNow_1 (pc' := 2) rfl ?_
  refine g_callV1I hC (c_layPress hp hm.1 hI) ml_X7_82 (sh_M ad) rfl ⟨(Nat.le_of_ble_eq_true rfl), (Nat.le_of_ble_eq_true rfl)⟩ (Nat.le_of_ble_eq_true rfl) dX7_writeNow_2 (pc' := 5) rfl ⟨Nat.zero_le _, Nat.zero_le _⟩ (fun v2 X2 q2 => ?_)
  obtain ⟨rfl, hX2, hA⟩ := q2
  have m2 := hm.c hX2
  refine g_istore_4 hC dX7_writeNow_5 (pc' := 7) rfl (Nat.le_of_ble_eq_true rfl) rfl ?_
  refine g_aload_0 hC dX7_writeNow_7 (pc' := 8) rfl ?_
  refine g_iload_4 hC dX7_writeNow_8 (pc' := 10) rfl ?_
  refine g_callV1V hC (c_usePress ⟨h1, h5⟩ (fun k hk => wear_pos hk h5) m2.1 hI) ml_X7_85 (sh_M ad) rfl ⟨(Nat.le_of_ble_eq_true rfl), (Nat.le_of_ble_eq_true rfl)⟩ (Nat.le_of_ble_eq_true rfl) dX7_writeNow_10 (pc' := 13) rfl ⟨Nat.zero_le _, Nat.zero_le _⟩ (fun X10 q10 => ?_)
  obtain ⟨r10, e10⟩ := q10
  have m10 := (m2.n r10 e10).congr (fun j _ => wear_uz hI hp.1 hst j)
  have hA10 : ∀ t, t < 5 → X10 208 t = nI (arv g p t) := fun t ht => by rw [e10 208 (by decide)]; exact hA t ht
  have f10 : fN X X10 := (fN.c hX2).tr (fN.n e10)
  refine g_iconst hC dX7_writeNow_13 (pc' := 14) kc_iconst_0 rfl ?_
  refine g_istore_5 hC dX7_writeNow_14 (pc' := 16) rfl (Nat.le_of_ble_eq_true rfl) rfl ?_
  have L16 : ∀ k, k ≤ reach g p → ∀ X1 : gX, (MR X1 (lay f v (upt (arv g p) (g 2 + k)) (wear g p)) n h b ∧ fN X X1 ∧ ∀ t, t < 5 → X1 208 t = nI (arv g p t)) → G F (S0 ad) (0, 0) X1 16 [.ref 201, .int (nI f), .int (nI v), .int (nI p), .int (nI (reach g p)), .int (nI k)] [] := by
    refine up_ind _ (fun k hk16 ih16 => ?_)
    intro X1 hm16
    have h22 : nI (lay f v (upt (arv g p) (g 2 + k)) (wear g p) 2) = nI (g 2) := by rw [lay_small (by decide), wear_hi (by omega)]
    refine g_iload_5 hC dX7_writeNow_16 (pc' := 18) rfl ?_
    refine g_iload_4 hC dX7_writeNow_18 (pc' := 20) rfl ?_
    refine g_icmpN_ge hC dX7_writeNow_20 (pc' := 23) (tgt := 58) (by decide) rfl (by omega) (by omega) (fun h20 => ?_) (fun h20 => ?_)
    · refine g_iload_4 hC dX7_writeNow_58 (pc' := 60) rfl ?_
      refine g_iretI hC hRt rfl dX7_writeNow_60 ?_
      refine ⟨rfl, ?_, hm16.2.1⟩
      rw [show k = reach g p by omega] at hm16
      exact hm16.1.congr (fun j hj => lay_congr hj upt_all)
    · have hak : 0 < arv g p (g 2 + k) := (reach_seg (by omega)).mpr (by omega)
      have hck : cnt (wear g p) (g 2 + k) f < 8 := not_full hfl (by omega) hak
      refine g_aload_0 hC dX7_writeNow_23 (pc' := 24) rfl ?_
      refine g_aload_0 hC dX7_writeNow_24 (pc' := 25) rfl ?_
      refine g_getR hC fl_X7_7 (sh_M ad) rfl dX7_writeNow_25 (pc' := 28) rfl ?_
      refine g_iconst hC dX7_writeNow_28 (pc' := 29) kc_iconst_2 rfl ?_
      refine g_iald hC (sh_mnow ad) (Nat.le_of_ble_eq_true rfl) (by omega) ((hm16.1.1.at (by decide) (by decide)).trans h22) dX7_writeNow_29 (pc' := 30) rfl ?_
      refine g_iload_5 hC dX7_writeNow_30 (pc' := 32) rfl ?_
      refine g_iaddN hC dX7_writeNow_32 (pc' := 33) rfl ?_
      refine g_iload_1 hC dX7_writeNow_33 (pc' := 34) rfl ?_
      refine g_iload_2 hC dX7_writeNow_34 (pc' := 35) rfl ?_
      refine g_aload_0 hC dX7_writeNow_35 (pc' := 36) rfl ?_
      refine g_getR hC fl_X7_29 (sh_M ad) rfl dX7_writeNow_36 (pc' := 39) rfl ?_
      refine g_aload_0 hC dX7_writeNow_39 (pc' := 40) rfl ?_
      refine g_getR hC fl_X7_7 (sh_M ad) rfl dX7_writeNow_40 (pc' := 43) rfl ?_
      refine g_iconst hC dX7_writeNow_43 (pc' := 44) kc_iconst_2 rfl ?_
      refine g_iald hC (sh_mnow ad) (Nat.le_of_ble_eq_true rfl) (by omega) ((hm16.1.1.at (by decide) (by decide)).trans h22) dX7_writeNow_44 (pc' := 45) rfl ?_
      refine g_iload_5 hC dX7_writeNow_45 (pc' := 47) rfl ?_
      refine g_iaddN hC dX7_writeNow_47 (pc' := 48) rfl ?_
      refine g_iald hC (sh_mcomes ad) (Nat.le_of_ble_eq_true rfl) (by omega) ((hm16.2.2 _ (by omega))) dX7_writeNow_48 (pc' := 49) rfl ?_
      refine g_callV4V hC (c_addMark (s := g 2 + k) (f := f) (v := v) (p := arv g p (g 2 + k)) (by omega) hf (by rw [lay_cnt hf (by omega) (Nat.le_refl _)]; exact hck) hm16.1.1) ml_X7_89 (sh_M ad) rfl ⟨(Nat.le_of_ble_eq_true rfl), (Nat.le_of_ble_eq_true rfl)⟩ (Nat.le_of_ble_eq_true rfl) dX7_writeNow_49 (pc' := 52) rfl ⟨Nat.zero_le _, Nat.zero_le _⟩ (fun X49 q49 => ?_)
      obtain ⟨r49, e49⟩ := q49
      refine g_iinc_5 hC dX7_writeNow_52 (pc' := 55) rfl (Nat.le_of_ble_eq_true rfl) rfl (nI_inc _ _ kc_iinc_1) ?_
      refine g_goto hC dX7_writeNow_55 (tgt := 16) (by decide) ?_
      exact g_weak (ih16 (by omega) _ (by exact ⟨(hm16.1.n r49 e49).congr (fun j hj => lay_step hf (by omega) hak hck hj), hm16.2.1.tr (fN.n e49), fun t ht => by rw [e49 208 (by decide)]; exact hm16.2.2 t ht⟩)) (gle_s (gle_s (gle_s (gle_s (gle_s (gle_i (by first | rfl | omega) gle_nil))))))
  exact g_weak (L16 0 (by exact Nat.zero_le _) _ (by exact ⟨m10.congr (fun j _ => (lay_0 below_0 j).symm), f10, hA10⟩)) (gle_s (gle_s (gle_s (gle_s (gle_s (gle_s gle_nil))))))

set_option maxHeartbeats 4000000 in
set_option maxRecDepth 100000 in
theorem c_strikeNow {l : Launch} {ad : Nat → Nat} {X : gX} {f p n : Nat} {h : Nat → Nat → Nat} {b : Bool} {g : Nat → Nat} (hf : f < 10) (hp : 1 ≤ p ∧ p ≤ 9) (hst : g 2 < g 3) (hm : MR X g n h b) (hI : Inv g) : K_X7_strikeNow l ad [.ref 201, .int (nI f), .int (nI p)] X (fun r X' => r = nI (strN g f p) ∧ MR X' (str g f p) n h b ∧ fN X X') := by
  refine Ct.of [.ref 201, .int (nI f), .int (nI p), .null, .null, .null] 3 (by decide +kernel) rfl (Nat.le_of_ble_eq_true rfl) (fun F hl hC hRt _ => ?_)
  subst hl
  have b23 : g 2 ≤ g 3 ∧ g 3 ≤ 5 := hI.1.2.2
  have h5 := reach_5 (p := p) hI
  have h1 := reach_pos hI hp.1 hst
  refine g_aload_0 hC dX7_strikeNow_0 (pc' := 1) rfl ?_
  refine g_iload_2 hC dX7_strikeNow_1 (pc' := 2) rfl ?_
  refine g_callV1I hC (c_layPress hp hm.1 hI) ml_X7_82 (sh_M ad) rfl ⟨(Nat.le_of_ble_eq_true rfl), (Nat.le_of_ble_eq_true rfl)⟩ (Nat.le_of_ble_eq_true rfl) dX7_strikeNow_2 (pc' := 5) rfl ⟨Nat.zero_le _, Nat.zero_le _⟩ (fun v2 X2 q2 => ?_)
  obtain ⟨rfl, hX2, hA⟩ := q2
  have m2 := hm.c hX2
  refine g_istore_3 hC dX7_strikeNow_5 (pc' := 6) rfl (Nat.le_of_ble_eq_true rfl) rfl ?_
  refine g_aload_0 hC dX7_strikeNow_6 (pc' := 7) rfl ?_
  refine g_iload_3 hC dX7_strikeNow_7 (pc' := 8) rfl ?_
  refine g_callV1V hC (c_usePress ⟨h1, h5⟩ (fun k hk => wear_pos hk h5) m2.1 hI) ml_X7_85 (sh_M ad) rfl ⟨(Nat.le_of_ble_eq_true rfl), (Nat.le_of_ble_eq_true rfl)⟩ (Nat.le_of_ble_eq_true rfl) dX7_strikeNow_8 (pc' := 11) rfl ⟨Nat.zero_le _, Nat.zero_le _⟩ (fun X8 q8 => ?_)
  obtain ⟨r8, e8⟩ := q8
  have m8 := (m2.n r8 e8).congr (fun j _ => wear_uz hI hp.1 hst j)
  have hA8 : ∀ t, t < 5 → X8 208 t = nI (arv g p t) := fun t ht => by rw [e8 208 (by decide)]; exact hA t ht
  have f8 : fN X X8 := (fN.c hX2).tr (fN.n e8)
  refine g_iconst hC dX7_strikeNow_11 (pc' := 12) kc_iconst_0 rfl ?_
  refine g_istore_4 hC dX7_strikeNow_12 (pc' := 14) rfl (Nat.le_of_ble_eq_true rfl) rfl ?_
  refine g_iconst hC dX7_strikeNow_14 (pc' := 15) kc_iconst_0 rfl ?_
  refine g_istore_5 hC dX7_strikeNow_15 (pc' := 17) rfl (Nat.le_of_ble_eq_true rfl) rfl ?_
  have L17 : ∀ k, k ≤ reach g p → ∀ X1 : gX, (MR X1 (sco f (upt (arv g p) (g 2 + k)) (wear g p)) n h b ∧ fN X X1 ∧ ∀ t, t < 5 → X1 208 t = nI (arv g p t)) → G F (S0 ad) (0, 0) X1 17 [.ref 201, .int (nI f), .int (nI p), .int (nI (reach g p)), .int (nI (smN (fun k => cnB (stt g (g 2 + k) f (arv g p (g 2 + k))) (cnt g (g 2 + k) f)) k)), .int (nI k)] [] := by
    refine up_ind _ (fun k hk17 ih17 => ?_)
    intro X1 hm17
    have h22 : nI (sco f (upt (arv g p) (g 2 + k)) (wear g p) 2) = nI (g 2) := by rw [sco_small (by decide), wear_hi (by omega)]
    refine g_iload_5 hC dX7_strikeNow_17 (pc' := 19) rfl ?_
    refine g_iload_3 hC dX7_strikeNow_19 (pc' := 20) rfl ?_
    refine g_icmpN_ge hC dX7_strikeNow_20 (pc' := 23) (tgt := 62) (by decide) rfl (by omega) (by omega) (fun h20 => ?_) (fun h20 => ?_)
    · refine g_iload_4 hC dX7_strikeNow_62 (pc' := 64) rfl ?_
      refine g_iretI hC hRt rfl dX7_strikeNow_64 ?_
      refine ⟨?_, ?_, hm17.2.1⟩
      · rw [show k = reach g p by omega]
        exact congrArg nI (strN_seg hI).symm
      · rw [show k = reach g p by omega] at hm17
        exact hm17.1.congr (fun j hj => sco_congr hj upt_all)
    · have hak : 0 < arv g p (g 2 + k) := (reach_seg (by omega)).mpr (by omega)
      have hck : cnt (wear g p) (g 2 + k) f ≤ 8 := wear_c hI (by omega) hf
      refine g_iload_4 hC dX7_strikeNow_23 (pc' := 25) rfl ?_
      refine g_aload_0 hC dX7_strikeNow_25 (pc' := 26) rfl ?_
      refine g_aload_0 hC dX7_strikeNow_26 (pc' := 27) rfl ?_
      refine g_getR hC fl_X7_7 (sh_M ad) rfl dX7_strikeNow_27 (pc' := 30) rfl ?_
      refine g_iconst hC dX7_strikeNow_30 (pc' := 31) kc_iconst_2 rfl ?_
      refine g_iald hC (sh_mnow ad) (Nat.le_of_ble_eq_true rfl) (by omega) ((hm17.1.1.at (by decide) (by decide)).trans h22) dX7_strikeNow_31 (pc' := 32) rfl ?_
      refine g_iload_5 hC dX7_strikeNow_32 (pc' := 34) rfl ?_
      refine g_iaddN hC dX7_strikeNow_34 (pc' := 35) rfl ?_
      refine g_iload_1 hC dX7_strikeNow_35 (pc' := 36) rfl ?_
      refine g_aload_0 hC dX7_strikeNow_36 (pc' := 37) rfl ?_
      refine g_getR hC fl_X7_29 (sh_M ad) rfl dX7_strikeNow_37 (pc' := 40) rfl ?_
      refine g_aload_0 hC dX7_strikeNow_40 (pc' := 41) rfl ?_
      refine g_getR hC fl_X7_7 (sh_M ad) rfl dX7_strikeNow_41 (pc' := 44) rfl ?_
      refine g_iconst hC dX7_strikeNow_44 (pc' := 45) kc_iconst_2 rfl ?_
      refine g_iald hC (sh_mnow ad) (Nat.le_of_ble_eq_true rfl) (by omega) ((hm17.1.1.at (by decide) (by decide)).trans h22) dX7_strikeNow_45 (pc' := 46) rfl ?_
      refine g_iload_5 hC dX7_strikeNow_46 (pc' := 48) rfl ?_
      refine g_iaddN hC dX7_strikeNow_48 (pc' := 49) rfl ?_
      refine g_iald hC (sh_mcomes ad) (Nat.le_of_ble_eq_true rfl) (by omega) ((hm17.2.2 _ (by omega))) dX7_strikeNow_49 (pc' := 50) rfl ?_
      refine g_callV3I hC (c_strikeAt (s := g 2 + k) (f := f) (q := arv g p (g 2 + k)) (by omega) hf (Nat.le_trans (arv_le g p _) hp.2) hm17.1.1 (sco_inv hI hf hp k)) ml_X7_99 (sh_M ad) rfl ⟨(Nat.le_of_ble_eq_true rfl), (Nat.le_of_ble_eq_true rfl)⟩ (Nat.le_of_ble_eq_true rfl) dX7_strikeNow_50 (pc' := 53) rfl ⟨Nat.zero_le _, Nat.zero_le _⟩ (fun v50 X50 q50 => ?_)
      obtain ⟨rfl, r50, e50⟩ := q50
      rw [stt_eq hf (by omega) (hI.c (by omega) hf)]
      refine g_iaddN hC dX7_strikeNow_53 (pc' := 54) rfl ?_
      refine g_istore_4 hC dX7_strikeNow_54 (pc' := 56) rfl (Nat.le_of_ble_eq_true rfl) rfl ?_
      refine g_iinc_5 hC dX7_strikeNow_56 (pc' := 59) rfl (Nat.le_of_ble_eq_true rfl) rfl (nI_inc _ _ kc_iinc_1) ?_
      refine g_goto hC dX7_strikeNow_59 (tgt := 17) (by decide) ?_
      exact g_weak (ih17 (by omega) _ (by exact ⟨(hm17.1.n r50 e50).congr (fun j hj => sco_step hf (by omega) hak hck hj), hm17.2.1.tr (fN.n e50), fun t ht => by rw [e50 208 (by decide)]; exact hm17.2.2 t ht⟩)) (gle_s (gle_s (gle_s (gle_s (gle_i (by rfl) (gle_i (by first | rfl | omega) gle_nil))))))
  exact g_weak (L17 0 (by exact Nat.zero_le _) _ (by exact ⟨m8.congr (fun j _ => (sco_0 below_0 j).symm), f8, hA8⟩)) (gle_s (gle_s (gle_s (gle_s (gle_i (by rfl) (gle_s gle_nil))))))
