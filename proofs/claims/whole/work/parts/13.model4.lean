theorem RM.of {X X' : gX} {g : Nat → Nat} (h : RM X g) (e : X' 202 = X 202) : RM X' g := fun j hj => by rw [e]; exact h j hj
theorem RM.congr {X : gX} {g g' : Nat → Nat} (h : RM X g) (e : ∀ j, j < 470 → g j = g' j) : RM X g' := fun j hj => by
  rw [h j hj]
  unfold ar
  rw [e j hj, e 3 (by decide)]
def updN (g : Nat → Nat) (i v : Nat) : Nat → Nat := fun j => if j = i then v else g j
theorem RM.upd {X : gX} {g : Nat → Nat} (h : RM X g) {i v : Nat} (h3 : i ≠ 3) : RM (gu X 202 i (nI v)) (updN g i v) := fun j hj => by
  by_cases hi : j = i
  · subst hi
    rw [gu_at]
    simp [ar, updN, h3]
  · rw [gu_other (fun z => hi z.2), h j hj]
    unfold ar updN
    simp only [hi, if_false, show ¬ (3 : Nat) = i from fun z => h3 z.symm]
/-- what a press of strength p has left where sheet t lies -/
def prs (g : Nat → Nat) (p : Nat) : Nat → Nat
  | 0 => p
  | t + 1 => if inS g t = true then (if 0 < g (9 + t) then prs g p t - g (4 + t) else 0) else prs g p t
/-- with what strength it comes to sheet t, 0 if it doesn't -/
def arv (g : Nat → Nat) (p t : Nat) : Nat := if inS g t = true then prs g p t else 0
def hit (g : Nat → Nat) (p t : Nat) : Bool := decide (0 < arv g p t)
def reach (g : Nat → Nat) (p : Nat) : Nat := cnB (hit g p) 5
theorem prs_top (g : Nat → Nat) (p : Nat) : ∀ t, t ≤ g 2 → prs g p t = p := by
  intro t
  induction t with
  | zero => intro _; rfl
  | succ t ih =>
    intro h
    unfold prs
    rw [if_neg (by rw [inS_iff]; omega)]
    exact ih (by omega)
theorem prs_le (g : Nat → Nat) (p : Nat) : ∀ t, prs g p t ≤ p := by
  intro t
  induction t with
  | zero => exact Nat.le_refl _
  | succ t ih =>
    unfold prs
    split
    · split <;> omega
    · exact ih
theorem prs_in {g : Nat → Nat} {p t : Nat} (h : inS g t = true) : prs g p (t + 1) = if 0 < g (9 + t) then prs g p t - g (4 + t) else 0 := by
  show (if inS g t = true then _ else _) = _
  rw [if_pos h]
theorem prs_0 {g : Nat → Nat} {p : Nat} : ∀ {t u : Nat}, prs g p t = 0 → t ≤ u → prs g p u = 0 := by
  intro t u h
  induction u with
  | zero => intro hu; rw [show t = 0 by omega] at h; exact h
  | succ u ih =>
    intro hu
    by_cases hz : t = u + 1
    · rw [← hz]; exact h
    · have h1 := ih (by omega)
      unfold prs
      rw [h1]
      split
      · split <;> omega
      · rfl
theorem arv_le (g : Nat → Nat) (p t : Nat) : arv g p t ≤ p := by unfold arv; split; exact prs_le g p t; exact Nat.zero_le _
theorem arv_out {g : Nat → Nat} {p t : Nat} (h : ¬ (g 2 ≤ t ∧ t < g 3)) : arv g p t = 0 := by
  unfold arv
  rw [if_neg (by rw [inS_iff]; exact h)]
theorem arv_in {g : Nat → Nat} {p t : Nat} (h : g 2 ≤ t ∧ t < g 3) : arv g p t = prs g p t := by
  unfold arv
  rw [if_pos (inS_iff.mpr h)]
/-- the sheets that are reached lie side by side, from the top on -/
theorem arv_seg {g : Nat → Nat} {p t : Nat} (h : 0 < arv g p (t + 1)) (h2 : g 2 ≤ t) : 0 < arv g p t ∧ 0 < g (9 + t) := by
  have hi : g 2 ≤ t + 1 ∧ t + 1 < g 3 := Decidable.byContradiction (fun z => by rw [arv_out z] at h; omega)
  rw [arv_in hi, prs_in (inS_iff.mpr ⟨h2, by omega⟩)] at h
  rw [arv_in ⟨h2, by omega⟩]
  split at h <;> omega
theorem arv_down {g : Nat → Nat} {p : Nat} : ∀ {t : Nat}, 0 < arv g p t → ∀ u, g 2 ≤ u → u ≤ t → 0 < arv g p u := by
  intro t
  induction t with
  | zero => intro h u _ hu; rw [show u = 0 by omega]; exact h
  | succ t ih =>
    intro h u h2 hu
    by_cases hz : u = t + 1
    · rw [hz]; exact h
    · exact ih (arv_seg h (by omega)).1 u h2 (by omega)
theorem cnB_seg {P : Nat → Bool} {a : Nat} : ∀ (n : Nat), (∀ t, t < n → P t = true → a ≤ t) → (∀ t, t < n → P t = true → ∀ u, a ≤ u → u ≤ t → P u = true) → ∀ t, t < n → (P t = true ↔ a ≤ t ∧ t < a + cnB P n) := by
  intro n
  induction n with
  | zero => intro _ _ t h; omega
  | succ n ih =>
    intro h1 h2 t ht
    have ih' := ih (fun t h => h1 t (by omega)) (fun t h => h2 t (by omega))
    show P t = true ↔ a ≤ t ∧ t < a + (cnB P n + (if P n = true then 1 else 0))
    by_cases hn : P n = true
    · rw [if_pos hn]
      have han := h1 n (by omega) hn
      have hall : ∀ u, a ≤ u → u ≤ n → P u = true := h2 n (by omega) hn
      have hc : cnB P n = n - a := by
        rcases Nat.lt_or_ge a n with h | h
        · have := (ih' (n - 1) (by omega)).mp (hall (n - 1) (by omega) (by omega))
          by_cases hb : cnB P n ≤ n - a
          · omega
          · exfalso
            have hcn : cnB P n ≤ n - a := by
              have : ∀ m, (∀ t, t < m → P t = true → a ≤ t) → cnB P m ≤ m - a := by
                intro m
                induction m with
                | zero => intro _; exact Nat.zero_le _
                | succ m ihm =>
                  intro hm
                  unfold cnB
                  have := ihm (fun t h => hm t (by omega))
                  split
                  · rename_i hp; have := hm m (by omega) hp; omega
                  · omega
              exact this n (fun t h => h1 t (by omega))
            omega
        · have : cnB P n = 0 := by
            have : ∀ m, m ≤ n → cnB P m = 0 := by
              intro m
              induction m with
              | zero => intro _; rfl
              | succ m ihm =>
                intro hm
                unfold cnB
                rw [ihm (by omega), if_neg]
                intro hp
                have := h1 m (by omega) hp
                omega
            exact this n (Nat.le_refl _)
          omega
      rw [hc]
      constructor
      · intro hp; exact ⟨h1 t ht hp, by omega⟩
      · rintro ⟨h3, h4⟩; exact hall t h3 (by omega)
    · rw [if_neg hn, Nat.add_zero]
      by_cases htn : t = n
      · subst htn
        constructor
        · intro hp; exact absurd hp hn
        · rintro ⟨h3, h4⟩
          exfalso
          have h0 : 0 < t ∨ t = 0 := by omega
          rcases h0 with h0 | h0
          · have hq : cnB P t ≤ t - a := by
              have : ∀ m, m ≤ t → cnB P m ≤ m - a := by
                intro m
                induction m with
                | zero => intro _; exact Nat.zero_le _
                | succ m ihm =>
                  intro hm
                  unfold cnB
                  have := ihm (by omega)
                  split
                  · rename_i hp; have := h1 m (by omega) hp; omega
                  · omega
              exact this t (Nat.le_refl _)
            omega
          · subst h0; simp [cnB] at h4; omega
      · exact ih' t (by omega)
theorem reach_seg {g : Nat → Nat} {p t : Nat} (ht : t < 5) : 0 < arv g p t ↔ g 2 ≤ t ∧ t < g 2 + reach g p := by
  have := cnB_seg (P := hit g p) (a := g 2) 5 (fun t _ h => by
    simp only [hit, decide_eq_true_eq] at h
    refine Nat.not_lt.mp fun z => ?_
    rw [arv_out (by omega)] at h
    omega) (fun t _ h u h2 hu => by
    simp only [hit, decide_eq_true_eq] at h ⊢
    exact arv_down h u h2 hu) t ht
  unfold reach
  simpa [hit] using this
def isPr (x : Int32) (n : Nat) : Prop := (0 < x → x = nI n) ∧ (¬ 0 < x → n = 0)
theorem isPr_n {n : Nat} (h : n < 1073741824) : isPr (nI n) n := ⟨fun _ => rfl, fun z => Nat.eq_zero_of_not_pos fun h2 => z ((nI_gt0 (by omega)).mpr h2)⟩
theorem isPr_sub {a b : Nat} (ha : a < 1073741824) (hb : b < 1073741824) : isPr (nI a - nI b) (a - b) := by
  have ht := pk_sub_toInt (a := a) (b := b) (by omega) (by omega)
  constructor
  · intro h
    rw [Int32.lt_iff_toInt_lt, ht] at h
    have : (0 : Int32).toInt = 0 := by decide
    rw [this] at h
    exact pk_sub (by omega)
  · intro h
    rw [Int32.lt_iff_toInt_lt, ht] at h
    have : (0 : Int32).toInt = 0 := by decide
    rw [this] at h
    omega
theorem cnB_0 {P : Nat → Bool} : ∀ {n : Nat}, (∀ k, k < n → P k = false) → cnB P n = 0 := by
  intro n
  induction n with
  | zero => intro _; rfl
  | succ n ih => intro h; unfold cnB; rw [ih (fun k hk => h k (by omega)), h n (by omega)]; rfl
theorem cnB_rest {P : Nat → Bool} {k : Nat} : ∀ {n : Nat}, k ≤ n → (∀ j, k ≤ j → j < n → P j = false) → cnB P n = cnB P k := by
  intro n
  induction n with
  | zero => intro h _; rw [show k = 0 by omega]
  | succ n ih =>
    intro h h2
    by_cases hk : k = n + 1
    · rw [hk]
    · show cnB P n + (if P n = true then 1 else 0) = cnB P k
      rw [ih (by omega) (fun j h3 h4 => h2 j h3 (by omega)), h2 n (by omega) (by omega)]
      rfl
theorem arv_0 {g : Nat → Nat} {p t u : Nat} (h : prs g p t = 0) (hu : t ≤ u) : arv g p u = 0 := by
  unfold arv
  split
  · exact prs_0 h hu
  · rfl
theorem cnB_t {P : Nat → Bool} {k : Nat} (h : P k = true) : cnB P (k + 1) = cnB P k + 1 := by
  show cnB P k + (if P k = true then 1 else 0) = _
  rw [if_pos h]
theorem cnB_f {P : Nat → Bool} {k : Nat} (h : P k = false) : cnB P (k + 1) = cnB P k := by
  show cnB P k + (if P k = true then 1 else 0) = _
  rw [h]
  rfl
theorem lp_mem1 {X X1 : gX} {k : Nat} (h : (∀ i, i ≠ 208 → X1 i = X i) ∧ ∀ j, j < k → X1 208 j = nI 0) : (∀ i, i ≠ 208 → gu X1 208 k (nI 0) i = X i) ∧ ∀ j, j < k + 1 → gu X1 208 k (nI 0) 208 j = nI 0 := by
  refine ⟨fun i hi => (gu_ne i hi).trans (h.1 i hi), fun j hj => ?_⟩
  by_cases hz : j = k
  · subst hz; exact gu_at
  · rw [gu_other (fun z => hz z.2)]
    exact h.2 j (by omega)
theorem lp_mem0 {X X1 : gX} {g : Nat → Nat} {p : Nat} (h : (∀ i, i ≠ 208 → X1 i = X i) ∧ ∀ j, j < 5 → X1 208 j = nI 0) : (∀ i, i ≠ 208 → X1 i = X i) ∧ ∀ j, j < 5 → X1 208 j = if j < g 2 then nI (arv g p j) else nI 0 := by
  refine ⟨h.1, fun j hj => ?_⟩
  rw [h.2 j hj]
  split
  · rw [arv_out (by omega)]
  · rfl
theorem lp_mem2 {X X2 : gX} {F : Nat → Int32} {t : Nat} {v : Int32} (h : (∀ i, i ≠ 208 → X2 i = X i) ∧ ∀ j, j < 5 → X2 208 j = if j < t then F j else nI 0) (hv : v = F t) : (∀ i, i ≠ 208 → gu X2 208 t v i = X i) ∧ ∀ j, j < 5 → gu X2 208 t v 208 j = if j < t + 1 then F j else nI 0 := by
  refine ⟨fun i hi => (gu_ne i hi).trans (h.1 i hi), fun j hj => ?_⟩
  by_cases hz : j = t
  · subst hz
    rw [gu_at, if_pos (Nat.lt_succ_self _)]
    exact hv
  · rw [gu_other (fun z => hz z.2), h.2 j hj]
    by_cases hjt : j < t
    · rw [if_pos hjt, if_pos (by omega)]
    · rw [if_neg hjt, if_neg (by omega)]
def uz (g : Nat → Nat) (n : Nat) : Nat → Nat := fun j => if 9 + g 2 ≤ j ∧ j < 9 + g 2 + n then g j - 1 else g j
theorem uz_step {g : Nat → Nat} {k j : Nat} : updN (uz g k) (9 + g 2 + k) (g (9 + g 2 + k) - 1) j = uz g (k + 1) j := by
  unfold updN uz
  by_cases hz : j = 9 + g 2 + k
  · rw [if_pos hz, if_pos (by omega), hz]
  · rw [if_neg hz]
    by_cases hy : 9 + g 2 ≤ j ∧ j < 9 + g 2 + k
    · rw [if_pos hy, if_pos (by omega)]
    · rw [if_neg hy, if_neg (by omega)]
def addm (g : Nat → Nat) (s f v p : Nat) : Nat → Nat := updN (updN g (70 + 8 * (10 * s + f) + cnt g s f) (20 * v + 2 * p)) (20 + (10 * s + f)) (cnt g s f + 1)
def stz (g : Nat → Nat) (b q n : Nat) : Nat → Nat := fun j => if b ≤ j ∧ j < b + n ∧ (g j % 2 = 0 ∧ g j / 2 % 10 ≤ q) then g j + 1 else g j
def stt (g : Nat → Nat) (s f q k : Nat) : Bool := decide (mk g s f k % 2 = 0) && decide (mk g s f k / 2 % 10 ≤ q)
def stk (g : Nat → Nat) (s f q : Nat) : Nat → Nat := stz g (70 + 8 * (10 * s + f)) q (cnt g s f)
theorem stz_ge {g : Nat → Nat} {b q n j : Nat} (h : b + n ≤ j ∨ j < b) : stz g b q n j = g j := by
  unfold stz
  rw [if_neg (by omega)]
theorem stz_step1 {g : Nat → Nat} {s f q k j : Nat} (hj : j < 470) (h0 : mk g s f k % 2 = 0) (h1 : mk g s f k / 2 % 10 ≤ q) : updN (stz g (70 + 8 * (10 * s + f)) q k) (70 + 8 * (10 * s + f) + k) (mk g s f k + 1) j = stz g (70 + 8 * (10 * s + f)) q (k + 1) j := by
  unfold mk at *
  unfold updN
  by_cases hz : j = 70 + 8 * (10 * s + f) + k
  · rw [if_pos hz, hz]
    unfold stz
    rw [if_pos ⟨by omega, by omega, h0, h1⟩]
  · rw [if_neg hz]
    unfold stz
    by_cases hy : 70 + 8 * (10 * s + f) ≤ j ∧ j < 70 + 8 * (10 * s + f) + k ∧ (g j % 2 = 0 ∧ g j / 2 % 10 ≤ q)
    · rw [if_pos hy, if_pos ⟨hy.1, by omega, hy.2.2⟩]
    · rw [if_neg hy, if_neg (fun w => hy ⟨w.1, by omega, w.2.2⟩)]
theorem stz_step0 {g : Nat → Nat} {b q k j : Nat} (h : ¬ (g (b + k) % 2 = 0 ∧ g (b + k) / 2 % 10 ≤ q)) : stz g b q k j = stz g b q (k + 1) j := by
  unfold stz
  by_cases hz : j = b + k
  · subst hz
    rw [if_neg (by omega), if_neg (fun w => h w.2.2)]
  · by_cases hy : b ≤ j ∧ j < b + k ∧ (g j % 2 = 0 ∧ g j / 2 % 10 ≤ q)
    · rw [if_pos hy, if_pos ⟨hy.1, by omega, hy.2.2⟩]
    · rw [if_neg hy, if_neg (fun w => hy ⟨w.1, by omega, w.2.2⟩)]

set_option maxHeartbeats 4000000 in
set_option maxRecDepth 100000 in
theorem c_manyV {l : Launch} {ad : Nat → Nat} {X : gX} {s f c : Nat} (hs : s < 5) (hf : f < 10) (hv : X 202 (20 + (10 * s + f)) = nI c) : K_X7_many l ad [.ref 201, .int (nI s), .int (nI f)] X (pR X (nI c)) := by
  refine Ct.of [.ref 201, .int (nI s), .int (nI f)] 0 (by decide +kernel) rfl (Nat.le_of_ble_eq_true rfl) (fun F hl hC hRt _ => ?_)
  subst hl
  refine g_aload_0 hC dX7_many_0 (pc' := 1) rfl ?_
  refine g_getR hC fl_X7_7 (sh_M ad) rfl dX7_many_1 (pc' := 4) rfl ?_
  refine g_bipush hC dX7_many_4 (pc' := 6) kc_bipush_20 rfl ?_
  refine g_iload_1 hC dX7_many_6 (pc' := 7) rfl ?_
  refine g_iload_2 hC dX7_many_7 (pc' := 8) rfl ?_
  refine g_callS2R hC (c_spot) ml_X7_57 ⟨(Nat.le_of_ble_eq_true rfl), (Nat.le_of_ble_eq_true rfl)⟩ (Nat.le_of_ble_eq_true rfl) dX7_many_8 (pc' := 11) rfl ⟨Nat.zero_le _, Nat.zero_le _⟩ ?_
  refine g_iaddN hC dX7_many_11 (pc' := 12) rfl ?_
  refine g_iald hC (sh_mnow ad) (Nat.le_of_ble_eq_true rfl) (by omega) (hv) dX7_many_12 (pc' := 13) rfl ?_
  refine g_iretR hC hRt rfl dX7_many_13 ?_
  first | rfl | simp_all | omega

set_option maxHeartbeats 4000000 in
set_option maxRecDepth 100000 in
theorem c_markAtV {l : Launch} {ad : Nat → Nat} {X : gX} {s f k m : Nat} (hs : s < 5) (hf : f < 10) (hk : k < 8) (hv : X 202 (70 + 8 * (10 * s + f) + k) = nI m) : K_X7_markAt l ad [.ref 201, .int (nI s), .int (nI f), .int (nI k)] X (pR X (nI m)) := by
  refine Ct.of [.ref 201, .int (nI s), .int (nI f), .int (nI k)] 0 (by decide +kernel) rfl (Nat.le_of_ble_eq_true rfl) (fun F hl hC hRt _ => ?_)
  subst hl
  refine g_aload_0 hC dX7_markAt_0 (pc' := 1) rfl ?_
  refine g_getR hC fl_X7_7 (sh_M ad) rfl dX7_markAt_1 (pc' := 4) rfl ?_
  refine g_bipush hC dX7_markAt_4 (pc' := 6) kc_bipush_70 rfl ?_
  refine g_bipush hC dX7_markAt_6 (pc' := 8) kc_bipush_8 rfl ?_
  refine g_iload_1 hC dX7_markAt_8 (pc' := 9) rfl ?_
  refine g_iload_2 hC dX7_markAt_9 (pc' := 10) rfl ?_
  refine g_callS2R hC (c_spot) ml_X7_57 ⟨(Nat.le_of_ble_eq_true rfl), (Nat.le_of_ble_eq_true rfl)⟩ (Nat.le_of_ble_eq_true rfl) dX7_markAt_10 (pc' := 13) rfl ⟨Nat.zero_le _, Nat.zero_le _⟩ ?_
  refine g_imulN hC dX7_markAt_13 (pc' := 14) rfl ?_
  refine g_iaddN hC dX7_markAt_14 (pc' := 15) rfl ?_
  refine g_iload_3 hC dX7_markAt_15 (pc' := 16) rfl ?_
  refine g_iaddN hC dX7_markAt_16 (pc' := 17) rfl ?_
  refine g_iald hC (sh_mnow ad) (Nat.le_of_ble_eq_true rfl) (by omega) (hv) dX7_markAt_17 (pc' := 18) rfl ?_
  refine g_iretR hC hRt rfl dX7_markAt_18 ?_
  first | rfl | simp_all | omega

set_option maxHeartbeats 4000000 in
set_option maxRecDepth 100000 in
theorem c_layPress {l : Launch} {ad : Nat → Nat} {X : gX} {p : Nat} {g : Nat → Nat} (hp : 1 ≤ p ∧ p ≤ 9) (hR : RM X g) (hI : Inv g) : K_X7_layPress l ad [.ref 201, .int (nI p)] X (fun v X' => v = nI (reach g p) ∧ (∀ i, i ≠ 208 → X' i = X i) ∧ ∀ t, t < 5 → X' 208 t = nI (arv g p t)) := by
  refine Ct.of [.ref 201, .int (nI p), .null, .null, .null] 3 (by decide +kernel) rfl (Nat.le_of_ble_eq_true rfl) (fun F hl hC hRt _ => ?_)
  subst hl
  have b23 : g 2 ≤ g 3 ∧ g 3 ≤ 5 := hI.1.2.2
  refine g_iconst hC dX7_layPress_0 (pc' := 1) kc_iconst_0 rfl ?_
  refine g_istore_2 hC dX7_layPress_1 (pc' := 2) rfl (Nat.le_of_ble_eq_true rfl) rfl ?_
  refine g_iload_1 hC dX7_layPress_2 (pc' := 3) rfl ?_
  refine g_istore_3 hC dX7_layPress_3 (pc' := 4) rfl (Nat.le_of_ble_eq_true rfl) rfl ?_
  refine g_iconst hC dX7_layPress_4 (pc' := 5) kc_iconst_0 rfl ?_
  refine g_istore_4 hC dX7_layPress_5 (pc' := 7) rfl (Nat.le_of_ble_eq_true rfl) rfl ?_
  have L7 : ∀ k, k ≤ 5 → ∀ X1 : gX, ((∀ i, i ≠ 208 → X1 i = X i) ∧ ∀ j, j < k → X1 208 j = nI 0) → G F (S0 ad) (0, 0) X1 7 [.ref 201, .int (nI p), .int (nI 0), .int (nI p), .int (nI k)] [] := by
    refine up_ind _ (fun k hk7 ih7 => ?_)
    intro X1 hm7
    refine g_iload_4 hC dX7_layPress_7 (pc' := 9) rfl ?_
    refine g_iconst hC dX7_layPress_9 (pc' := 10) kc_iconst_5 rfl ?_
    refine g_icmpN_ge hC dX7_layPress_10 (pc' := 13) (tgt := 27) (by decide) rfl (by omega) (by omega) (fun h10 => ?_) (fun h10 => ?_)
    · refine g_aload_0 hC dX7_layPress_27 (pc' := 28) rfl ?_
      refine g_getR hC fl_X7_7 (sh_M ad) rfl dX7_layPress_28 (pc' := 31) rfl ?_
      refine g_iconst hC dX7_layPress_31 (pc' := 32) kc_iconst_2 rfl ?_
      refine g_iald hC (sh_mnow ad) (Nat.le_of_ble_eq_true rfl) (by omega) ((hR.of (hm7.1 202 (by decide))).at (by decide) (by decide)) dX7_layPress_32 (pc' := 33) rfl ?_
      refine g_istore_4 hC dX7_layPress_33 (pc' := 35) rfl (Nat.le_of_ble_eq_true rfl) rfl ?_
      have L35 : ∀ t, t ≤ g 3 → g 2 ≤ t → ∀ x : Int32, isPr x (prs g p t) → ∀ X2 : gX, ((∀ i, i ≠ 208 → X2 i = X i) ∧ ∀ j, j < 5 → X2 208 j = if j < t then nI (arv g p j) else nI 0) → G F (S0 ad) (0, 0) X2 35 [.ref 201, .int (nI p), .int (nI (cnB (hit g p) t)), .int (x), .int (nI t)] [] := by
        refine up_ind _ (fun t hk35 ih35 => ?_)
        intro ht2 x hq
        intro X2 hm35
        refine g_iload_4 hC dX7_layPress_35 (pc' := 37) rfl ?_
        refine g_aload_0 hC dX7_layPress_37 (pc' := 38) rfl ?_
        refine g_getR hC fl_X7_7 (sh_M ad) rfl dX7_layPress_38 (pc' := 41) rfl ?_
        refine g_iconst hC dX7_layPress_41 (pc' := 42) kc_iconst_3 rfl ?_
        refine g_iald hC (sh_mnow ad) (Nat.le_of_ble_eq_true rfl) (by omega) ((hR.of (hm35.1 202 (by decide))).low) dX7_layPress_42 (pc' := 43) rfl ?_
        refine g_icmpL_gt hC dX7_layPress_43 (pc' := 46) (tgt := 96) (by decide) rfl (by omega) (by omega) (fun h43 => ?_) (fun h43 => ?_)
        · refine g_iload_2 hC dX7_layPress_96 (pc' := 97) rfl ?_
          refine g_iretI hC hRt rfl dX7_layPress_97 ?_
          refine ⟨?_, hm35.1, fun j hj => ?_⟩
          · refine congrArg nI (cnB_rest (by omega) (fun j h1 h2 => ?_)).symm
            simp only [hit, decide_eq_false_iff_not]
            rw [arv_out (by omega)]; decide
          · rw [hm35.2 j hj]
            split
            · rfl
            · rw [arv_out (by omega)]
        · have bt := hI.t (show t < 5 by omega)
          have bp := prs_le g p t
          have hin : inS g t = true := inS_iff.mpr ⟨ht2, h43⟩
          refine g_iload_3 hC dX7_layPress_46 (pc' := 47) rfl ?_
          refine g_if_le hC dX7_layPress_47 (pc' := 50) (tgt := 96) (by decide) rfl (fun h47 => ?_) (fun h47 => ?_)
          · refine g_iload_2 hC dX7_layPress_96 (pc' := 97) rfl ?_
            refine g_iretI hC hRt rfl dX7_layPress_97 ?_
            refine ⟨?_, hm35.1, fun j hj => ?_⟩
            · refine congrArg nI (cnB_rest (by omega) (fun j h1 h2 => ?_)).symm
              simp only [hit, decide_eq_false_iff_not]
              rw [arv_0 (hq.2 (Int32.not_lt.mpr h47)) (by omega)]; decide
            · rw [hm35.2 j hj]
              split
              · rfl
              · rw [arv_0 (hq.2 (Int32.not_lt.mpr h47)) (by omega)]
          · have hx0 : 0 < x := Int32.not_le.mp h47
            obtain rfl := hq.1 hx0
            have hpos : 0 < prs g p t := (nI_gt0 (by omega)).mp hx0
            refine g_aload_0 hC dX7_layPress_50 (pc' := 51) rfl ?_
            refine g_getR hC fl_X7_29 (sh_M ad) rfl dX7_layPress_51 (pc' := 54) rfl ?_
            refine g_iload_4 hC dX7_layPress_54 (pc' := 56) rfl ?_
            refine g_iload_3 hC dX7_layPress_56 (pc' := 57) rfl ?_
            refine g_iast hC (sh_mcomes ad) (Nat.le_of_ble_eq_true rfl) (by omega) dX7_layPress_57 (pc' := 58) rfl ?_
            refine g_iinc_2 hC dX7_layPress_58 (pc' := 61) rfl (Nat.le_of_ble_eq_true rfl) rfl (nI_inc _ _ kc_iinc_1) ?_
            refine g_aload_0 hC dX7_layPress_61 (pc' := 62) rfl ?_
            refine g_getR hC fl_X7_7 (sh_M ad) rfl dX7_layPress_62 (pc' := 65) rfl ?_
            refine g_bipush hC dX7_layPress_65 (pc' := 67) kc_bipush_9 rfl ?_
            refine g_iload_4 hC dX7_layPress_67 (pc' := 69) rfl ?_
            refine g_iaddN hC dX7_layPress_69 (pc' := 70) rfl ?_
            refine g_iald hC (sh_mnow ad) (Nat.le_of_ble_eq_true rfl) (by omega) ((hR.of (hm35.1 202 (by decide))).at (by omega) (by omega)) dX7_layPress_70 (pc' := 71) rfl ?_
            refine g_ifN_le hC dX7_layPress_71 (pc' := 74) (tgt := 88) (by decide) rfl (by omega) (fun h71 => ?_) (fun h71 => ?_)
            · refine g_iconst hC dX7_layPress_88 (pc' := 89) kc_iconst_0 rfl ?_
              refine g_istore_3 hC dX7_layPress_89 (pc' := 90) rfl (Nat.le_of_ble_eq_true rfl) rfl ?_
              refine g_iinc_4 hC dX7_layPress_90 (pc' := 93) rfl (Nat.le_of_ble_eq_true rfl) rfl (nI_inc _ _ kc_iinc_1) ?_
              refine g_goto hC dX7_layPress_93 (tgt := 35) (by decide) ?_
              exact g_weak (ih35 (by omega) (by omega) ((nI 0)) (by rw [prs_in hin]; simp only [h71, Nat.lt_irrefl, if_false]; exact isPr_n (by omega)) _ (by exact lp_mem2 hm35 (by rw [arv_in (by omega)]))) (gle_s (gle_s (gle_i (by exact congrArg nI (cnB_t (by simp only [hit, arv_in (show g 2 ≤ t ∧ t < g 3 from ⟨ht2, h43⟩)]; exact decide_eq_true hpos))) (gle_i (by rfl) (gle_i (by first | rfl | omega) gle_nil)))))
            · refine g_iload_3 hC dX7_layPress_74 (pc' := 75) rfl ?_
              refine g_aload_0 hC dX7_layPress_75 (pc' := 76) rfl ?_
              refine g_getR hC fl_X7_7 (sh_M ad) rfl dX7_layPress_76 (pc' := 79) rfl ?_
              refine g_iconst hC dX7_layPress_79 (pc' := 80) kc_iconst_4 rfl ?_
              refine g_iload_4 hC dX7_layPress_80 (pc' := 82) rfl ?_
              refine g_iaddN hC dX7_layPress_82 (pc' := 83) rfl ?_
              refine g_iald hC (sh_mnow ad) (Nat.le_of_ble_eq_true rfl) (by omega) ((hR.of (hm35.1 202 (by decide))).at (by omega) (by omega)) dX7_layPress_83 (pc' := 84) rfl ?_
              refine g_isub hC dX7_layPress_84 (pc' := 85) rfl ?_
              refine g_goto hC dX7_layPress_85 (tgt := 89) (by decide) ?_
              refine g_istore_3 hC dX7_layPress_89 (pc' := 90) rfl (Nat.le_of_ble_eq_true rfl) rfl ?_
              refine g_iinc_4 hC dX7_layPress_90 (pc' := 93) rfl (Nat.le_of_ble_eq_true rfl) rfl (nI_inc _ _ kc_iinc_1) ?_
              refine g_goto hC dX7_layPress_93 (tgt := 35) (by decide) ?_
              exact g_weak (ih35 (by omega) (by omega) (((nI (prs g p t)) - (nI (g (4 + t))))) (by rw [prs_in hin]; rw [if_pos h71]; exact isPr_sub (by omega) (by omega)) _ (by exact lp_mem2 hm35 (by rw [arv_in (by omega)]))) (gle_s (gle_s (gle_i (by exact congrArg nI (cnB_t (by simp only [hit, arv_in (show g 2 ≤ t ∧ t < g 3 from ⟨ht2, h43⟩)]; exact decide_eq_true hpos))) (gle_i (by rfl) (gle_i (by first | rfl | omega) gle_nil)))))
      have hk5 : k = 5 := by omega
      subst hk5
      exact g_weak (L35 (g 2) (by omega) (Nat.le_refl _) (nI p) (by rw [prs_top g p (g 2) (Nat.le_refl _)]; exact isPr_n (by omega)) _ (by exact lp_mem0 hm7)) (gle_s (gle_s (gle_i (by rw [cnB_0 (fun k hk => by simp only [hit, arv_out (show ¬ (g 2 ≤ k ∧ k < g 3) by omega)]; decide)]) (gle_i (by rfl) (gle_i (by first | rfl | omega) gle_nil)))))
    · refine g_aload_0 hC dX7_layPress_13 (pc' := 14) rfl ?_
      refine g_getR hC fl_X7_29 (sh_M ad) rfl dX7_layPress_14 (pc' := 17) rfl ?_
      refine g_iload_4 hC dX7_layPress_17 (pc' := 19) rfl ?_
      refine g_iconst hC dX7_layPress_19 (pc' := 20) kc_iconst_0 rfl ?_
      refine g_iast hC (sh_mcomes ad) (Nat.le_of_ble_eq_true rfl) (by omega) dX7_layPress_20 (pc' := 21) rfl ?_
      refine g_iinc_4 hC dX7_layPress_21 (pc' := 24) rfl (Nat.le_of_ble_eq_true rfl) rfl (nI_inc _ _ kc_iinc_1) ?_
      refine g_goto hC dX7_layPress_24 (tgt := 7) (by decide) ?_
      exact g_weak (ih7 (by omega) _ (by exact lp_mem1 hm7)) (gle_s (gle_s (gle_s (gle_s (gle_i (by first | rfl | omega) gle_nil)))))
  exact g_weak (L7 0 (by exact Nat.zero_le _) _ (by exact ⟨fun _ _ => rfl, fun j hj => absurd hj (Nat.not_lt_zero j)⟩)) (gle_s (gle_s (gle_s (gle_s (gle_s gle_nil)))))

set_option maxHeartbeats 4000000 in
set_option maxRecDepth 100000 in
theorem c_usePress {l : Launch} {ad : Nat → Nat} {X : gX} {n : Nat} {g : Nat → Nat} (hn : 1 ≤ n ∧ g 2 + n ≤ 5) (hu : ∀ k, k < n - 1 → 1 ≤ g (9 + g 2 + k)) (hR : RM X g) (hI : Inv g) : K_X7_usePress l ad [.ref 201, .int (nI n)] X (fun X' => RM X' (uz g (n - 1)) ∧ ∀ i, i ≠ 202 → X' i = X i) := by
  refine Ct.of [.ref 201, .int (nI n), .null] 1 (by decide +kernel) rfl (Nat.le_of_ble_eq_true rfl) (fun F hl hC hRt _ => ?_)
  subst hl
  refine g_iconst hC dX7_usePress_0 (pc' := 1) kc_iconst_0 rfl ?_
  refine g_istore_2 hC dX7_usePress_1 (pc' := 2) rfl (Nat.le_of_ble_eq_true rfl) rfl ?_
  have L2 : ∀ k, k ≤ n - 1 → ∀ X1 : gX, (RM X1 (uz g k) ∧ ∀ i, i ≠ 202 → X1 i = X i) → G F (S0 ad) (0, 0) X1 2 [.ref 201, .int (nI n), .int (nI k)] [] := by
    refine up_ind _ (fun k hk2 ih2 => ?_)
    intro X1 hm2
    refine g_iload_2 hC dX7_usePress_2 (pc' := 3) rfl ?_
    refine g_iload_1 hC dX7_usePress_3 (pc' := 4) rfl ?_
    refine g_iconst hC dX7_usePress_4 (pc' := 5) kc_iconst_1 rfl ?_
    refine g_isubN hC dX7_usePress_5 (pc' := 6) rfl (by omega) ?_
    refine g_icmpN_ge hC dX7_usePress_6 (pc' := 9) (tgt := 35) (by decide) rfl (by omega) (by omega) (fun h6 => ?_) (fun h6 => ?_)
    · refine g_vretV hC hRt dX7_usePress_35 ?_
      rw [show k = n - 1 by omega] at hm2
      exact hm2
    · have h22 : X1 202 2 = nI (g 2) := (hm2.1.at (by decide) (by decide)).trans (by unfold uz; rw [if_neg (by omega)])
      have hv2 : X1 202 (9 + g 2 + k) = nI (g (9 + g 2 + k)) := (hm2.1.at (by omega) (by omega)).trans (by unfold uz; rw [if_neg (by omega)])
      have := hu k (by omega)
      refine g_aload_0 hC dX7_usePress_9 (pc' := 10) rfl ?_
      refine g_getR hC fl_X7_7 (sh_M ad) rfl dX7_usePress_10 (pc' := 13) rfl ?_
      refine g_bipush hC dX7_usePress_13 (pc' := 15) kc_bipush_9 rfl ?_
      refine g_aload_0 hC dX7_usePress_15 (pc' := 16) rfl ?_
      refine g_getR hC fl_X7_7 (sh_M ad) rfl dX7_usePress_16 (pc' := 19) rfl ?_
      refine g_iconst hC dX7_usePress_19 (pc' := 20) kc_iconst_2 rfl ?_
      refine g_iald hC (sh_mnow ad) (Nat.le_of_ble_eq_true rfl) (by omega) (h22) dX7_usePress_20 (pc' := 21) rfl ?_
      refine g_iaddN hC dX7_usePress_21 (pc' := 22) rfl ?_
      refine g_iload_2 hC dX7_usePress_22 (pc' := 23) rfl ?_
      refine g_iaddN hC dX7_usePress_23 (pc' := 24) rfl ?_
      refine g_dup2 hC dX7_usePress_24 (pc' := 25) rfl rfl rfl ?_
      refine g_iald hC (sh_mnow ad) (Nat.le_of_ble_eq_true rfl) (by omega) (hv2) dX7_usePress_25 (pc' := 26) rfl ?_
      refine g_iconst hC dX7_usePress_26 (pc' := 27) kc_iconst_1 rfl ?_
      refine g_isubN hC dX7_usePress_27 (pc' := 28) rfl (by omega) ?_
      refine g_iast hC (sh_mnow ad) (Nat.le_of_ble_eq_true rfl) (by omega) dX7_usePress_28 (pc' := 29) rfl ?_
      refine g_iinc_2 hC dX7_usePress_29 (pc' := 32) rfl (Nat.le_of_ble_eq_true rfl) rfl (nI_inc _ _ kc_iinc_1) ?_
      refine g_goto hC dX7_usePress_32 (tgt := 2) (by decide) ?_
      exact g_weak (ih2 (by omega) _ (by exact ⟨(hm2.1.upd (by omega)).congr (fun j hj => uz_step), fun i hi => (gu_ne i hi).trans (hm2.2 i hi)⟩)) (gle_s (gle_s (gle_i (by first | rfl | omega) gle_nil)))
  exact g_weak (L2 0 (by exact Nat.zero_le _) _ (by exact ⟨hR.congr (fun j _ => by unfold uz; rw [if_neg (by omega)]), fun _ _ => rfl⟩)) (gle_s (gle_s (gle_s gle_nil)))

set_option maxHeartbeats 4000000 in
set_option maxRecDepth 100000 in
theorem c_addMark {l : Launch} {ad : Nat → Nat} {X : gX} {s f v p : Nat} {g : Nat → Nat} (hs : s < 5) (hf : f < 10) (hc : cnt g s f < 8) (hR : RM X g) : K_X7_addMark l ad [.ref 201, .int (nI s), .int (nI f), .int (nI v), .int (nI p)] X (fun X' => RM X' (addm g s f v p) ∧ ∀ i, i ≠ 202 → X' i = X i) := by
  refine Ct.of [.ref 201, .int (nI s), .int (nI f), .int (nI v), .int (nI p)] 0 (by decide +kernel) rfl (Nat.le_of_ble_eq_true rfl) (fun F hl hC hRt _ => ?_)
  subst hl
  refine g_aload_0 hC dX7_addMark_0 (pc' := 1) rfl ?_
  refine g_getR hC fl_X7_7 (sh_M ad) rfl dX7_addMark_1 (pc' := 4) rfl ?_
  refine g_bipush hC dX7_addMark_4 (pc' := 6) kc_bipush_70 rfl ?_
  refine g_bipush hC dX7_addMark_6 (pc' := 8) kc_bipush_8 rfl ?_
  refine g_iload_1 hC dX7_addMark_8 (pc' := 9) rfl ?_
  refine g_iload_2 hC dX7_addMark_9 (pc' := 10) rfl ?_
  refine g_callS2R hC (c_spot) ml_X7_57 ⟨(Nat.le_of_ble_eq_true rfl), (Nat.le_of_ble_eq_true rfl)⟩ (Nat.le_of_ble_eq_true rfl) dX7_addMark_10 (pc' := 13) rfl ⟨Nat.zero_le _, Nat.zero_le _⟩ ?_
  refine g_imulN hC dX7_addMark_13 (pc' := 14) rfl ?_
  refine g_iaddN hC dX7_addMark_14 (pc' := 15) rfl ?_
  refine g_aload_0 hC dX7_addMark_15 (pc' := 16) rfl ?_
  refine g_iload_1 hC dX7_addMark_16 (pc' := 17) rfl ?_
  refine g_iload_2 hC dX7_addMark_17 (pc' := 18) rfl ?_
  refine g_callV2R hC (c_many hs hf hR) ml_X7_61 (sh_M ad) rfl ⟨(Nat.le_of_ble_eq_true rfl), (Nat.le_of_ble_eq_true rfl)⟩ (Nat.le_of_ble_eq_true rfl) dX7_addMark_18 (pc' := 21) rfl ⟨Nat.zero_le _, Nat.zero_le _⟩ ?_
  refine g_iaddN hC dX7_addMark_21 (pc' := 22) rfl ?_
  refine g_bipush hC dX7_addMark_22 (pc' := 24) kc_bipush_20 rfl ?_
  refine g_iload_3 hC dX7_addMark_24 (pc' := 25) rfl ?_
  refine g_imulN hC dX7_addMark_25 (pc' := 26) rfl ?_
  refine g_iconst hC dX7_addMark_26 (pc' := 27) kc_iconst_2 rfl ?_
  refine g_iload_4 hC dX7_addMark_27 (pc' := 29) rfl ?_
  refine g_imulN hC dX7_addMark_29 (pc' := 30) rfl ?_
  refine g_iaddN hC dX7_addMark_30 (pc' := 31) rfl ?_
  refine g_iast hC (sh_mnow ad) (Nat.le_of_ble_eq_true rfl) (by omega) dX7_addMark_31 (pc' := 32) rfl ?_
  have hv2 : (gu X 202 ((70 + (8 * (10 * s + f))) + (cnt g s f)) ((nI ((20 * v) + (2 * p))))) 202 (20 + (10 * s + f)) = nI (cnt g s f) := (gu_other (by omega)).trans (hR.cnt hs hf)
  refine g_aload_0 hC dX7_addMark_32 (pc' := 33) rfl ?_
  refine g_getR hC fl_X7_7 (sh_M ad) rfl dX7_addMark_33 (pc' := 36) rfl ?_
  refine g_bipush hC dX7_addMark_36 (pc' := 38) kc_bipush_20 rfl ?_
  refine g_iload_1 hC dX7_addMark_38 (pc' := 39) rfl ?_
  refine g_iload_2 hC dX7_addMark_39 (pc' := 40) rfl ?_
  refine g_callS2R hC (c_spot) ml_X7_57 ⟨(Nat.le_of_ble_eq_true rfl), (Nat.le_of_ble_eq_true rfl)⟩ (Nat.le_of_ble_eq_true rfl) dX7_addMark_40 (pc' := 43) rfl ⟨Nat.zero_le _, Nat.zero_le _⟩ ?_
  refine g_iaddN hC dX7_addMark_43 (pc' := 44) rfl ?_
  refine g_dup2 hC dX7_addMark_44 (pc' := 45) rfl rfl rfl ?_
  refine g_iald hC (sh_mnow ad) (Nat.le_of_ble_eq_true rfl) (by omega) (hv2) dX7_addMark_45 (pc' := 46) rfl ?_
  refine g_iconst hC dX7_addMark_46 (pc' := 47) kc_iconst_1 rfl ?_
  refine g_iaddN hC dX7_addMark_47 (pc' := 48) rfl ?_
  refine g_iast hC (sh_mnow ad) (Nat.le_of_ble_eq_true rfl) (by omega) dX7_addMark_48 (pc' := 49) rfl ?_
  refine g_vretV hC hRt dX7_addMark_49 ?_
  exact ⟨((hR.upd (by omega)).upd (by omega)), fun i hi => (gu_ne i hi).trans (gu_ne i hi)⟩

set_option maxHeartbeats 4000000 in
set_option maxRecDepth 100000 in
theorem c_strikeAt {l : Launch} {ad : Nat → Nat} {X : gX} {s f q : Nat} {g : Nat → Nat} (hs : s < 5) (hf : f < 10) (hq : q ≤ 9) (hR : RM X g) (hI : Inv g) : K_X7_strikeAt l ad [.ref 201, .int (nI s), .int (nI f), .int (nI q)] X (fun v X' => v = nI (cnB (stt g s f q) (cnt g s f)) ∧ RM X' (stk g s f q) ∧ ∀ i, i ≠ 202 → X' i = X i) := by
  refine Ct.of [.ref 201, .int (nI s), .int (nI f), .int (nI q), .null, .null, .null] 3 (by decide +kernel) rfl (Nat.le_of_ble_eq_true rfl) (fun F hl hC hRt _ => ?_)
  subst hl
  have bc := hI.c hs hf
  refine g_iconst hC dX7_strikeAt_0 (pc' := 1) kc_iconst_0 rfl ?_
  refine g_istore_4 hC dX7_strikeAt_1 (pc' := 3) rfl (Nat.le_of_ble_eq_true rfl) rfl ?_
  refine g_iconst hC dX7_strikeAt_3 (pc' := 4) kc_iconst_0 rfl ?_
  refine g_istore_5 hC dX7_strikeAt_4 (pc' := 6) rfl (Nat.le_of_ble_eq_true rfl) rfl ?_
  have L6 : ∀ k, k ≤ cnt g s f → ∀ X1 : gX, (RM X1 (stz g (70 + 8 * (10 * s + f)) q k) ∧ ∀ i, i ≠ 202 → X1 i = X i) → G F (S0 ad) (0, 0) X1 6 [.ref 201, .int (nI s), .int (nI f), .int (nI q), .int (nI (cnB (stt g s f q) k)), .int (nI k), .null] [] := by
    refine up_ind _ (fun k hk6 ih6 => ?_)
    intro X1 hm6
    have hc1 : X1 202 (20 + (10 * s + f)) = nI (cnt g s f) := (hm6.1.at (by omega) (by omega)).trans (congrArg nI (stz_ge (by omega)))
    refine g_iload_5 hC dX7_strikeAt_6 (pc' := 8) rfl ?_
    refine g_aload_0 hC dX7_strikeAt_8 (pc' := 9) rfl ?_
    refine g_iload_1 hC dX7_strikeAt_9 (pc' := 10) rfl ?_
    refine g_iload_2 hC dX7_strikeAt_10 (pc' := 11) rfl ?_
    refine g_callV2R hC (c_manyV hs hf hc1) ml_X7_61 (sh_M ad) rfl ⟨(Nat.le_of_ble_eq_true rfl), (Nat.le_of_ble_eq_true rfl)⟩ (Nat.le_of_ble_eq_true rfl) dX7_strikeAt_11 (pc' := 14) rfl ⟨Nat.zero_le _, Nat.zero_le _⟩ ?_
    refine g_icmpN_ge hC dX7_strikeAt_14 (pc' := 17) (tgt := 76) (by decide) rfl (by omega) (by omega) (fun h14 => ?_) (fun h14 => ?_)
    · refine g_iload_4 hC dX7_strikeAt_76 (pc' := 78) rfl ?_
      refine g_iretI hC hRt rfl dX7_strikeAt_78 ?_
      rw [show k = cnt g s f by omega] at hm6 ⊢
      exact ⟨rfl, hm6⟩
    · have hk1 : X1 202 (70 + 8 * (10 * s + f) + k) = nI (mk g s f k) := (hm6.1.at (by omega) (by omega)).trans (congrArg nI (stz_ge (by omega)))
      have bm : mk g s f k < 20000 := hI.m hs hf (by omega)
      refine g_aload_0 hC dX7_strikeAt_17 (pc' := 18) rfl ?_
      refine g_iload_1 hC dX7_strikeAt_18 (pc' := 19) rfl ?_
      refine g_iload_2 hC dX7_strikeAt_19 (pc' := 20) rfl ?_
      refine g_iload_5 hC dX7_strikeAt_20 (pc' := 22) rfl ?_
      refine g_callV3R hC (c_markAtV hs hf (show k < 8 by omega) hk1) ml_X7_64 (sh_M ad) rfl ⟨(Nat.le_of_ble_eq_true rfl), (Nat.le_of_ble_eq_true rfl)⟩ (Nat.le_of_ble_eq_true rfl) dX7_strikeAt_22 (pc' := 25) rfl ⟨Nat.zero_le _, Nat.zero_le _⟩ ?_
      refine g_istore_6 hC dX7_strikeAt_25 (pc' := 27) rfl (Nat.le_of_ble_eq_true rfl) rfl ?_
      refine g_iload_6 hC dX7_strikeAt_27 (pc' := 29) rfl ?_
      refine g_callS1R hC (c_isStruck bm) ml_X7_68 ⟨(Nat.le_of_ble_eq_true rfl), (Nat.le_of_ble_eq_true rfl)⟩ (Nat.le_of_ble_eq_true rfl) dX7_strikeAt_29 (pc' := 32) rfl ⟨Nat.zero_le _, Nat.zero_le _⟩ ?_
      refine g_ifZ_ne hC dX7_strikeAt_32 (pc' := 35) (tgt := 70) (by decide) rfl (fun h32 => ?_) (fun h32 => ?_)
      · simp only [decide_eq_true_eq] at h32
        refine g_iinc_5 hC dX7_strikeAt_70 (pc' := 73) rfl (Nat.le_of_ble_eq_true rfl) rfl (nI_inc _ _ kc_iinc_1) ?_
        refine g_goto hC dX7_strikeAt_73 (tgt := 6) (by decide) ?_
        exact g_weak (ih6 (by omega) _ (by first | exact ⟨(hm6.1.upd (by omega)).congr (fun j hj => stz_step1 hj h32b (by omega)), fun i hi => (gu_ne i hi).trans (hm6.2 i hi)⟩ | exact ⟨hm6.1.congr (fun j hj => stz_step0 (by show ¬ (mk g s f k % 2 = 0 ∧ mk g s f k / 2 % 10 ≤ q); omega)), hm6.2⟩)) (gle_s (gle_s (gle_s (gle_s (gle_i (by simp [cnB, stt, *]) (gle_i (by first | rfl | omega) (gle_u gle_nil)))))))
      · simp only [decide_eq_false_iff_not] at h32
        have h32b : mk g s f k % 2 = 0 := by omega
        refine g_iload_6 hC dX7_strikeAt_35 (pc' := 37) rfl ?_
        refine g_callS1R hC (c_strengthOf bm) ml_X7_71 ⟨(Nat.le_of_ble_eq_true rfl), (Nat.le_of_ble_eq_true rfl)⟩ (Nat.le_of_ble_eq_true rfl) dX7_strikeAt_37 (pc' := 40) rfl ⟨Nat.zero_le _, Nat.zero_le _⟩ ?_
        refine g_iload_3 hC dX7_strikeAt_40 (pc' := 41) rfl ?_
        refine g_icmpN_gt hC dX7_strikeAt_41 (pc' := 44) (tgt := 70) (by decide) rfl (by omega) (by omega) (fun h41 => ?_) (fun h41 => ?_)
        · have h41b : ¬ mk g s f k / 2 % 10 ≤ q := by omega
          refine g_iinc_5 hC dX7_strikeAt_70 (pc' := 73) rfl (Nat.le_of_ble_eq_true rfl) rfl (nI_inc _ _ kc_iinc_1) ?_
          refine g_goto hC dX7_strikeAt_73 (tgt := 6) (by decide) ?_
          exact g_weak (ih6 (by omega) _ (by first | exact ⟨(hm6.1.upd (by omega)).congr (fun j hj => stz_step1 hj h32b (by omega)), fun i hi => (gu_ne i hi).trans (hm6.2 i hi)⟩ | exact ⟨hm6.1.congr (fun j hj => stz_step0 (by show ¬ (mk g s f k % 2 = 0 ∧ mk g s f k / 2 % 10 ≤ q); omega)), hm6.2⟩)) (gle_s (gle_s (gle_s (gle_s (gle_i (by simp [cnB, stt, *]) (gle_i (by first | rfl | omega) (gle_u gle_nil)))))))
        · refine g_aload_0 hC dX7_strikeAt_44 (pc' := 45) rfl ?_
          refine g_getR hC fl_X7_7 (sh_M ad) rfl dX7_strikeAt_45 (pc' := 48) rfl ?_
          refine g_bipush hC dX7_strikeAt_48 (pc' := 50) kc_bipush_70 rfl ?_
          refine g_bipush hC dX7_strikeAt_50 (pc' := 52) kc_bipush_8 rfl ?_
          refine g_iload_1 hC dX7_strikeAt_52 (pc' := 53) rfl ?_
          refine g_iload_2 hC dX7_strikeAt_53 (pc' := 54) rfl ?_
          refine g_callS2R hC (c_spot) ml_X7_57 ⟨(Nat.le_of_ble_eq_true rfl), (Nat.le_of_ble_eq_true rfl)⟩ (Nat.le_of_ble_eq_true rfl) dX7_strikeAt_54 (pc' := 57) rfl ⟨Nat.zero_le _, Nat.zero_le _⟩ ?_
          refine g_imulN hC dX7_strikeAt_57 (pc' := 58) rfl ?_
          refine g_iaddN hC dX7_strikeAt_58 (pc' := 59) rfl ?_
          refine g_iload_5 hC dX7_strikeAt_59 (pc' := 61) rfl ?_
          refine g_iaddN hC dX7_strikeAt_61 (pc' := 62) rfl ?_
          refine g_dup2 hC dX7_strikeAt_62 (pc' := 63) rfl rfl rfl ?_
          refine g_iald hC (sh_mnow ad) (Nat.le_of_ble_eq_true rfl) (by omega) (hk1) dX7_strikeAt_63 (pc' := 64) rfl ?_
          refine g_iconst hC dX7_strikeAt_64 (pc' := 65) kc_iconst_1 rfl ?_
          refine g_iaddN hC dX7_strikeAt_65 (pc' := 66) rfl ?_
          refine g_iast hC (sh_mnow ad) (Nat.le_of_ble_eq_true rfl) (by omega) dX7_strikeAt_66 (pc' := 67) rfl ?_
          refine g_iinc_4 hC dX7_strikeAt_67 (pc' := 70) rfl (Nat.le_of_ble_eq_true rfl) rfl (nI_inc _ _ kc_iinc_1) ?_
          refine g_iinc_5 hC dX7_strikeAt_70 (pc' := 73) rfl (Nat.le_of_ble_eq_true rfl) rfl (nI_inc _ _ kc_iinc_1) ?_
          refine g_goto hC dX7_strikeAt_73 (tgt := 6) (by decide) ?_
          exact g_weak (ih6 (by omega) _ (by first | exact ⟨(hm6.1.upd (by omega)).congr (fun j hj => stz_step1 hj h32b (by omega)), fun i hi => (gu_ne i hi).trans (hm6.2 i hi)⟩ | exact ⟨hm6.1.congr (fun j hj => stz_step0 (by show ¬ (mk g s f k % 2 = 0 ∧ mk g s f k / 2 % 10 ≤ q); omega)), hm6.2⟩)) (gle_s (gle_s (gle_s (gle_s (gle_i (by simp [cnB, stt, *]) (gle_i (by first | rfl | omega) (gle_u gle_nil)))))))
  exact g_weak (L6 0 (by exact Nat.zero_le _) _ (by exact ⟨hR.congr (fun j _ => (by unfold stz; rw [if_neg (by omega)])), fun _ _ => rfl⟩)) (gle_s (gle_s (gle_s (gle_s (gle_i (by rfl) (gle_s (gle_u gle_nil)))))))
