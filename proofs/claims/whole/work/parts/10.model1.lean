/-! the state as the model holds it: one row of numbers g; cell 3 holds one less than g 3 -/
def ar (g : Nat → Nat) (j : Nat) : Int32 := if j = 3 then lI (g 3) else nI (g j)
def RM (X : gX) (g : Nat → Nat) : Prop := ∀ j, j < 470 → X 202 j = ar g j
theorem RM.at {X : gX} {g : Nat → Nat} (h : RM X g) {j : Nat} (hj : j < 470) (h3 : j ≠ 3) : X 202 j = nI (g j) := by rw [h j hj]; simp [ar, h3]
theorem RM.low {X : gX} {g : Nat → Nat} (h : RM X g) : X 202 3 = lI (g 3) := h 3 (by decide)
def cnt (g : Nat → Nat) (s f : Nat) : Nat := g (20 + (10 * s + f))
def mk (g : Nat → Nat) (s f k : Nat) : Nat := g (70 + 8 * (10 * s + f) + k)
theorem RM.cnt {X : gX} {g : Nat → Nat} (h : RM X g) {s f : Nat} (hs : s < 5) (hf : f < 10) : X 202 (20 + (10 * s + f)) = nI (cnt g s f) := h.at (by omega) (by omega)
theorem RM.mk {X : gX} {g : Nat → Nat} (h : RM X g) {s f k : Nat} (hs : s < 5) (hf : f < 10) (hk : k < 8) : X 202 (70 + 8 * (10 * s + f) + k) = nI (mk g s f k) := h.at (by omega) (by omega)
def Inv (g : Nat → Nat) : Prop := ((1 ≤ g 0 ∧ g 0 ≤ 9) ∧ g 1 ≤ 5 ∧ g 2 ≤ g 3 ∧ g 3 ≤ 5) ∧ (∀ t, t < 5 → g (4 + t) ≤ 4 ∧ g (9 + t) ≤ 300 ∧ g (14 + t) < 1024) ∧ (∀ s f, s < 5 → f < 10 → cnt g s f ≤ 8) ∧ (∀ s f k, s < 5 → f < 10 → k < 8 → mk g s f k < 20000) ∧ ∀ s f k, s < 5 → f < 10 → k < cnt g s f → 1 ≤ mk g s f k / 2 % 10
theorem Inv.c {g : Nat → Nat} (h : Inv g) {s f : Nat} (hs : s < 5) (hf : f < 10) : cnt g s f ≤ 8 := h.2.2.1 s f hs hf
theorem Inv.m {g : Nat → Nat} (h : Inv g) {s f k : Nat} (hs : s < 5) (hf : f < 10) (hk : k < 8) : mk g s f k < 20000 := h.2.2.2.1 s f k hs hf hk
theorem Inv.p {g : Nat → Nat} (h : Inv g) {s f k : Nat} (hs : s < 5) (hf : f < 10) (hk : k < cnt g s f) : 1 ≤ mk g s f k / 2 % 10 := h.2.2.2.2 s f k hs hf hk
def inB (v a b : Int32) : Bool := decide (a ≤ v) && decide (v ≤ b)
theorem inB_iff {v a b : Int32} : inB v a b = true ↔ a ≤ v ∧ v ≤ b := by simp [inB]
theorem inB_f1 {v a b : Int32} (h : v < a) : inB v a b = false := by
  have h2 : ¬ a ≤ v := Int32.not_le.mpr h
  simp [inB, h2]
theorem inB_f2 {v a b : Int32} (h : b < v) : inB v a b = false := by
  have h2 : ¬ v ≤ b := Int32.not_le.mpr h
  simp [inB, h2]
theorem inB_N {v : Int32} {a b : Nat} (hb : b < 1073741824) (h : inB v (nI a) (nI b) = true) (ha : a < 1073741824) : ∃ n, v = nI n ∧ a ≤ n ∧ n ≤ b := by
  obtain ⟨h1, h2⟩ := inB_iff.mp h
  have hz : ¬ v < 0 := by
    rw [Int32.le_iff_toInt_le, nI_toInt (by omega)] at h1
    rw [Int32.lt_iff_toInt_lt]
    simp; omega
  obtain ⟨j, hj, rfl⟩ := nI_of hz
  exact ⟨j, rfl, (nI_leD (by omega) hj).mp h1, (nI_leD hj (by omega)).mp h2⟩
theorem inB_nI {n a b : Nat} (hn : n < 1073741824) (ha : a < 1073741824) (hb : b < 1073741824) : inB (nI n) (nI a) (nI b) = (decide (a ≤ n) && decide (n ≤ b)) := by
  simp only [inB, nI_leD (show a < 2147483648 by omega) (show n < 2147483648 by omega), nI_leD (show n < 2147483648 by omega) (show b < 2147483648 by omega)]
def inS (g : Nat → Nat) (s : Nat) : Bool := decide (g 2 ≤ s) && decide (s < g 3)
theorem inB_st {g : Nat → Nat} {s : Nat} (hs : s < 1073741824) (h2 : g 2 < 1073741824) (h3 : g 3 < 1073741824) : inB (nI s) (nI (g 2)) (lI (g 3)) = inS g s := by
  simp only [inB, inS, nI_leD (show g 2 < 2147483648 by omega) (show s < 2147483648 by omega), lI_le h3 hs]
theorem inS_iff {g : Nat → Nat} {s : Nat} : inS g s = true ↔ g 2 ≤ s ∧ s < g 3 := by simp [inS]
/-- readable -/
def rdb (g : Nat → Nat) (m : Nat) : Bool := decide (m % 2 = 0) && decide (g 0 ≤ m / 2 % 10)
def rd (g : Nat → Nat) (s f k : Nat) : Bool := rdb g (mk g s f k)
def last (g : Nat → Nat) (s f : Nat) : Nat := upto (rd g s f) (cnt g s f)
/-- a place, or none -/
def oI (n : Nat) : Int32 := if n = 0 then -6 else nI (n - 1)
theorem oI_s (n : Nat) : oI (n + 1) = nI n := rfl
theorem oI_neg {n : Nat} (hn : n < 1073741824) : oI n < 0 ↔ n = 0 := by
  cases n with
  | zero => decide
  | succ n => rw [oI_s]; have := nI_pos (n := n) (by omega); simp [this]
def own (g : Nat → Nat) (s f : Nat) : Nat := mk g s f (last g s f - 1)
def blur (g : Nat → Nat) (s f k : Nat) : Bool := rd g s f k && (decide (mk g s f k / 20 ≠ own g s f / 20) && decide (own g s f / 2 % 10 + g 1 < mk g s f k / 2 % 10))
def kind (g : Nat → Nat) (s f : Nat) : Nat := if last g s f = 0 then 0 else if anB (blur g s f) (last g s f - 1) then 2 else 1
def valI (g : Nat → Nat) (s f : Nat) : Int32 := if last g s f = 0 then -6 else nI (own g s f / 20)
def strI (g : Nat → Nat) (s f : Nat) : Int32 := if last g s f = 0 then -6 else nI (own g s f / 2 % 10)
theorem kind_le (g : Nat → Nat) (s f : Nat) : kind g s f ≤ 2 := by
  unfold kind
  split
  · omega
  · split <;> omega
theorem last_le (g : Nat → Nat) (s f : Nat) : last g s f ≤ cnt g s f := upto_le _ _

set_option maxHeartbeats 4000000 in
set_option maxRecDepth 100000 in
theorem c_in {l : Launch} {ad : Nat → Nat} {X : gX} {v a b : Int32} : K_X7_in l ad [.int (v), .int (a), .int (b)] X (pR X (zI (inB v a b))) := by
  refine Ct.of [.int (v), .int (a), .int (b)] 0 (by decide +kernel) rfl (Nat.le_of_ble_eq_true rfl) (fun F hl hC hRt _ => ?_)
  subst hl
  refine g_iload_0 hC dX7_in_0 (pc' := 1) rfl ?_
  refine g_iload_1 hC dX7_in_1 (pc' := 2) rfl ?_
  refine g_icmp_lt hC dX7_in_2 (pc' := 5) (tgt := 14) (by decide) rfl (fun h2 => ?_) (fun h2 => ?_)
  · refine g_iconst hC dX7_in_14 (pc' := 15) kc_iconst_0 rfl ?_
    refine g_iretR hC hRt nz_0 dX7_in_15 (nI0_z ?_)
    first | exact inB_iff.mpr ⟨Int32.not_lt.mp h2, Int32.not_lt.mp h7⟩ | exact inB_f1 h2 | exact inB_f2 h7
  · refine g_iload_0 hC dX7_in_5 (pc' := 6) rfl ?_
    refine g_iload_2 hC dX7_in_6 (pc' := 7) rfl ?_
    refine g_icmp_gt hC dX7_in_7 (pc' := 10) (tgt := 14) (by decide) rfl (fun h7 => ?_) (fun h7 => ?_)
    · refine g_iconst hC dX7_in_14 (pc' := 15) kc_iconst_0 rfl ?_
      refine g_iretR hC hRt nz_0 dX7_in_15 (nI0_z ?_)
      first | exact inB_iff.mpr ⟨Int32.not_lt.mp h2, Int32.not_lt.mp h7⟩ | exact inB_f1 h2 | exact inB_f2 h7
    · refine g_iconst hC dX7_in_10 (pc' := 11) kc_iconst_1 rfl ?_
      refine g_goto hC dX7_in_11 (tgt := 15) (by decide) ?_
      refine g_iretR hC hRt nz_1 dX7_in_15 (nI1_z ?_)
      first | exact inB_iff.mpr ⟨Int32.not_lt.mp h2, Int32.not_lt.mp h7⟩ | exact inB_f1 h2 | exact inB_f2 h7

set_option maxHeartbeats 4000000 in
set_option maxRecDepth 100000 in
theorem c_isSheet {l : Launch} {ad : Nat → Nat} {X : gX} {v : Int32} : K_X7_isSheet l ad [.int (v)] X (pR X (zI (inB v (nI 0) (nI 4)))) := by
  refine Ct.of [.int (v)] 0 (by decide +kernel) rfl (Nat.le_of_ble_eq_true rfl) (fun F hl hC hRt _ => ?_)
  subst hl
  refine g_iload_0 hC dX7_isSheet_0 (pc' := 1) rfl ?_
  refine g_iconst hC dX7_isSheet_1 (pc' := 2) kc_iconst_0 rfl ?_
  refine g_iconst hC dX7_isSheet_2 (pc' := 3) kc_iconst_4 rfl ?_
  refine g_callS3R hC (c_in) ml_X7_43 ⟨(Nat.le_of_ble_eq_true rfl), (Nat.le_of_ble_eq_true rfl)⟩ (Nat.le_of_ble_eq_true rfl) dX7_isSheet_3 (pc' := 6) rfl ⟨Nat.zero_le _, Nat.zero_le _⟩ ?_
  refine g_iretR hC hRt (nz_z _) dX7_isSheet_6 ?_
  first | rfl | simp_all | omega

set_option maxHeartbeats 4000000 in
set_option maxRecDepth 100000 in
theorem c_isField {l : Launch} {ad : Nat → Nat} {X : gX} {v : Int32} : K_X7_isField l ad [.int (v)] X (pR X (zI (inB v (nI 0) (nI 9)))) := by
  refine Ct.of [.int (v)] 0 (by decide +kernel) rfl (Nat.le_of_ble_eq_true rfl) (fun F hl hC hRt _ => ?_)
  subst hl
  refine g_iload_0 hC dX7_isField_0 (pc' := 1) rfl ?_
  refine g_iconst hC dX7_isField_1 (pc' := 2) kc_iconst_0 rfl ?_
  refine g_bipush hC dX7_isField_2 (pc' := 4) kc_bipush_9 rfl ?_
  refine g_callS3R hC (c_in) ml_X7_43 ⟨(Nat.le_of_ble_eq_true rfl), (Nat.le_of_ble_eq_true rfl)⟩ (Nat.le_of_ble_eq_true rfl) dX7_isField_4 (pc' := 7) rfl ⟨Nat.zero_le _, Nat.zero_le _⟩ ?_
  refine g_iretR hC hRt (nz_z _) dX7_isField_7 ?_
  first | rfl | simp_all | omega

set_option maxHeartbeats 4000000 in
set_option maxRecDepth 100000 in
theorem c_isInStack {l : Launch} {ad : Nat → Nat} {X : gX} {s : Nat} {g : Nat → Nat} (hs : s < 5) (hR : RM X g) (hI : Inv g) : K_X7_isInStack l ad [.ref 201, .int (nI s)] X (pR X (zI (inS g s))) := by
  refine Ct.of [.ref 201, .int (nI s)] 0 (by decide +kernel) rfl (Nat.le_of_ble_eq_true rfl) (fun F hl hC hRt _ => ?_)
  subst hl
  have b23 : g 2 ≤ g 3 ∧ g 3 ≤ 5 := hI.1.2.2
  refine g_iload_1 hC dX7_isInStack_0 (pc' := 1) rfl ?_
  refine g_aload_0 hC dX7_isInStack_1 (pc' := 2) rfl ?_
  refine g_getR hC fl_X7_7 (sh_M ad) rfl dX7_isInStack_2 (pc' := 5) rfl ?_
  refine g_iconst hC dX7_isInStack_5 (pc' := 6) kc_iconst_2 rfl ?_
  refine g_iald hC (sh_mnow ad) (Nat.le_of_ble_eq_true rfl) (by omega) (hR.at (by decide) (by decide)) dX7_isInStack_6 (pc' := 7) rfl ?_
  refine g_aload_0 hC dX7_isInStack_7 (pc' := 8) rfl ?_
  refine g_getR hC fl_X7_7 (sh_M ad) rfl dX7_isInStack_8 (pc' := 11) rfl ?_
  refine g_iconst hC dX7_isInStack_11 (pc' := 12) kc_iconst_3 rfl ?_
  refine g_iald hC (sh_mnow ad) (Nat.le_of_ble_eq_true rfl) (by omega) (hR.low) dX7_isInStack_12 (pc' := 13) rfl ?_
  refine g_callS3R hC (c_in) ml_X7_43 ⟨(Nat.le_of_ble_eq_true rfl), (Nat.le_of_ble_eq_true rfl)⟩ (Nat.le_of_ble_eq_true rfl) dX7_isInStack_13 (pc' := 16) rfl ⟨Nat.zero_le _, Nat.zero_le _⟩ ?_
  refine g_iretR hC hRt (nz_z _) dX7_isInStack_16 ?_
  rw [inB_st (by omega) (by omega) (by omega)]

set_option maxHeartbeats 4000000 in
set_option maxRecDepth 100000 in
theorem c_hasStack {l : Launch} {ad : Nat → Nat} {X : gX} {g : Nat → Nat} (hR : RM X g) (hI : Inv g) : K_X7_hasStack l ad [.ref 201] X (pR X (zI (decide (g 2 < g 3)))) := by
  refine Ct.of [.ref 201] 0 (by decide +kernel) rfl (Nat.le_of_ble_eq_true rfl) (fun F hl hC hRt _ => ?_)
  subst hl
  have b23 : g 2 ≤ g 3 ∧ g 3 ≤ 5 := hI.1.2.2
  refine g_aload_0 hC dX7_hasStack_0 (pc' := 1) rfl ?_
  refine g_getR hC fl_X7_7 (sh_M ad) rfl dX7_hasStack_1 (pc' := 4) rfl ?_
  refine g_iconst hC dX7_hasStack_4 (pc' := 5) kc_iconst_2 rfl ?_
  refine g_iald hC (sh_mnow ad) (Nat.le_of_ble_eq_true rfl) (by omega) (hR.at (by decide) (by decide)) dX7_hasStack_5 (pc' := 6) rfl ?_
  refine g_aload_0 hC dX7_hasStack_6 (pc' := 7) rfl ?_
  refine g_getR hC fl_X7_7 (sh_M ad) rfl dX7_hasStack_7 (pc' := 10) rfl ?_
  refine g_iconst hC dX7_hasStack_10 (pc' := 11) kc_iconst_3 rfl ?_
  refine g_iald hC (sh_mnow ad) (Nat.le_of_ble_eq_true rfl) (by omega) (hR.low) dX7_hasStack_11 (pc' := 12) rfl ?_
  refine g_icmpL_gt hC dX7_hasStack_12 (pc' := 15) (tgt := 19) (by decide) rfl (by omega) (by omega) (fun h12 => ?_) (fun h12 => ?_)
  · refine g_iconst hC dX7_hasStack_19 (pc' := 20) kc_iconst_0 rfl ?_
    refine g_iretR hC hRt nz_0 dX7_hasStack_20 (nI0_z ?_)
    simp; omega
  · refine g_iconst hC dX7_hasStack_15 (pc' := 16) kc_iconst_1 rfl ?_
    refine g_goto hC dX7_hasStack_16 (tgt := 20) (by decide) ?_
    refine g_iretR hC hRt nz_1 dX7_hasStack_20 (nI1_z ?_)
    simp; omega

set_option maxHeartbeats 4000000 in
set_option maxRecDepth 100000 in
theorem c_spot {l : Launch} {ad : Nat → Nat} {X : gX} {s f : Nat} : K_X7_spot l ad [.int (nI s), .int (nI f)] X (pR X (nI (10 * s + f))) := by
  refine Ct.of [.int (nI s), .int (nI f)] 0 (by decide +kernel) rfl (Nat.le_of_ble_eq_true rfl) (fun F hl hC hRt _ => ?_)
  subst hl
  refine g_bipush hC dX7_spot_0 (pc' := 2) kc_bipush_10 rfl ?_
  refine g_iload_0 hC dX7_spot_2 (pc' := 3) rfl ?_
  refine g_imulN hC dX7_spot_3 (pc' := 4) rfl ?_
  refine g_iload_1 hC dX7_spot_4 (pc' := 5) rfl ?_
  refine g_iaddN hC dX7_spot_5 (pc' := 6) rfl ?_
  refine g_iretR hC hRt rfl dX7_spot_6 ?_
  first | rfl | simp_all | omega

set_option maxHeartbeats 4000000 in
set_option maxRecDepth 100000 in
theorem c_many {l : Launch} {ad : Nat → Nat} {X : gX} {s f : Nat} {g : Nat → Nat} (hs : s < 5) (hf : f < 10) (hR : RM X g) : K_X7_many l ad [.ref 201, .int (nI s), .int (nI f)] X (pR X (nI (cnt g s f))) := by
  refine Ct.of [.ref 201, .int (nI s), .int (nI f)] 0 (by decide +kernel) rfl (Nat.le_of_ble_eq_true rfl) (fun F hl hC hRt _ => ?_)
  subst hl
  refine g_aload_0 hC dX7_many_0 (pc' := 1) rfl ?_
  refine g_getR hC fl_X7_7 (sh_M ad) rfl dX7_many_1 (pc' := 4) rfl ?_
  refine g_bipush hC dX7_many_4 (pc' := 6) kc_bipush_20 rfl ?_
  refine g_iload_1 hC dX7_many_6 (pc' := 7) rfl ?_
  refine g_iload_2 hC dX7_many_7 (pc' := 8) rfl ?_
  refine g_callS2R hC (c_spot) ml_X7_57 ⟨(Nat.le_of_ble_eq_true rfl), (Nat.le_of_ble_eq_true rfl)⟩ (Nat.le_of_ble_eq_true rfl) dX7_many_8 (pc' := 11) rfl ⟨Nat.zero_le _, Nat.zero_le _⟩ ?_
  refine g_iaddN hC dX7_many_11 (pc' := 12) rfl ?_
  refine g_iald hC (sh_mnow ad) (Nat.le_of_ble_eq_true rfl) (by omega) (hR.cnt hs hf) dX7_many_12 (pc' := 13) rfl ?_
  refine g_iretR hC hRt rfl dX7_many_13 ?_
  first | rfl | simp_all | omega

set_option maxHeartbeats 4000000 in
set_option maxRecDepth 100000 in
theorem c_markAt {l : Launch} {ad : Nat → Nat} {X : gX} {s f k : Nat} {g : Nat → Nat} (hs : s < 5) (hf : f < 10) (hk : k < 8) (hR : RM X g) : K_X7_markAt l ad [.ref 201, .int (nI s), .int (nI f), .int (nI k)] X (pR X (nI (mk g s f k))) := by
  refine Ct.of [.ref 201, .int (nI s), .int (nI f), .int (nI k)] 0 (by decide +kernel) rfl (Nat.le_of_ble_eq_true rfl) (fun F hl hC hRt _ => ?_)
  subst hl
  refine g_aload_0 hC dX7_markAt_0 (pc' := 1) rfl ?_
  refine g_getR hC fl_X7_7 (sh_M ad) rfl dX7_markAt_1 (pc' := 4) rfl ?_
  refine g_bipush hC dX7_markAt_4 (pc' := 6) kc_bipush_70 rfl ?_
  refine g_bipush hC dX7_markAt_6 (pc' := 8) kc_bipush_8 rfl ?_
  refine g_iload_1 hC dX7_markAt_8 (pc' := 9) rfl ?_
  refine g_iload_2 hC dX7_markAt_9 (pc' := 10) rfl ?_
  refine g_callS2R hC (c_spot) ml_X7_57 ⟨(Nat.le_of_ble_eq_true rfl), (Nat.le_of_ble_eq_true rfl)⟩ (Nat.le_of_ble_eq_true rfl) dX7_markAt_10 (pc' := 13) rfl ⟨Nat.zero_le _, Nat.zero_le _⟩ ?_
  refine g_imulN hC dX7_markAt_13 (pc' := 14) rfl ?_
  refine g_iaddN hC dX7_markAt_14 (pc' := 15) rfl ?_
  refine g_iload_3 hC dX7_markAt_15 (pc' := 16) rfl ?_
  refine g_iaddN hC dX7_markAt_16 (pc' := 17) rfl ?_
  refine g_iald hC (sh_mnow ad) (Nat.le_of_ble_eq_true rfl) (by omega) (hR.mk hs hf hk) dX7_markAt_17 (pc' := 18) rfl ?_
  refine g_iretR hC hRt rfl dX7_markAt_18 ?_
  first | rfl | simp_all | omega

set_option maxHeartbeats 4000000 in
set_option maxRecDepth 100000 in
theorem c_valueOf {l : Launch} {ad : Nat → Nat} {X : gX} {m : Nat} (hm : m < 20000) : K_X7_valueOf l ad [.int (nI m)] X (pR X (nI (m / 20))) := by
  refine Ct.of [.int (nI m)] 0 (by decide +kernel) rfl (Nat.le_of_ble_eq_true rfl) (fun F hl hC hRt _ => ?_)
  subst hl
  refine g_iload_0 hC dX7_valueOf_0 (pc' := 1) rfl ?_
  refine g_bipush hC dX7_valueOf_1 (pc' := 3) kc_bipush_20 rfl ?_
  refine g_idivN hC dX7_valueOf_3 (pc' := 4) rfl (by omega) (by omega) (by omega) ?_
  refine g_iretR hC hRt rfl dX7_valueOf_4 ?_
  first | rfl | simp_all | omega

set_option maxHeartbeats 4000000 in
set_option maxRecDepth 100000 in
theorem c_strengthOf {l : Launch} {ad : Nat → Nat} {X : gX} {m : Nat} (hm : m < 20000) : K_X7_strengthOf l ad [.int (nI m)] X (pR X (nI (m / 2 % 10))) := by
  refine Ct.of [.int (nI m)] 0 (by decide +kernel) rfl (Nat.le_of_ble_eq_true rfl) (fun F hl hC hRt _ => ?_)
  subst hl
  refine g_iload_0 hC dX7_strengthOf_0 (pc' := 1) rfl ?_
  refine g_iconst hC dX7_strengthOf_1 (pc' := 2) kc_iconst_2 rfl ?_
  refine g_idivN hC dX7_strengthOf_2 (pc' := 3) rfl (by omega) (by omega) (by omega) ?_
  refine g_bipush hC dX7_strengthOf_3 (pc' := 5) kc_bipush_10 rfl ?_
  refine g_iremN hC dX7_strengthOf_5 (pc' := 6) rfl (by omega) (by omega) (by omega) ?_
  refine g_iretR hC hRt rfl dX7_strengthOf_6 ?_
  first | rfl | simp_all | omega

set_option maxHeartbeats 4000000 in
set_option maxRecDepth 100000 in
theorem c_isStruck {l : Launch} {ad : Nat → Nat} {X : gX} {m : Nat} (hm : m < 20000) : K_X7_isStruck l ad [.int (nI m)] X (pR X (zI (decide (m % 2 = 1)))) := by
  refine Ct.of [.int (nI m)] 0 (by decide +kernel) rfl (Nat.le_of_ble_eq_true rfl) (fun F hl hC hRt _ => ?_)
  subst hl
  refine g_iload_0 hC dX7_isStruck_0 (pc' := 1) rfl ?_
  refine g_iconst hC dX7_isStruck_1 (pc' := 2) kc_iconst_2 rfl ?_
  refine g_iremN hC dX7_isStruck_2 (pc' := 3) rfl (by omega) (by omega) (by omega) ?_
  refine g_iconst hC dX7_isStruck_3 (pc' := 4) kc_iconst_1 rfl ?_
  refine g_icmpN_ne hC dX7_isStruck_4 (pc' := 7) (tgt := 11) (by decide) rfl (by omega) (by omega) (fun h4 => ?_) (fun h4 => ?_)
  · refine g_iconst hC dX7_isStruck_11 (pc' := 12) kc_iconst_0 rfl ?_
    refine g_iretR hC hRt nz_0 dX7_isStruck_12 (nI0_z ?_)
    simp; omega
  · refine g_iconst hC dX7_isStruck_7 (pc' := 8) kc_iconst_1 rfl ?_
    refine g_goto hC dX7_isStruck_8 (tgt := 12) (by decide) ?_
    refine g_iretR hC hRt nz_1 dX7_isStruck_12 (nI1_z ?_)
    simp; omega

set_option maxHeartbeats 4000000 in
set_option maxRecDepth 100000 in
theorem c_isReadable {l : Launch} {ad : Nat → Nat} {X : gX} {m : Nat} {g : Nat → Nat} (hm : m < 20000) (hR : RM X g) (hI : Inv g) : K_X7_isReadable l ad [.ref 201, .int (nI m)] X (pR X (zI (rdb g m))) := by
  refine Ct.of [.ref 201, .int (nI m)] 0 (by decide +kernel) rfl (Nat.le_of_ble_eq_true rfl) (fun F hl hC hRt _ => ?_)
  subst hl
  have b0 := hI.1.1
  refine g_iload_1 hC dX7_isReadable_0 (pc' := 1) rfl ?_
  refine g_callS1R hC (c_isStruck hm) ml_X7_68 ⟨(Nat.le_of_ble_eq_true rfl), (Nat.le_of_ble_eq_true rfl)⟩ (Nat.le_of_ble_eq_true rfl) dX7_isReadable_1 (pc' := 4) rfl ⟨Nat.zero_le _, Nat.zero_le _⟩ ?_
  refine g_ifZ_ne hC dX7_isReadable_4 (pc' := 7) (tgt := 24) (by decide) rfl (fun h4 => ?_) (fun h4 => ?_)
  · refine g_iconst hC dX7_isReadable_24 (pc' := 25) kc_iconst_0 rfl ?_
    refine g_iretR hC hRt nz_0 dX7_isReadable_25 (nI0_z ?_)
    simp only [decide_eq_true_eq, decide_eq_false_iff_not] at *
    simp [rdb]
    omega
  · refine g_iload_1 hC dX7_isReadable_7 (pc' := 8) rfl ?_
    refine g_callS1R hC (c_strengthOf hm) ml_X7_71 ⟨(Nat.le_of_ble_eq_true rfl), (Nat.le_of_ble_eq_true rfl)⟩ (Nat.le_of_ble_eq_true rfl) dX7_isReadable_8 (pc' := 11) rfl ⟨Nat.zero_le _, Nat.zero_le _⟩ ?_
    refine g_aload_0 hC dX7_isReadable_11 (pc' := 12) rfl ?_
    refine g_getR hC fl_X7_7 (sh_M ad) rfl dX7_isReadable_12 (pc' := 15) rfl ?_
    refine g_iconst hC dX7_isReadable_15 (pc' := 16) kc_iconst_0 rfl ?_
    refine g_iald hC (sh_mnow ad) (Nat.le_of_ble_eq_true rfl) (by omega) (hR.at (by decide) (by decide)) dX7_isReadable_16 (pc' := 17) rfl ?_
    refine g_icmpN_lt hC dX7_isReadable_17 (pc' := 20) (tgt := 24) (by decide) rfl (by omega) (by omega) (fun h17 => ?_) (fun h17 => ?_)
    · refine g_iconst hC dX7_isReadable_24 (pc' := 25) kc_iconst_0 rfl ?_
      refine g_iretR hC hRt nz_0 dX7_isReadable_25 (nI0_z ?_)
      simp only [decide_eq_true_eq, decide_eq_false_iff_not] at *
      simp [rdb]
      omega
    · refine g_iconst hC dX7_isReadable_20 (pc' := 21) kc_iconst_1 rfl ?_
      refine g_goto hC dX7_isReadable_21 (tgt := 25) (by decide) ?_
      refine g_iretR hC hRt nz_1 dX7_isReadable_25 (nI1_z ?_)
      simp only [decide_eq_true_eq, decide_eq_false_iff_not] at *
      simp [rdb]
      omega

set_option maxHeartbeats 4000000 in
set_option maxRecDepth 100000 in
theorem c_lastAt {l : Launch} {ad : Nat → Nat} {X : gX} {s f : Nat} {g : Nat → Nat} (hs : s < 5) (hf : f < 10) (hR : RM X g) (hI : Inv g) : K_X7_lastAt l ad [.ref 201, .int (nI s), .int (nI f)] X (pR X (oI (last g s f))) := by
  refine Ct.of [.ref 201, .int (nI s), .int (nI f), .null, .null] 2 (by decide +kernel) rfl (Nat.le_of_ble_eq_true rfl) (fun F hl hC hRt _ => ?_)
  subst hl
  have bc := hI.c hs hf
  refine g_bipush hC dX7_lastAt_0 (pc' := 2) kc_bipush_m6 rfl ?_
  refine g_istore_3 hC dX7_lastAt_2 (pc' := 3) rfl (Nat.le_of_ble_eq_true rfl) rfl ?_
  refine g_iconst hC dX7_lastAt_3 (pc' := 4) kc_iconst_0 rfl ?_
  refine g_istore_4 hC dX7_lastAt_4 (pc' := 6) rfl (Nat.le_of_ble_eq_true rfl) rfl ?_
  have L6 : ∀ k, k ≤ cnt g s f → G F (S0 ad) (0, 0) X 6 [.ref 201, .int (nI s), .int (nI f), .int (oI (upto (rd g s f) k)), .int (nI k)] [] := by
    refine up_ind _ (fun k hk6 ih6 => ?_)
    refine g_iload_4 hC dX7_lastAt_6 (pc' := 8) rfl ?_
    refine g_aload_0 hC dX7_lastAt_8 (pc' := 9) rfl ?_
    refine g_iload_1 hC dX7_lastAt_9 (pc' := 10) rfl ?_
    refine g_iload_2 hC dX7_lastAt_10 (pc' := 11) rfl ?_
    refine g_callV2R hC (c_many hs hf hR) ml_X7_61 (sh_M ad) rfl ⟨(Nat.le_of_ble_eq_true rfl), (Nat.le_of_ble_eq_true rfl)⟩ (Nat.le_of_ble_eq_true rfl) dX7_lastAt_11 (pc' := 14) rfl ⟨Nat.zero_le _, Nat.zero_le _⟩ ?_
    refine g_icmpN_ge hC dX7_lastAt_14 (pc' := 17) (tgt := 45) (by decide) rfl (by omega) (by omega) (fun h14 => ?_) (fun h14 => ?_)
    · refine g_iload_3 hC dX7_lastAt_45 (pc' := 46) rfl ?_
      refine g_iretR hC hRt rfl dX7_lastAt_46 ?_
      rw [show k = cnt g s f by omega]; rfl
    · refine g_aload_0 hC dX7_lastAt_17 (pc' := 18) rfl ?_
      refine g_aload_0 hC dX7_lastAt_18 (pc' := 19) rfl ?_
      refine g_iload_1 hC dX7_lastAt_19 (pc' := 20) rfl ?_
      refine g_iload_2 hC dX7_lastAt_20 (pc' := 21) rfl ?_
      refine g_iload_4 hC dX7_lastAt_21 (pc' := 23) rfl ?_
      refine g_callV3R hC (c_markAt (k := k) hs hf (by omega) hR) ml_X7_64 (sh_M ad) rfl ⟨(Nat.le_of_ble_eq_true rfl), (Nat.le_of_ble_eq_true rfl)⟩ (Nat.le_of_ble_eq_true rfl) dX7_lastAt_23 (pc' := 26) rfl ⟨Nat.zero_le _, Nat.zero_le _⟩ ?_
      refine g_callV1R hC (c_isReadable (hI.m hs hf (by omega)) hR hI) ml_X7_105 (sh_M ad) rfl ⟨(Nat.le_of_ble_eq_true rfl), (Nat.le_of_ble_eq_true rfl)⟩ (Nat.le_of_ble_eq_true rfl) dX7_lastAt_26 (pc' := 29) rfl ⟨Nat.zero_le _, Nat.zero_le _⟩ ?_
      refine g_ifZ_eq hC dX7_lastAt_29 (pc' := 32) (tgt := 37) (by decide) rfl (fun h29 => ?_) (fun h29 => ?_)
      · refine g_iload_3 hC dX7_lastAt_37 (pc' := 38) rfl ?_
        refine g_istore_3 hC dX7_lastAt_38 (pc' := 39) rfl (Nat.le_of_ble_eq_true rfl) rfl ?_
        refine g_iinc_4 hC dX7_lastAt_39 (pc' := 42) rfl (Nat.le_of_ble_eq_true rfl) rfl (nI_inc _ _ kc_iinc_1) ?_
        refine g_goto hC dX7_lastAt_42 (tgt := 6) (by decide) ?_
        exact g_weak (ih6 (by omega)) (gle_s (gle_s (gle_s (gle_i (by simp only [upto, rd, h29, if_true, oI_s, if_false, Bool.false_eq_true]) (gle_i (by rfl) gle_nil)))))
      · refine g_iload_4 hC dX7_lastAt_32 (pc' := 34) rfl ?_
        refine g_goto hC dX7_lastAt_34 (tgt := 38) (by decide) ?_
        refine g_istore_3 hC dX7_lastAt_38 (pc' := 39) rfl (Nat.le_of_ble_eq_true rfl) rfl ?_
        refine g_iinc_4 hC dX7_lastAt_39 (pc' := 42) rfl (Nat.le_of_ble_eq_true rfl) rfl (nI_inc _ _ kc_iinc_1) ?_
        refine g_goto hC dX7_lastAt_42 (tgt := 6) (by decide) ?_
        exact g_weak (ih6 (by omega)) (gle_s (gle_s (gle_s (gle_i (by simp only [upto, rd, h29, if_true, oI_s, if_false, Bool.false_eq_true]) (gle_i (by rfl) gle_nil)))))
  exact g_weak (L6 0 (by exact Nat.zero_le _)) (gle_s (gle_s (gle_s (gle_i (by rfl) (gle_s gle_nil)))))
