/-- the states of the history, the oldest first: h i lies in the block that the array's place i names -/
def HC (X : gX) (n : Nat) (h : Nat → Nat → Nat) : Prop := X 42 0 = nI n ∧ n ≤ 6 ∧ ∃ p : Nat → Nat, (∀ j, j < 6 → p j < 6 ∧ X 43 j = nI (p j)) ∧ (∀ i j, i < 6 → j < 6 → p i = p j → i = j) ∧ ∀ i, i < n → RS X (44 + 19 * p i) (h i)
def fH (X X' : gX) : Prop := ∀ i, (i < 42 ∨ 158 ≤ i) → X' i = X i
theorem fH.rf {X : gX} : fH X X := fun _ _ => rfl
theorem HC.of {X Y : gX} {n : Nat} {h : Nat → Nat → Nat} (m : HC X n h) (e : ∀ i, 42 ≤ i → i < 158 → Y i = X i) : HC Y n h := by
  obtain ⟨h0, h1, p, hp, hi, hs⟩ := m
  refine ⟨by rw [e 42 (by decide) (by decide)]; exact h0, h1, p, fun j hj => ⟨(hp j hj).1, by rw [e 43 (by decide) (by decide)]; exact (hp j hj).2⟩, hi, fun i hin => ?_⟩
  have hpi := (hp i (by omega)).1
  exact (hs i hin).of (fun j a b _ => e j (by omega) (by omega))
theorem hc_push {X Y : gX} {m : Nat} {p : Nat → Nat} {g : Nat → Nat} {h : Nat → Nat → Nat} (hm : m < 6) (hp : ∀ j, j < 6 → p j < 6 ∧ X 43 j = nI (p j)) (hi : ∀ i j, i < 6 → j < 6 → p i = p j → i = j) (hs : ∀ i, i < m → RS X (44 + 19 * p i) (h i))
    (r : RS Y (44 + 19 * p m) g) (f : ∀ i, i ≠ 42 → (i < 44 + 19 * p m ∨ 44 + 19 * p m + 19 ≤ i) → Y i = X i) (e0 : Y 42 0 = nI (m + 1)) : HC Y (m + 1) (fun i => if i = m then g else h i) := by
  have hpm := (hp m hm).1
  refine ⟨e0, by omega, p, fun j hj => ⟨(hp j hj).1, by rw [f 43 (by decide) (by omega)]; exact (hp j hj).2⟩, hi, fun i hin => ?_⟩
  by_cases hz : i = m
  · subst hz
    show RS Y (44 + 19 * p i) (if i = i then g else h i)
    rw [if_pos rfl]; exact r
  · show RS Y (44 + 19 * p i) (if i = m then g else h i)
    rw [if_neg hz]
    have hne : p i ≠ p m := fun e => hz (hi i m (by omega) hm e)
    exact (hs i (by omega)).of (fun j a b _ => f j (by omega) (by omega))
theorem hc_drop {X Y : gX} {p : Nat → Nat} {h : Nat → Nat → Nat} (hp : ∀ j, j < 6 → p j < 6 ∧ X 43 j = nI (p j)) (hi : ∀ i j, i < 6 → j < 6 → p i = p j → i = j) (hs : ∀ i, i < 6 → RS X (44 + 19 * p i) (h i))
    (q : (∀ j, j < 5 → Y 43 j = nI (p (j + 1))) ∧ Y 43 5 = nI (p 0) ∧ Y 42 0 = nI 5 ∧ ∀ i, i ≠ 42 → i ≠ 43 → Y i = X i) : HC Y 5 (fun i => h (i + 1)) := by
  obtain ⟨q1, q2, q3, q4⟩ := q
  refine ⟨q3, by decide, fun j => if j < 5 then p (j + 1) else p 0, fun j hj => ?_, fun i j hi6 hj6 e => ?_, fun i hin => ?_⟩
  · show (if j < 5 then p (j + 1) else p 0) < 6 ∧ Y 43 j = nI (if j < 5 then p (j + 1) else p 0)
    by_cases h5 : j < 5
    · rw [if_pos h5]; exact ⟨(hp (j + 1) (by omega)).1, q1 j h5⟩
    · rw [if_neg h5, show j = 5 by omega]; exact ⟨(hp 0 (by decide)).1, q2⟩
  · have e2 : (if i < 5 then p (i + 1) else p 0) = (if j < 5 then p (j + 1) else p 0) := e
    by_cases h5 : i < 5
    · by_cases h6 : j < 5
      · rw [if_pos h5, if_pos h6] at e2
        have := hi (i + 1) (j + 1) (by omega) (by omega) e2
        omega
      · rw [if_pos h5, if_neg h6] at e2
        have := hi (i + 1) 0 (by omega) (by omega) e2
        omega
    · by_cases h6 : j < 5
      · rw [if_neg h5, if_pos h6] at e2
        have := hi 0 (j + 1) (by omega) (by omega) e2
        omega
      · omega
  · show RS Y (44 + 19 * (if i < 5 then p (i + 1) else p 0)) (h (i + 1))
    rw [if_pos hin]
    have hpi := (hp (i + 1) (by omega)).1
    exact (hs (i + 1) (by omega)).of (fun j a b _ => q4 j (by omega) (by omega))
theorem recN_lt {n : Nat} (h : n < 6) : recN false n = n + 1 := by
  unfold recN; simp only [Bool.false_eq_true, if_false]; rw [if_neg (by omega)]
theorem recH_lt {n : Nat} {g : Nat → Nat} {h : Nat → Nat → Nat} (hn : n < 6) : recH false h n g = fun i => if i = n then g else h i := by
  funext i; unfold recH; simp only [Bool.false_eq_true, if_false]; rw [if_neg (by omega)]
theorem recH_6 {g : Nat → Nat} {h : Nat → Nat → Nat} : recH false h 6 g = fun i => if i = 5 then g else h (i + 1) := by
  funext i; unfold recH; simp only [Bool.false_eq_true, if_false, if_true]

set_option maxHeartbeats 4000000 in
set_option maxRecDepth 100000 in
theorem c_hDrop {l : Launch} {ad : Nat → Nat} {X : gX} {p : Nat → Nat} (hp : ∀ j, j < 6 → p j < 6 ∧ X 43 j = nI (p j)) : K_X0_dropOldest l ad [.ref 42] X (fun X' => (∀ j, j < 5 → X' 43 j = nI (p (j + 1))) ∧ X' 43 5 = nI (p 0) ∧ X' 42 0 = nI 5 ∧ ∀ i, i ≠ 42 → i ≠ 43 → X' i = X i) := by
  refine Ct.of [.ref 42, .null, .null] 2 (by decide +kernel) rfl (Nat.le_of_ble_eq_true rfl) (fun F hl hC hRt _ => ?_)
  subst hl
  refine g_aload_0 hC dX0_dropOldest_0 (pc' := 1) rfl ?_
  refine g_getR hC fl_X0_17 (sh_hist ad) rfl dX0_dropOldest_1 (pc' := 4) rfl ?_
  refine g_iconst hC dX0_dropOldest_4 (pc' := 5) kc_iconst_0 rfl ?_
  refine g_aald5 hC (sh_states ad) (Nat.le_of_ble_eq_true rfl) (by omega) ((hp 0 (by decide)).2) (by have := (hp 0 (by decide)).1; omega) (states_at (by have := (hp 0 (by decide)).1; omega)) dX0_dropOldest_5 (pc' := 6) rfl ?_
  refine g_astore_1 hC dX0_dropOldest_6 (pc' := 7) rfl (Nat.le_of_ble_eq_true rfl) rfl ?_
  refine g_iconst hC dX0_dropOldest_7 (pc' := 8) kc_iconst_1 rfl ?_
  refine g_istore_2 hC dX0_dropOldest_8 (pc' := 9) rfl (Nat.le_of_ble_eq_true rfl) rfl ?_
  refine g_iload_2 hC dX0_dropOldest_9 (pc' := 10) rfl ?_
  refine g_bipush hC dX0_dropOldest_10 (pc' := 12) kc_bipush_6 rfl ?_
  refine g_icmpN_ge hC dX0_dropOldest_12 (pc' := 15) (tgt := 35) (by decide) rfl (by omega) (by omega) (fun h12 => by omega) (fun h12 => ?_)
  refine g_aload_0 hC dX0_dropOldest_15 (pc' := 16) rfl ?_
  refine g_getR hC fl_X0_17 (sh_hist ad) rfl dX0_dropOldest_16 (pc' := 19) rfl ?_
  refine g_iload_2 hC dX0_dropOldest_19 (pc' := 20) rfl ?_
  refine g_iconst hC dX0_dropOldest_20 (pc' := 21) kc_iconst_1 rfl ?_
  refine g_isubN hC dX0_dropOldest_21 (pc' := 22) rfl (by omega) ?_
  refine g_aload_0 hC dX0_dropOldest_22 (pc' := 23) rfl ?_
  refine g_getR hC fl_X0_17 (sh_hist ad) rfl dX0_dropOldest_23 (pc' := 26) rfl ?_
  refine g_iload_2 hC dX0_dropOldest_26 (pc' := 27) rfl ?_
  refine g_aald5 hC (sh_states ad) (Nat.le_of_ble_eq_true rfl) (by omega) ((hp 1 (by decide)).2) (by have := (hp 1 (by decide)).1; omega) (states_at (by have := (hp 1 (by decide)).1; omega)) dX0_dropOldest_27 (pc' := 28) rfl ?_
  refine g_aast5 hC (sh_states ad) (Nat.le_of_ble_eq_true rfl) (by omega) (sh_st ad (isB_hist (by have := (hp 1 (by decide)).1; omega))) (k := p 1) (by have := (hp 1 (by decide)).1; omega) (states_at (by have := (hp 1 (by decide)).1; omega)) dX0_dropOldest_28 (pc' := 29) rfl ?_
  refine g_iinc_2 hC dX0_dropOldest_29 (pc' := 32) rfl (Nat.le_of_ble_eq_true rfl) rfl (nI_inc _ _ kc_iinc_1) ?_
  refine g_goto hC dX0_dropOldest_32 (tgt := 9) (by decide) ?_
  refine g_iload_2 hC dX0_dropOldest_9 (pc' := 10) rfl ?_
  refine g_bipush hC dX0_dropOldest_10 (pc' := 12) kc_bipush_6 rfl ?_
  refine g_icmpN_ge hC dX0_dropOldest_12 (pc' := 15) (tgt := 35) (by decide) rfl (by omega) (by omega) (fun h12 => by omega) (fun h12 => ?_)
  refine g_aload_0 hC dX0_dropOldest_15 (pc' := 16) rfl ?_
  refine g_getR hC fl_X0_17 (sh_hist ad) rfl dX0_dropOldest_16 (pc' := 19) rfl ?_
  refine g_iload_2 hC dX0_dropOldest_19 (pc' := 20) rfl ?_
  refine g_iconst hC dX0_dropOldest_20 (pc' := 21) kc_iconst_1 rfl ?_
  refine g_isubN hC dX0_dropOldest_21 (pc' := 22) rfl (by omega) ?_
  refine g_aload_0 hC dX0_dropOldest_22 (pc' := 23) rfl ?_
  refine g_getR hC fl_X0_17 (sh_hist ad) rfl dX0_dropOldest_23 (pc' := 26) rfl ?_
  refine g_iload_2 hC dX0_dropOldest_26 (pc' := 27) rfl ?_
  refine g_aald5 hC (sh_states ad) (Nat.le_of_ble_eq_true rfl) (by omega) ((gu_id (by decide)).trans ((hp 2 (by decide)).2)) (by have := (hp 2 (by decide)).1; omega) (states_at (by have := (hp 2 (by decide)).1; omega)) dX0_dropOldest_27 (pc' := 28) rfl ?_
  refine g_aast5 hC (sh_states ad) (Nat.le_of_ble_eq_true rfl) (by omega) (sh_st ad (isB_hist (by have := (hp 2 (by decide)).1; omega))) (k := p 2) (by have := (hp 2 (by decide)).1; omega) (states_at (by have := (hp 2 (by decide)).1; omega)) dX0_dropOldest_28 (pc' := 29) rfl ?_
  refine g_iinc_2 hC dX0_dropOldest_29 (pc' := 32) rfl (Nat.le_of_ble_eq_true rfl) rfl (nI_inc _ _ kc_iinc_1) ?_
  refine g_goto hC dX0_dropOldest_32 (tgt := 9) (by decide) ?_
  refine g_iload_2 hC dX0_dropOldest_9 (pc' := 10) rfl ?_
  refine g_bipush hC dX0_dropOldest_10 (pc' := 12) kc_bipush_6 rfl ?_
  refine g_icmpN_ge hC dX0_dropOldest_12 (pc' := 15) (tgt := 35) (by decide) rfl (by omega) (by omega) (fun h12 => by omega) (fun h12 => ?_)
  refine g_aload_0 hC dX0_dropOldest_15 (pc' := 16) rfl ?_
  refine g_getR hC fl_X0_17 (sh_hist ad) rfl dX0_dropOldest_16 (pc' := 19) rfl ?_
  refine g_iload_2 hC dX0_dropOldest_19 (pc' := 20) rfl ?_
  refine g_iconst hC dX0_dropOldest_20 (pc' := 21) kc_iconst_1 rfl ?_
  refine g_isubN hC dX0_dropOldest_21 (pc' := 22) rfl (by omega) ?_
  refine g_aload_0 hC dX0_dropOldest_22 (pc' := 23) rfl ?_
  refine g_getR hC fl_X0_17 (sh_hist ad) rfl dX0_dropOldest_23 (pc' := 26) rfl ?_
  refine g_iload_2 hC dX0_dropOldest_26 (pc' := 27) rfl ?_
  refine g_aald5 hC (sh_states ad) (Nat.le_of_ble_eq_true rfl) (by omega) ((gu_id (by decide)).trans ((gu_id (by decide)).trans ((hp 3 (by decide)).2))) (by have := (hp 3 (by decide)).1; omega) (states_at (by have := (hp 3 (by decide)).1; omega)) dX0_dropOldest_27 (pc' := 28) rfl ?_
  refine g_aast5 hC (sh_states ad) (Nat.le_of_ble_eq_true rfl) (by omega) (sh_st ad (isB_hist (by have := (hp 3 (by decide)).1; omega))) (k := p 3) (by have := (hp 3 (by decide)).1; omega) (states_at (by have := (hp 3 (by decide)).1; omega)) dX0_dropOldest_28 (pc' := 29) rfl ?_
  refine g_iinc_2 hC dX0_dropOldest_29 (pc' := 32) rfl (Nat.le_of_ble_eq_true rfl) rfl (nI_inc _ _ kc_iinc_1) ?_
  refine g_goto hC dX0_dropOldest_32 (tgt := 9) (by decide) ?_
  refine g_iload_2 hC dX0_dropOldest_9 (pc' := 10) rfl ?_
  refine g_bipush hC dX0_dropOldest_10 (pc' := 12) kc_bipush_6 rfl ?_
  refine g_icmpN_ge hC dX0_dropOldest_12 (pc' := 15) (tgt := 35) (by decide) rfl (by omega) (by omega) (fun h12 => by omega) (fun h12 => ?_)
  refine g_aload_0 hC dX0_dropOldest_15 (pc' := 16) rfl ?_
  refine g_getR hC fl_X0_17 (sh_hist ad) rfl dX0_dropOldest_16 (pc' := 19) rfl ?_
  refine g_iload_2 hC dX0_dropOldest_19 (pc' := 20) rfl ?_
  refine g_iconst hC dX0_dropOldest_20 (pc' := 21) kc_iconst_1 rfl ?_
  refine g_isubN hC dX0_dropOldest_21 (pc' := 22) rfl (by omega) ?_
  refine g_aload_0 hC dX0_dropOldest_22 (pc' := 23) rfl ?_
  refine g_getR hC fl_X0_17 (sh_hist ad) rfl dX0_dropOldest_23 (pc' := 26) rfl ?_
  refine g_iload_2 hC dX0_dropOldest_26 (pc' := 27) rfl ?_
  refine g_aald5 hC (sh_states ad) (Nat.le_of_ble_eq_true rfl) (by omega) ((gu_id (by decide)).trans ((gu_id (by decide)).trans ((gu_id (by decide)).trans ((hp 4 (by decide)).2)))) (by have := (hp 4 (by decide)).1; omega) (states_at (by have := (hp 4 (by decide)).1; omega)) dX0_dropOldest_27 (pc' := 28) rfl ?_
  refine g_aast5 hC (sh_states ad) (Nat.le_of_ble_eq_true rfl) (by omega) (sh_st ad (isB_hist (by have := (hp 4 (by decide)).1; omega))) (k := p 4) (by have := (hp 4 (by decide)).1; omega) (states_at (by have := (hp 4 (by decide)).1; omega)) dX0_dropOldest_28 (pc' := 29) rfl ?_
  refine g_iinc_2 hC dX0_dropOldest_29 (pc' := 32) rfl (Nat.le_of_ble_eq_true rfl) rfl (nI_inc _ _ kc_iinc_1) ?_
  refine g_goto hC dX0_dropOldest_32 (tgt := 9) (by decide) ?_
  refine g_iload_2 hC dX0_dropOldest_9 (pc' := 10) rfl ?_
  refine g_bipush hC dX0_dropOldest_10 (pc' := 12) kc_bipush_6 rfl ?_
  refine g_icmpN_ge hC dX0_dropOldest_12 (pc' := 15) (tgt := 35) (by decide) rfl (by omega) (by omega) (fun h12 => by omega) (fun h12 => ?_)
  refine g_aload_0 hC dX0_dropOldest_15 (pc' := 16) rfl ?_
  refine g_getR hC fl_X0_17 (sh_hist ad) rfl dX0_dropOldest_16 (pc' := 19) rfl ?_
  refine g_iload_2 hC dX0_dropOldest_19 (pc' := 20) rfl ?_
  refine g_iconst hC dX0_dropOldest_20 (pc' := 21) kc_iconst_1 rfl ?_
  refine g_isubN hC dX0_dropOldest_21 (pc' := 22) rfl (by omega) ?_
  refine g_aload_0 hC dX0_dropOldest_22 (pc' := 23) rfl ?_
  refine g_getR hC fl_X0_17 (sh_hist ad) rfl dX0_dropOldest_23 (pc' := 26) rfl ?_
  refine g_iload_2 hC dX0_dropOldest_26 (pc' := 27) rfl ?_
  refine g_aald5 hC (sh_states ad) (Nat.le_of_ble_eq_true rfl) (by omega) ((gu_id (by decide)).trans ((gu_id (by decide)).trans ((gu_id (by decide)).trans ((gu_id (by decide)).trans ((hp 5 (by decide)).2))))) (by have := (hp 5 (by decide)).1; omega) (states_at (by have := (hp 5 (by decide)).1; omega)) dX0_dropOldest_27 (pc' := 28) rfl ?_
  refine g_aast5 hC (sh_states ad) (Nat.le_of_ble_eq_true rfl) (by omega) (sh_st ad (isB_hist (by have := (hp 5 (by decide)).1; omega))) (k := p 5) (by have := (hp 5 (by decide)).1; omega) (states_at (by have := (hp 5 (by decide)).1; omega)) dX0_dropOldest_28 (pc' := 29) rfl ?_
  refine g_iinc_2 hC dX0_dropOldest_29 (pc' := 32) rfl (Nat.le_of_ble_eq_true rfl) rfl (nI_inc _ _ kc_iinc_1) ?_
  refine g_goto hC dX0_dropOldest_32 (tgt := 9) (by decide) ?_
  refine g_iload_2 hC dX0_dropOldest_9 (pc' := 10) rfl ?_
  refine g_bipush hC dX0_dropOldest_10 (pc' := 12) kc_bipush_6 rfl ?_
  refine g_icmpN_ge hC dX0_dropOldest_12 (pc' := 15) (tgt := 35) (by decide) rfl (by omega) (by omega) (fun h12 => ?_) (fun h12 => by omega)
  refine g_aload_0 hC dX0_dropOldest_35 (pc' := 36) rfl ?_
  refine g_getR hC fl_X0_17 (sh_hist ad) rfl dX0_dropOldest_36 (pc' := 39) rfl ?_
  refine g_iconst hC dX0_dropOldest_39 (pc' := 40) kc_iconst_5 rfl ?_
  refine g_aload_1 hC dX0_dropOldest_40 (pc' := 41) rfl ?_
  refine g_aast5 hC (sh_states ad) (Nat.le_of_ble_eq_true rfl) (by omega) (sh_st ad (isB_hist (by have := (hp 0 (by decide)).1; omega))) (k := p 0) (by have := (hp 0 (by decide)).1; omega) (states_at (by have := (hp 0 (by decide)).1; omega)) dX0_dropOldest_41 (pc' := 42) rfl ?_
  refine g_aload_0 hC dX0_dropOldest_42 (pc' := 43) rfl ?_
  refine g_iconst hC dX0_dropOldest_43 (pc' := 44) kc_iconst_5 rfl ?_
  refine g_putI hC fl_X0_9 (sh_hist ad) rfl rfl rfl dX0_dropOldest_44 (pc' := 47) rfl ?_
  refine g_vretV hC hRt dX0_dropOldest_47 ?_
  refine ⟨fun j hj => ?_, ?_, gu_at, fun i h2 h3 => ?_⟩
  · refine (congrFun (gu_ne 43 (by decide)) j).trans ?_
    match j, hj with
    | 0, _ => repeat (first | exact gu_at | refine (gu_id (by decide)).trans ?_)
    | 1, _ => repeat (first | exact gu_at | refine (gu_id (by decide)).trans ?_)
    | 2, _ => repeat (first | exact gu_at | refine (gu_id (by decide)).trans ?_)
    | 3, _ => repeat (first | exact gu_at | refine (gu_id (by decide)).trans ?_)
    | 4, _ => repeat (first | exact gu_at | refine (gu_id (by decide)).trans ?_)
  · refine (congrFun (gu_ne 43 (by decide)) 5).trans ?_
    exact gu_at
  · refine (gu_ne i h2).trans ?_
    repeat (first | rfl | refine (gu_ne i h3).trans ?_)

set_option maxHeartbeats 4000000 in
set_option maxRecDepth 100000 in
theorem c_hRecord {l : Launch} {ad : Nat → Nat} {X : gX} {n : Nat} {h : Nat → Nat → Nat} {g : Nat → Nat} (hm : HC X n h) (hR : RS X 1 g) : K_X0_record l ad [.ref 42, .ref 1] X (fun X' => HC X' (recN false n) (recH false h n g) ∧ fH X X') := by
  refine Ct.of [.ref 42, .ref 1] 0 (by decide +kernel) rfl (Nat.le_of_ble_eq_true rfl) (fun F hl hC hRt _ => ?_)
  subst hl
  obtain ⟨h0, hn6, p, hp, hi, hs⟩ := hm
  refine g_aload_0 hC dX0_record_0 (pc' := 1) rfl ?_
  refine g_getI hC fl_X0_9 (sh_hist ad) rfl (h0) dX0_record_1 (pc' := 4) rfl ?_
  refine g_bipush hC dX0_record_4 (pc' := 6) kc_bipush_6 rfl ?_
  have J13 : ∀ (Y : gX) (m : Nat) (h1 : Nat → Nat → Nat), m < 6 → HC Y m h1 → fH X Y → RS Y 1 g → recN false n = m + 1 → (recH false h n g = fun i => if i = m then g else h1 i) → G F (S0 ad) (0, 0) Y 13 [.ref 42, .ref 1] [] := by
    intro Y m h1 hm6 kH kF kR eN eH
    obtain ⟨k0, _, q, kp, ki, ks⟩ := kH
    have hqm := (kp m hm6).1
    refine g_aload_0 hC dX0_record_13 (pc' := 14) rfl ?_
    refine g_getR hC fl_X0_17 (sh_hist ad) rfl dX0_record_14 (pc' := 17) rfl ?_
    refine g_aload_0 hC dX0_record_17 (pc' := 18) rfl ?_
    refine g_getI hC fl_X0_9 (sh_hist ad) rfl (k0) dX0_record_18 (pc' := 21) rfl ?_
    refine g_aald5 hC (sh_states ad) (Nat.le_of_ble_eq_true rfl) (by omega) ((kp m hm6).2) (by omega) (states_at (by omega)) dX0_record_21 (pc' := 22) rfl ?_
    refine g_aload_1 hC dX0_record_22 (pc' := 23) rfl ?_
    refine g_callV1V hC (c_tCopy (g := g) (isB_hist hqm) isB_1 (by omega) kR) ml_X0_25 (sh_st ad (isB_hist (by omega))) rfl ⟨(Nat.le_of_ble_eq_true rfl), (Nat.le_of_ble_eq_true rfl)⟩ (Nat.le_of_ble_eq_true rfl) dX0_record_23 (pc' := 26) rfl ⟨Nat.zero_le _, Nat.zero_le _⟩ (fun X23 q23 => ?_)
    obtain ⟨r23, f23⟩ := q23
    refine g_aload_0 hC dX0_record_26 (pc' := 27) rfl ?_
    refine g_dup hC dX0_record_27 (pc' := 28) rfl rfl ?_
    refine g_getI hC fl_X0_9 (sh_hist ad) rfl ((congrFun (f23 42 (by omega)) 0).trans k0) dX0_record_28 (pc' := 31) rfl ?_
    refine g_iconst hC dX0_record_31 (pc' := 32) kc_iconst_1 rfl ?_
    refine g_iaddN hC dX0_record_32 (pc' := 33) rfl ?_
    refine g_putI hC fl_X0_9 (sh_hist ad) rfl rfl rfl dX0_record_33 (pc' := 36) rfl ?_
    refine g_vretV hC hRt dX0_record_36 ?_
    rw [eN, eH]
    exact ⟨hc_push hm6 kp ki ks (r23.of (fun i h1 h2 _ => gu_ne i (by omega))) (fun i h1 h2 => (gu_ne i h1).trans (f23 i (by omega))) gu_at, fun i hi => (gu_ne i (by omega)).trans ((f23 i (by omega)).trans (kF i hi))⟩
  refine g_icmpN_lt hC dX0_record_6 (pc' := 9) (tgt := 13) (by decide) rfl (by omega) (by omega) (fun h6 => ?_) (fun h6 => ?_)
  · exact g_weak (J13 _ n h h6 ⟨h0, hn6, p, hp, hi, hs⟩ fH.rf hR (recN_lt h6) (recH_lt h6)) (gle_s (gle_s gle_nil))
  · refine g_aload_0 hC dX0_record_9 (pc' := 10) rfl ?_
    refine g_callV0V hC (c_hDrop hp) ml_X0_22 (sh_hist ad) rfl ⟨(Nat.le_of_ble_eq_true rfl), (Nat.le_of_ble_eq_true rfl)⟩ (Nat.le_of_ble_eq_true rfl) dX0_record_10 (pc' := 13) rfl ⟨Nat.zero_le _, Nat.zero_le _⟩ (fun X10 q10 => ?_)
    have n6 : n = 6 := by omega
    subst n6
    have d10 := hc_drop hp hi hs q10
    exact g_weak (J13 _ 5 (fun i => h (i + 1)) (by decide) d10 (fun i hi => q10.2.2.2 i (by omega) (by omega)) (hR.of (fun i h1 h2 _ => q10.2.2.2 i (by omega) (by omega))) rfl recH_6) (gle_s (gle_s gle_nil))

set_option maxHeartbeats 4000000 in
set_option maxRecDepth 100000 in
theorem c_hBack {l : Launch} {ad : Nat → Nat} {X : gX} {n : Nat} {h : Nat → Nat → Nat} (hm : HC X n h) : K_X0_takesBackInto l ad [.ref 42, .ref 1] X (fun rr X' => rr = zI (decide (0 < n)) ∧ (if n = 0 then X' = X else RS X' 1 (h (n - 1)) ∧ HC X' (n - 1) h) ∧ ∀ i, (i < 1 ∨ (20 ≤ i ∧ i < 42) ∨ 158 ≤ i) → X' i = X i) := by
  refine Ct.of [.ref 42, .ref 1] 0 (by decide +kernel) rfl (Nat.le_of_ble_eq_true rfl) (fun F hl hC hRt _ => ?_)
  subst hl
  obtain ⟨h0, hn6, p, hp, hi, hs⟩ := hm
  refine g_aload_0 hC dX0_takesBackInto_0 (pc' := 1) rfl ?_
  refine g_getI hC fl_X0_9 (sh_hist ad) rfl (h0) dX0_takesBackInto_1 (pc' := 4) rfl ?_
  refine g_iconst hC dX0_takesBackInto_4 (pc' := 5) kc_iconst_1 rfl ?_
  refine g_icmpN_ge hC dX0_takesBackInto_5 (pc' := 8) (tgt := 10) (by decide) rfl (by omega) (by omega) (fun h5 => ?_) (fun h5 => ?_)
  · have hpn := (hp (n - 1) (by omega)).1
    refine g_aload_0 hC dX0_takesBackInto_10 (pc' := 11) rfl ?_
    refine g_dup hC dX0_takesBackInto_11 (pc' := 12) rfl rfl ?_
    refine g_getI hC fl_X0_9 (sh_hist ad) rfl (h0) dX0_takesBackInto_12 (pc' := 15) rfl ?_
    refine g_iconst hC dX0_takesBackInto_15 (pc' := 16) kc_iconst_1 rfl ?_
    refine g_isubN hC dX0_takesBackInto_16 (pc' := 17) rfl (by omega) ?_
    refine g_putI hC fl_X0_9 (sh_hist ad) rfl rfl rfl dX0_takesBackInto_17 (pc' := 20) rfl ?_
    refine g_aload_1 hC dX0_takesBackInto_20 (pc' := 21) rfl ?_
    refine g_aload_0 hC dX0_takesBackInto_21 (pc' := 22) rfl ?_
    refine g_getR hC fl_X0_17 (sh_hist ad) rfl dX0_takesBackInto_22 (pc' := 25) rfl ?_
    refine g_aload_0 hC dX0_takesBackInto_25 (pc' := 26) rfl ?_
    refine g_getI hC fl_X0_9 (sh_hist ad) rfl (gu_at) dX0_takesBackInto_26 (pc' := 29) rfl ?_
    refine g_aald5 hC (sh_states ad) (Nat.le_of_ble_eq_true rfl) (by omega) ((congrFun (gu_ne 43 (by decide)) (n - 1)).trans (hp (n - 1) (by omega)).2) (by omega) (states_at (by omega)) dX0_takesBackInto_29 (pc' := 30) rfl ?_
    refine g_callV1V hC (c_tCopy (C := 44 + 19 * p (n - 1)) (g := h (n - 1)) isB_1 (isB_hist hpn) (by omega) ((hs (n - 1) (by omega)).of (fun i h1 h2 _ => gu_ne i (by omega)))) ml_X0_25 (sh_st ad isB_1) rfl ⟨(Nat.le_of_ble_eq_true rfl), (Nat.le_of_ble_eq_true rfl)⟩ (Nat.le_of_ble_eq_true rfl) dX0_takesBackInto_30 (pc' := 33) rfl ⟨Nat.zero_le _, Nat.zero_le _⟩ (fun X30 q30 => ?_)
    obtain ⟨r30, f30⟩ := q30
    refine g_iconst hC dX0_takesBackInto_33 (pc' := 34) kc_iconst_1 rfl ?_
    refine g_iretI hC hRt nz_1 dX0_takesBackInto_34 ?_
    refine ⟨by rw [show decide (0 < n) = true from decide_eq_true (by omega)]; rfl, ?_, fun i hi => (f30 i (by omega)).trans (gu_ne i (by omega))⟩
    rw [if_neg (by omega)]
    refine ⟨r30, HC.of (X := gu X 42 0 (nI (n - 1))) ⟨gu_at, by omega, p, fun j hj => ⟨(hp j hj).1, (congrFun (gu_ne 43 (by decide)) j).trans (hp j hj).2⟩, hi, fun i hin => ?_⟩ (fun i a b => f30 i (by omega))⟩
    exact (hs i (by omega)).of (fun j a b _ => gu_ne j (by omega))
  · refine g_iconst hC dX0_takesBackInto_8 (pc' := 9) kc_iconst_0 rfl ?_
    refine g_iretI hC hRt nz_0 dX0_takesBackInto_9 ?_
    exact ⟨by rw [show n = 0 by omega]; rfl, by rw [if_pos (by omega)], fun _ _ => rfl⟩
