/-- the ring of states: h i lies where n - 1 - i steps before the latest -/
def HC (X : gX) (n : Nat) (h : Nat → Nat → Nat) : Prop := X 42 0 = nI n ∧ n ≤ 6 ∧ ∃ L, L < 6 ∧ X 42 1 = nI L ∧ ∀ i, i < n → RS X (44 + 19 * ((L + 6 - (n - 1 - i)) % 6)) (h i)
def fH (X X' : gX) : Prop := ∀ i, (i < 42 ∨ 158 ≤ i) → X' i = X i
theorem fH.rf {X : gX} : fH X X := fun _ _ => rfl
theorem hist_ne {a b : Nat} (h : a ≠ b) : 44 + 19 * a ≠ 44 + 19 * b := by omega
theorem HC.of {X Y : gX} {n : Nat} {h : Nat → Nat → Nat} (m : HC X n h) (e : ∀ i, 42 ≤ i → i < 158 → Y i = X i) : HC Y n h := by
  obtain ⟨h0, h1, L, hL, h2, h3⟩ := m
  refine ⟨by rw [e 42 (by decide) (by decide)]; exact h0, h1, L, hL, by rw [e 42 (by decide) (by decide)]; exact h2, fun i hi => (h3 i hi).of (fun j a b _ => e j (by omega) (by omega))⟩
theorem hc_rec {X Y : gX} {n L M : Nat} {g : Nat → Nat} {h : Nat → Nat → Nat} (hM : M = (L + 1) % 6) (h1 : n ≤ 6) (h3 : ∀ i, i < n → RS X (44 + 19 * ((L + 6 - (n - 1 - i)) % 6)) (h i)) (hL : L < 6)
    (r : RS Y (44 + 19 * M) g) (f : ∀ i, i ≠ 42 → (i < 44 + 19 * M ∨ 44 + 19 * M + 19 ≤ i) → Y i = X i) (e0 : Y 42 0 = nI (min (n + 1) 6)) (e1 : Y 42 1 = nI M) : HC Y (recN false n) (recH false h n g) ∧ fH X Y := by
  have eN : recN false n = min (n + 1) 6 := by unfold recN; simp only [Bool.false_eq_true, if_false]; split <;> omega
  refine ⟨⟨by rw [eN]; exact e0, by rw [eN]; omega, M, by omega, e1, fun i hi => ?_⟩, fun i hi => f i (by omega) (by omega)⟩
  rw [eN] at hi ⊢
  have hB : ∀ j, isB (44 + 19 * (j % 6)) := fun j => isB_hist (by omega)
  unfold recH
  simp only [Bool.false_eq_true, if_false]
  by_cases h6 : n = 6
  · rw [if_pos h6]
    by_cases hz : i = 5
    · rw [if_pos hz, show (M + 6 - (min (n + 1) 6 - 1 - i)) % 6 = M by omega]; exact r
    · rw [if_neg hz, show (M + 6 - (min (n + 1) 6 - 1 - i)) % 6 = (L + 6 - (n - 1 - (i + 1))) % 6 by omega]
      exact (h3 (i + 1) (by omega)).of (fun j a b _ => f j (by omega) (by omega))
  · rw [if_neg h6]
    by_cases hz : i = n
    · rw [if_pos hz, show (M + 6 - (min (n + 1) 6 - 1 - i)) % 6 = M by omega]; exact r
    · rw [if_neg hz, show (M + 6 - (min (n + 1) 6 - 1 - i)) % 6 = (L + 6 - (n - 1 - i)) % 6 by omega]
      exact (h3 i (by omega)).of (fun j a b _ => f j (by omega) (by omega))
theorem hc_back {X Y : gX} {n L M : Nat} {h : Nat → Nat → Nat} (hM : M = (L + 5) % 6) (h1 : n ≤ 6) (h3 : ∀ i, i < n → RS X (44 + 19 * ((L + 6 - (n - 1 - i)) % 6)) (h i)) (hL : L < 6)
    (f : ∀ i, 43 ≤ i → i < 158 → Y i = X i) (e0 : Y 42 0 = nI (n - 1)) (e1 : Y 42 1 = nI M) : HC Y (n - 1) h :=
  ⟨e0, by omega, M, by omega, e1, fun i hi => by
    rw [show (M + 6 - (n - 1 - 1 - i)) % 6 = (L + 6 - (n - 1 - i)) % 6 by omega]
    exact (h3 i (by omega)).of (fun j a b _ => f j (by omega) (by omega))⟩

set_option maxHeartbeats 4000000 in
set_option maxRecDepth 100000 in
theorem c_hRecord {l : Launch} {ad : Nat → Nat} {X : gX} {n : Nat} {h : Nat → Nat → Nat} {g : Nat → Nat} (hm : HC X n h) (hR : RS X 1 g) : K_X0_record l ad [.ref 42, .ref 1] X (fun X' => HC X' (recN false n) (recH false h n g) ∧ fH X X') := by
  refine Ct.of [.ref 42, .ref 1] 0 (by decide +kernel) rfl (Nat.le_of_ble_eq_true rfl) (fun F hl hC hRt _ => ?_)
  subst hl
  obtain ⟨h0, hn6, L, hL, hl, hs⟩ := hm
  refine g_aload_0 hC dX0_record_0 (pc' := 1) rfl ?_
  refine g_aload_0 hC dX0_record_1 (pc' := 2) rfl ?_
  refine g_getI hC fl_X0_15 (sh_hist ad) rfl (hl) dX0_record_2 (pc' := 5) rfl ?_
  refine g_iconst hC dX0_record_5 (pc' := 6) kc_iconst_1 rfl ?_
  refine g_iaddN hC dX0_record_6 (pc' := 7) rfl ?_
  refine g_bipush hC dX0_record_7 (pc' := 9) kc_bipush_6 rfl ?_
  have J22 : ∀ M : Nat, M = (L + 1) % 6 → G F (S0 ad) (0, 0) X 22 [.ref 42, .ref 1] [.int (nI M), .ref 42] := by
    intro M hM; have hM6 : M < 6 := by omega
    refine g_putI hC fl_X0_15 (sh_hist ad) rfl rfl rfl dX0_record_22 (pc' := 25) rfl ?_
    refine g_aload_0 hC dX0_record_25 (pc' := 26) rfl ?_
    refine g_getR hC fl_X0_20 (sh_hist ad) rfl dX0_record_26 (pc' := 29) rfl ?_
    refine g_aload_0 hC dX0_record_29 (pc' := 30) rfl ?_
    refine g_getI hC fl_X0_15 (sh_hist ad) rfl (gu_at) dX0_record_30 (pc' := 33) rfl ?_
    refine g_aald3 hC (sh_states ad) (Nat.le_of_ble_eq_true rfl) (by omega) (states_at (by omega)) dX0_record_33 (pc' := 34) rfl ?_
    refine g_aload_1 hC dX0_record_34 (pc' := 35) rfl ?_
    refine g_callV1V hC (c_tCopy (g := g) (isB_hist hM6) isB_1 (by omega) (hR.of (fun i h1 h2 _ => gu_ne i (by omega)))) ml_X0_25 (sh_st ad (isB_hist (by omega))) rfl ⟨(Nat.le_of_ble_eq_true rfl), (Nat.le_of_ble_eq_true rfl)⟩ (Nat.le_of_ble_eq_true rfl) dX0_record_35 (pc' := 38) rfl ⟨Nat.zero_le _, Nat.zero_le _⟩ (fun X35 q35 => ?_)
    obtain ⟨r35, f35⟩ := q35
    refine g_aload_0 hC dX0_record_38 (pc' := 39) rfl ?_
    refine g_aload_0 hC dX0_record_39 (pc' := 40) rfl ?_
    refine g_getI hC fl_X0_9 (sh_hist ad) rfl ((congrFun (f35 42 (by omega)) 0).trans ((gu_id (by decide)).trans h0)) dX0_record_40 (pc' := 43) rfl ?_
    refine g_iconst hC dX0_record_43 (pc' := 44) kc_iconst_1 rfl ?_
    refine g_iaddN hC dX0_record_44 (pc' := 45) rfl ?_
    refine g_bipush hC dX0_record_45 (pc' := 47) kc_bipush_6 rfl ?_
    refine g_mminN hC ml_X0_29 ⟨(Nat.le_of_ble_eq_true rfl), (Nat.le_of_ble_eq_true rfl)⟩ ⟨Nat.zero_le _, Nat.zero_le _⟩ dX0_record_47 (pc' := 50) rfl (by omega) (by omega) ?_
    refine g_putI hC fl_X0_9 (sh_hist ad) rfl rfl rfl dX0_record_50 (pc' := 53) rfl ?_
    refine g_vretV hC hRt dX0_record_53 ?_
    exact hc_rec hM hn6 hs hL (r35.of (fun i h1 h2 _ => gu_ne i (by omega))) (fun i h1 h2 => (gu_ne i h1).trans ((f35 i (by omega)).trans (gu_ne i h1))) gu_at ((gu_id (by decide)).trans ((congrFun (f35 42 (by omega)) 1).trans gu_at))
  refine g_icmpN_ge hC dX0_record_9 (pc' := 12) (tgt := 21) (by decide) rfl (by omega) (by omega) (fun h9 => ?_) (fun h9 => ?_)
  · refine g_iconst hC dX0_record_21 (pc' := 22) kc_iconst_0 rfl ?_
    exact g_weak (J22 _ (by omega)) (gle_s (gle_s gle_nil))
  · refine g_aload_0 hC dX0_record_12 (pc' := 13) rfl ?_
    refine g_getI hC fl_X0_15 (sh_hist ad) rfl (hl) dX0_record_13 (pc' := 16) rfl ?_
    refine g_iconst hC dX0_record_16 (pc' := 17) kc_iconst_1 rfl ?_
    refine g_iaddN hC dX0_record_17 (pc' := 18) rfl ?_
    refine g_goto hC dX0_record_18 (tgt := 22) (by decide) ?_
    exact g_weak (J22 _ (by omega)) (gle_s (gle_s gle_nil))

set_option maxHeartbeats 4000000 in
set_option maxRecDepth 100000 in
theorem c_hBack {l : Launch} {ad : Nat → Nat} {X : gX} {n : Nat} {h : Nat → Nat → Nat} (hm : HC X n h) (hn : 0 < n) : K_X0_takeBackInto l ad [.ref 42, .ref 1] X (fun X' => HC X' (n - 1) h ∧ RS X' 1 (h (n - 1)) ∧ ∀ i, (i < 1 ∨ (20 ≤ i ∧ i < 42) ∨ 158 ≤ i) → X' i = X i) := by
  refine Ct.of [.ref 42, .ref 1] 0 (by decide +kernel) rfl (Nat.le_of_ble_eq_true rfl) (fun F hl hC hRt _ => ?_)
  subst hl
  obtain ⟨h0, hn6, L, hL, hl, hs⟩ := hm
  refine g_aload_1 hC dX0_takeBackInto_0 (pc' := 1) rfl ?_
  refine g_aload_0 hC dX0_takeBackInto_1 (pc' := 2) rfl ?_
  refine g_getR hC fl_X0_20 (sh_hist ad) rfl dX0_takeBackInto_2 (pc' := 5) rfl ?_
  refine g_aload_0 hC dX0_takeBackInto_5 (pc' := 6) rfl ?_
  refine g_getI hC fl_X0_15 (sh_hist ad) rfl (hl) dX0_takeBackInto_6 (pc' := 9) rfl ?_
  refine g_aald3 hC (sh_states ad) (Nat.le_of_ble_eq_true rfl) (by omega) (states_at (by omega)) dX0_takeBackInto_9 (pc' := 10) rfl ?_
  refine g_callV1V hC (c_tCopy (C := 44 + 19 * L) (g := h (n - 1)) isB_1 (isB_hist hL) (by omega) (by have z := hs (n - 1) (by omega); rw [show (L + 6 - (n - 1 - (n - 1))) % 6 = L by omega] at z; exact z)) ml_X0_25 (sh_st ad isB_1) rfl ⟨(Nat.le_of_ble_eq_true rfl), (Nat.le_of_ble_eq_true rfl)⟩ (Nat.le_of_ble_eq_true rfl) dX0_takeBackInto_10 (pc' := 13) rfl ⟨Nat.zero_le _, Nat.zero_le _⟩ (fun X10 q10 => ?_)
  obtain ⟨r10, f10⟩ := q10
  refine g_aload_0 hC dX0_takeBackInto_13 (pc' := 14) rfl ?_
  refine g_aload_0 hC dX0_takeBackInto_14 (pc' := 15) rfl ?_
  refine g_getI hC fl_X0_15 (sh_hist ad) rfl ((congrFun (f10 42 (by omega)) 1).trans hl) dX0_takeBackInto_15 (pc' := 18) rfl ?_
  have J31 : ∀ M : Nat, M = (L + 5) % 6 → G F (S0 ad) (0, 0) X10 31 [.ref 42, .ref 1] [.int (nI M), .ref 42] := by
    intro M hM; have hM6 : M < 6 := by omega
    refine g_putI hC fl_X0_15 (sh_hist ad) rfl rfl rfl dX0_takeBackInto_31 (pc' := 34) rfl ?_
    refine g_aload_0 hC dX0_takeBackInto_34 (pc' := 35) rfl ?_
    refine g_dup hC dX0_takeBackInto_35 (pc' := 36) rfl rfl ?_
    refine g_getI hC fl_X0_9 (sh_hist ad) rfl ((gu_id (by decide)).trans ((congrFun (f10 42 (by omega)) 0).trans h0)) dX0_takeBackInto_36 (pc' := 39) rfl ?_
    refine g_iconst hC dX0_takeBackInto_39 (pc' := 40) kc_iconst_1 rfl ?_
    refine g_isubN hC dX0_takeBackInto_40 (pc' := 41) rfl (by omega) ?_
    refine g_putI hC fl_X0_9 (sh_hist ad) rfl rfl rfl dX0_takeBackInto_41 (pc' := 44) rfl ?_
    refine g_vretV hC hRt dX0_takeBackInto_44 ?_
    exact ⟨hc_back hM hn6 hs hL (fun i a b => (gu_ne i (by omega)).trans ((gu_ne i (by omega)).trans (f10 i (by omega)))) gu_at ((gu_id (by decide)).trans gu_at), r10.of (fun i a b _ => (gu_ne i (by omega)).trans (gu_ne i (by omega))), fun i hi => (gu_ne i (by omega)).trans ((gu_ne i (by omega)).trans (f10 i (by omega)))⟩
  refine g_ifN_le hC dX0_takeBackInto_18 (pc' := 21) (tgt := 30) (by decide) rfl (by omega) (fun h18 => ?_) (fun h18 => ?_)
  · refine g_iconst hC dX0_takeBackInto_30 (pc' := 31) kc_iconst_5 rfl ?_
    exact g_weak (J31 _ (by omega)) (gle_s (gle_s gle_nil))
  · refine g_aload_0 hC dX0_takeBackInto_21 (pc' := 22) rfl ?_
    refine g_getI hC fl_X0_15 (sh_hist ad) rfl ((congrFun (f10 42 (by omega)) 1).trans hl) dX0_takeBackInto_22 (pc' := 25) rfl ?_
    refine g_iconst hC dX0_takeBackInto_25 (pc' := 26) kc_iconst_1 rfl ?_
    refine g_isubN hC dX0_takeBackInto_26 (pc' := 27) rfl (by omega) ?_
    refine g_goto hC dX0_takeBackInto_27 (tgt := 31) (by decide) ?_
    exact g_weak (J31 _ (by omega)) (gle_s (gle_s gle_nil))
