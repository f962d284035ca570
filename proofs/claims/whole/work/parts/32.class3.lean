/-! the class's state -/
def RS (X : gX) (B : Nat) (g : Nat → Nat) : Prop := (X (B + 2) 0 = nI (g 0) ∧ X (B + 2) 1 = nI (g 1)) ∧ (X B 2 = nI (g 2) ∧ X B 3 = lI (g 3)) ∧ ∀ t, t < 5 → SS X (B + 4 + 3 * t) g t
theorem RS.of {X Y : gX} {B : Nat} {g : Nat → Nat} (h : RS X B g) (e : ∀ i, B ≤ i → i < B + 19 → i ≠ B + 3 → Y i = X i) : RS Y B g :=
  ⟨by rw [e _ (by omega) (by omega) (by omega)]; exact h.1, by rw [e _ (by omega) (by omega) (by omega)]; exact h.2.1, fun t ht => (h.2.2 t ht).of (e _ (by omega) (by omega) (by omega)) (e _ (by omega) (by omega) (by omega)) (e _ (by omega) (by omega) (by omega))⟩
theorem RS.arr {X Y : gX} {B : Nat} {g : Nat → Nat} (h : RS X B g) (e : ∀ i, i ≠ B + 3 → Y i = X i) : RS Y B g := h.of (fun i _ _ h3 => e i h3)
theorem RS.congr {X : gX} {B : Nat} {g g' : Nat → Nat} (h : RS X B g) (e : ∀ j, j < 470 → g j = g' j) : RS X B g' :=
  ⟨by rw [← e 0 (by decide), ← e 1 (by decide)]; exact h.1, by rw [← e 2 (by decide), ← e 3 (by decide)]; exact h.2.1, fun t ht => (h.2.2 t ht).congr ht e⟩
theorem valI_0 {g : Nat → Nat} {s f : Nat} (h : last g s f = 0) : valI g s f = -6 := by unfold valI; rw [if_pos h]
theorem valI_p {g : Nat → Nat} {s f : Nat} (h : ¬ last g s f = 0) : valI g s f = nI (own g s f / 20) := by unfold valI; rw [if_neg h]
theorem strI_0 {g : Nat → Nat} {s f : Nat} (h : last g s f = 0) : strI g s f = -6 := by unfold strI; rw [if_pos h]
theorem strI_p {g : Nat → Nat} {s f : Nat} (h : ¬ last g s f = 0) : strI g s f = nI (own g s f / 2 % 10) := by unfold strI; rw [if_neg h]
theorem max_sub {a b : Nat} (ha : a < 1073741824) (hb : b < 1073741824) : (if nI 0 < nI a - nI b then nI a - nI b else nI 0) = nI (a - b) := by
  have h := isPr_sub ha hb
  split
  · exact h.1 ‹_›
  · rw [h.2 ‹_›]
theorem prs_out {g : Nat → Nat} {p t : Nat} (h : inS g t = false) : prs g p (t + 1) = prs g p t := by
  show (if inS g t = true then _ else _) = _
  rw [if_neg (by rw [h]; decide)]
theorem arv_t {g : Nat → Nat} {p t : Nat} (h : inS g t = true) : arv g p t = prs g p t := by unfold arv; rw [if_pos h]
theorem arv_f {g : Nat → Nat} {p t : Nat} (h : inS g t = false) : arv g p t = 0 := by unfold arv; rw [if_neg (by rw [h]; decide)]
theorem ms_put1 {X X1 : gX} {b t : Nat} {F : Nat → Nat} (h : (∀ j, j < t → X1 b j = nI (F j)) ∧ ∀ i, i ≠ b → X1 i = X i) (e : F t = 0) : (∀ j, j < t + 1 → gu X1 b t (nI 0) b j = nI (F j)) ∧ ∀ i, i ≠ b → gu X1 b t (nI 0) i = X i := by
  refine ⟨fun j hj => ?_, fun i hi => (gu_ne i hi).trans (h.2 i hi)⟩
  by_cases hz : j = t
  · subst hz; rw [gu_at, e]
  · rw [gu_id hz]; exact h.1 j (by omega)
theorem ms_put2 {X X1 : gX} {b t v : Nat} {F : Nat → Nat} (h : (∀ j, j < t → X1 b j = nI (F j)) ∧ ∀ i, i ≠ b → X1 i = X i) (e : F t = v) : (∀ j, j < t + 1 → gu (gu X1 b t (nI 0)) b t (nI v) b j = nI (F j)) ∧ ∀ i, i ≠ b → gu (gu X1 b t (nI 0)) b t (nI v) i = X i := by
  refine ⟨fun j hj => ?_, fun i hi => (gu_ne i hi).trans ((gu_ne i hi).trans (h.2 i hi))⟩
  by_cases hz : j = t
  · subst hz; rw [gu_at, e]
  · rw [gu_id hz, gu_id hz]; exact h.1 j (by omega)

set_option maxHeartbeats 4000000 in
set_option maxRecDepth 100000 in
theorem c_tEmpty {l : Launch} {ad : Nat → Nat} {X : gX} {B : Nat} {g : Nat → Nat} (hB : isB B) (hR : RS X B g) (hI : Inv g)  : K_X4_isStackEmpty l ad [.ref B] X (pR X (zI (decide (¬ g 2 < g 3)))) := by
  refine Ct.of [.ref B] 0 (by decide +kernel) rfl (Nat.le_of_ble_eq_true rfl) (fun F hl hC hRt _ => ?_)
  subst hl
  have b23 : g 2 ≤ g 3 ∧ g 3 ≤ 5 := hI.1.2.2
  refine g_aload_0 hC dX4_isStackEmpty_0 (pc' := 1) rfl ?_
  refine g_getI hC fl_X4_21 (sh_st ad hB) rfl (hR.2.1.1) dX4_isStackEmpty_1 (pc' := 4) rfl ?_
  refine g_aload_0 hC dX4_isStackEmpty_4 (pc' := 5) rfl ?_
  refine g_getI hC fl_X4_25 (sh_st ad hB) rfl (hR.2.1.2) dX4_isStackEmpty_5 (pc' := 8) rfl ?_
  refine g_icmpL_le hC dX4_isStackEmpty_8 (pc' := 11) (tgt := 15) (by decide) rfl (by omega) (by omega) (fun h8 => ?_) (fun h8 => ?_)
  · refine g_iconst hC dX4_isStackEmpty_15 (pc' := 16) kc_iconst_0 rfl ?_
    refine g_iretR hC hRt nz_0 dX4_isStackEmpty_16 (nI0_z ?_)
    simp; omega
  · refine g_iconst hC dX4_isStackEmpty_11 (pc' := 12) kc_iconst_1 rfl ?_
    refine g_goto hC dX4_isStackEmpty_12 (tgt := 16) (by decide) ?_
    refine g_iretR hC hRt nz_1 dX4_isStackEmpty_16 (nI1_z ?_)
    simp; omega

set_option maxHeartbeats 4000000 in
set_option maxRecDepth 100000 in
theorem c_tIn {l : Launch} {ad : Nat → Nat} {X : gX} {B : Nat} {g : Nat → Nat} (hB : isB B) (hR : RS X B g) (hI : Inv g) {s : Nat} (hs : s < 1073741824)  : K_X4_isInStack l ad [.ref B, .int (nI s)] X (pR X (zI (inS g s))) := by
  refine Ct.of [.ref B, .int (nI s)] 0 (by decide +kernel) rfl (Nat.le_of_ble_eq_true rfl) (fun F hl hC hRt _ => ?_)
  subst hl
  have b23 : g 2 ≤ g 3 ∧ g 3 ≤ 5 := hI.1.2.2
  refine g_iload_1 hC dX4_isInStack_0 (pc' := 1) rfl ?_
  refine g_aload_0 hC dX4_isInStack_1 (pc' := 2) rfl ?_
  refine g_getI hC fl_X4_21 (sh_st ad hB) rfl (hR.2.1.1) dX4_isInStack_2 (pc' := 5) rfl ?_
  refine g_icmpN_lt hC dX4_isInStack_5 (pc' := 8) (tgt := 20) (by decide) rfl (by omega) (by omega) (fun h5 => ?_) (fun h5 => ?_)
  · refine g_iconst hC dX4_isInStack_20 (pc' := 21) kc_iconst_0 rfl ?_
    refine g_iretR hC hRt nz_0 dX4_isInStack_21 (nI0_z ?_)
    simp [inS]; omega
  · refine g_iload_1 hC dX4_isInStack_8 (pc' := 9) rfl ?_
    refine g_aload_0 hC dX4_isInStack_9 (pc' := 10) rfl ?_
    refine g_getI hC fl_X4_25 (sh_st ad hB) rfl (hR.2.1.2) dX4_isInStack_10 (pc' := 13) rfl ?_
    refine g_icmpL_gt hC dX4_isInStack_13 (pc' := 16) (tgt := 20) (by decide) rfl (by omega) (by omega) (fun h13 => ?_) (fun h13 => ?_)
    · refine g_iconst hC dX4_isInStack_20 (pc' := 21) kc_iconst_0 rfl ?_
      refine g_iretR hC hRt nz_0 dX4_isInStack_21 (nI0_z ?_)
      simp [inS]; omega
    · refine g_iconst hC dX4_isInStack_16 (pc' := 17) kc_iconst_1 rfl ?_
      refine g_goto hC dX4_isInStack_17 (tgt := 21) (by decide) ?_
      refine g_iretR hC hRt nz_1 dX4_isInStack_21 (nI1_z ?_)
      simp [inS]; omega

set_option maxHeartbeats 4000000 in
set_option maxRecDepth 100000 in
theorem c_tStack {l : Launch} {ad : Nat → Nat} {X : gX} {B : Nat} {g : Nat → Nat} (hB : isB B) (hR : RS X B g) (hI : Inv g)  : K_X4_stack l ad [.ref B] X (pR X (nI (msk (inS g) 5))) := by
  refine Ct.of [.ref B, .null, .null] 2 (by decide +kernel) rfl (Nat.le_of_ble_eq_true rfl) (fun F hl hC hRt _ => ?_)
  subst hl
  refine g_iconst hC dX4_stack_0 (pc' := 1) kc_iconst_0 rfl ?_
  refine g_istore_1 hC dX4_stack_1 (pc' := 2) rfl (Nat.le_of_ble_eq_true rfl) rfl ?_
  refine g_iconst hC dX4_stack_2 (pc' := 3) kc_iconst_0 rfl ?_
  refine g_istore_2 hC dX4_stack_3 (pc' := 4) rfl (Nat.le_of_ble_eq_true rfl) rfl ?_
  have L4 : ∀ k, k ≤ 5 → G F (S0 ad) (0, 0) X 4 [.ref B, .int (nI (msk (inS g) k)), .int (nI k)] [] := by
    refine up_ind _ (fun k hk4 ih4 => ?_)
    refine g_iload_2 hC dX4_stack_4 (pc' := 5) rfl ?_
    refine g_iconst hC dX4_stack_5 (pc' := 6) kc_iconst_5 rfl ?_
    refine g_icmpN_ge hC dX4_stack_6 (pc' := 9) (tgt := 29) (by decide) rfl (by omega) (by omega) (fun h6 => ?_) (fun h6 => ?_)
    · refine g_iload_1 hC dX4_stack_29 (pc' := 30) rfl ?_
      refine g_iretR hC hRt rfl dX4_stack_30 ?_
      rw [show k = 5 by omega]
    · refine g_aload_0 hC dX4_stack_9 (pc' := 10) rfl ?_
      refine g_iload_2 hC dX4_stack_10 (pc' := 11) rfl ?_
      refine g_callV1R hC (c_tIn hB hR hI (s := k) (by omega)) ml_X4_36 (sh_st ad hB) rfl ⟨(Nat.le_of_ble_eq_true rfl), (Nat.le_of_ble_eq_true rfl)⟩ (Nat.le_of_ble_eq_true rfl) dX4_stack_11 (pc' := 14) rfl ⟨Nat.zero_le _, Nat.zero_le _⟩ ?_
      refine g_ifZ_eq hC dX4_stack_14 (pc' := 17) (tgt := 23) (by decide) rfl (fun h14 => ?_) (fun h14 => ?_)
      · refine g_iinc_2 hC dX4_stack_23 (pc' := 26) rfl (Nat.le_of_ble_eq_true rfl) rfl (nI_inc _ _ kc_iinc_1) ?_
        refine g_goto hC dX4_stack_26 (tgt := 4) (by decide) ?_
        exact g_weak (ih4 (by omega)) (gle_s (gle_i (by first | exact congrArg nI (msk_t h14) | exact congrArg nI (msk_f h14)) (gle_i (by first | rfl | omega) gle_nil)))
      · refine g_iload_1 hC dX4_stack_17 (pc' := 18) rfl ?_
        refine g_iconst hC dX4_stack_18 (pc' := 19) kc_iconst_1 rfl ?_
        refine g_iload_2 hC dX4_stack_19 (pc' := 20) rfl ?_
        refine g_ishl1 hC dX4_stack_20 (pc' := 21) rfl (by omega) ?_
        refine g_iorN hC dX4_stack_21 (pc' := 22) rfl ?_
        refine g_istore_1 hC dX4_stack_22 (pc' := 23) rfl (Nat.le_of_ble_eq_true rfl) rfl ?_
        refine g_iinc_2 hC dX4_stack_23 (pc' := 26) rfl (Nat.le_of_ble_eq_true rfl) rfl (nI_inc _ _ kc_iinc_1) ?_
        refine g_goto hC dX4_stack_26 (tgt := 4) (by decide) ?_
        exact g_weak (ih4 (by omega)) (gle_s (gle_i (by first | exact congrArg nI (msk_t h14) | exact congrArg nI (msk_f h14)) (gle_i (by first | rfl | omega) gle_nil)))
  exact g_weak (L4 0 (by exact Nat.zero_le _)) (gle_s (gle_i (by rfl) (gle_s gle_nil)))

set_option maxHeartbeats 4000000 in
set_option maxRecDepth 100000 in
theorem c_tKind {l : Launch} {ad : Nat → Nat} {X : gX} {B : Nat} {g : Nat → Nat} (hB : isB B) (hR : RS X B g) (hI : Inv g) {s f : Nat} (hs : s < 5) (hf : f < 10)  : K_X4_kindOf l ad [.ref B, .int (nI s), .int (nI f)] X (pR X (nI (kind g s f))) := by
  refine Ct.of [.ref B, .int (nI s), .int (nI f)] 0 (by decide +kernel) rfl (Nat.le_of_ble_eq_true rfl) (fun F hl hC hRt _ => ?_)
  subst hl
  refine g_aload_0 hC dX4_kindOf_0 (pc' := 1) rfl ?_
  refine g_getR hC fl_X4_11 (sh_st ad hB) rfl dX4_kindOf_1 (pc' := 4) rfl ?_
  refine g_iload_1 hC dX4_kindOf_4 (pc' := 5) rfl ?_
  refine g_aald4 hC (sh_st1 ad hB) (Nat.le_of_ble_eq_true rfl) (by omega) (sheets_at (by omega)) dX4_kindOf_5 (pc' := 6) rfl ?_
  refine g_iload_2 hC dX4_kindOf_6 (pc' := 7) rfl ?_
  refine g_aload_0 hC dX4_kindOf_7 (pc' := 8) rfl ?_
  refine g_getR hC fl_X4_17 (sh_st ad hB) rfl dX4_kindOf_8 (pc' := 11) rfl ?_
  refine g_iconst hC dX4_kindOf_11 (pc' := 12) kc_iconst_0 rfl ?_
  refine g_iald hC (sh_st2 ad hB) (Nat.le_of_ble_eq_true rfl) (by omega) (hR.1.1) dX4_kindOf_12 (pc' := 13) rfl ?_
  refine g_aload_0 hC dX4_kindOf_13 (pc' := 14) rfl ?_
  refine g_getR hC fl_X4_17 (sh_st ad hB) rfl dX4_kindOf_14 (pc' := 17) rfl ?_
  refine g_iconst hC dX4_kindOf_17 (pc' := 18) kc_iconst_1 rfl ?_
  refine g_iald hC (sh_st2 ad hB) (Nat.le_of_ble_eq_true rfl) (by omega) (hR.1.2) dX4_kindOf_18 (pc' := 19) rfl ?_
  refine g_callV3R hC (c_sKind hB (t := s) (by omega) (hR.2.2 _ (by omega)) hI (f := f) (by omega)) ml_X4_85 (sh_sheet ad hB (by omega)) rfl ⟨(Nat.le_of_ble_eq_true rfl), (Nat.le_of_ble_eq_true rfl)⟩ (Nat.le_of_ble_eq_true rfl) dX4_kindOf_19 (pc' := 22) rfl ⟨Nat.zero_le _, Nat.zero_le _⟩ ?_
  refine g_iretR hC hRt rfl dX4_kindOf_22 ?_
  first | rfl | simp_all | omega

set_option maxHeartbeats 4000000 in
set_option maxRecDepth 100000 in
theorem c_tFields {l : Launch} {ad : Nat → Nat} {X : gX} {B : Nat} {g : Nat → Nat} (hB : isB B) (hR : RS X B g) (hI : Inv g) {s c : Nat} (hs : s < 5) (hc : c < 3)  : K_X4_fieldsThatAre l ad [.ref B, .int (nI c), .int (nI s)] X (pR X (nI (msk (kset g s c) 10))) := by
  refine Ct.of [.ref B, .int (nI c), .int (nI s), .null, .null] 2 (by decide +kernel) rfl (Nat.le_of_ble_eq_true rfl) (fun F hl hC hRt _ => ?_)
  subst hl
  refine g_iconst hC dX4_fieldsThatAre_0 (pc' := 1) kc_iconst_0 rfl ?_
  refine g_istore_3 hC dX4_fieldsThatAre_1 (pc' := 2) rfl (Nat.le_of_ble_eq_true rfl) rfl ?_
  refine g_iconst hC dX4_fieldsThatAre_2 (pc' := 3) kc_iconst_0 rfl ?_
  refine g_istore_4 hC dX4_fieldsThatAre_3 (pc' := 5) rfl (Nat.le_of_ble_eq_true rfl) rfl ?_
  have L5 : ∀ k, k ≤ 10 → G F (S0 ad) (0, 0) X 5 [.ref B, .int (nI c), .int (nI s), .int (nI (msk (kset g s c) k)), .int (nI k)] [] := by
    refine up_ind _ (fun k hk5 ih5 => ?_)
    have bk := kind_le g s k
    refine g_iload_4 hC dX4_fieldsThatAre_5 (pc' := 7) rfl ?_
    refine g_bipush hC dX4_fieldsThatAre_7 (pc' := 9) kc_bipush_10 rfl ?_
    refine g_icmpN_ge hC dX4_fieldsThatAre_9 (pc' := 12) (tgt := 36) (by decide) rfl (by omega) (by omega) (fun h9 => ?_) (fun h9 => ?_)
    · refine g_iload_3 hC dX4_fieldsThatAre_36 (pc' := 37) rfl ?_
      refine g_iretR hC hRt rfl dX4_fieldsThatAre_37 ?_
      rw [show k = 10 by omega]
    · refine g_aload_0 hC dX4_fieldsThatAre_12 (pc' := 13) rfl ?_
      refine g_iload_2 hC dX4_fieldsThatAre_13 (pc' := 14) rfl ?_
      refine g_iload_4 hC dX4_fieldsThatAre_14 (pc' := 16) rfl ?_
      refine g_callV2R hC (c_tKind hB hR hI (s := s) (f := k) (by omega) (by omega)) ml_X4_89 (sh_st ad hB) rfl ⟨(Nat.le_of_ble_eq_true rfl), (Nat.le_of_ble_eq_true rfl)⟩ (Nat.le_of_ble_eq_true rfl) dX4_fieldsThatAre_16 (pc' := 19) rfl ⟨Nat.zero_le _, Nat.zero_le _⟩ ?_
      refine g_iload_1 hC dX4_fieldsThatAre_19 (pc' := 20) rfl ?_
      refine g_icmpN_ne hC dX4_fieldsThatAre_20 (pc' := 23) (tgt := 30) (by decide) rfl (by omega) (by omega) (fun h20 => ?_) (fun h20 => ?_)
      · refine g_iinc_4 hC dX4_fieldsThatAre_30 (pc' := 33) rfl (Nat.le_of_ble_eq_true rfl) rfl (nI_inc _ _ kc_iinc_1) ?_
        refine g_goto hC dX4_fieldsThatAre_33 (tgt := 5) (by decide) ?_
        exact g_weak (ih5 (by omega)) (gle_s (gle_s (gle_s (gle_i (by first | exact congrArg nI (msk_t (decide_eq_true h20)) | exact congrArg nI (msk_f (decide_eq_false h20))) (gle_i (by first | rfl | omega) gle_nil)))))
      · refine g_iload_3 hC dX4_fieldsThatAre_23 (pc' := 24) rfl ?_
        refine g_iconst hC dX4_fieldsThatAre_24 (pc' := 25) kc_iconst_1 rfl ?_
        refine g_iload_4 hC dX4_fieldsThatAre_25 (pc' := 27) rfl ?_
        refine g_ishl1 hC dX4_fieldsThatAre_27 (pc' := 28) rfl (by omega) ?_
        refine g_iorN hC dX4_fieldsThatAre_28 (pc' := 29) rfl ?_
        refine g_istore_3 hC dX4_fieldsThatAre_29 (pc' := 30) rfl (Nat.le_of_ble_eq_true rfl) rfl ?_
        refine g_iinc_4 hC dX4_fieldsThatAre_30 (pc' := 33) rfl (Nat.le_of_ble_eq_true rfl) rfl (nI_inc _ _ kc_iinc_1) ?_
        refine g_goto hC dX4_fieldsThatAre_33 (tgt := 5) (by decide) ?_
        exact g_weak (ih5 (by omega)) (gle_s (gle_s (gle_s (gle_i (by first | exact congrArg nI (msk_t (decide_eq_true h20)) | exact congrArg nI (msk_f (decide_eq_false h20))) (gle_i (by first | rfl | omega) gle_nil)))))
  exact g_weak (L5 0 (by exact Nat.zero_le _)) (gle_s (gle_s (gle_s (gle_i (by rfl) (gle_s gle_nil)))))

set_option maxHeartbeats 4000000 in
set_option maxRecDepth 100000 in
theorem c_tValue {l : Launch} {ad : Nat → Nat} {X : gX} {B : Nat} {g : Nat → Nat} (hB : isB B) (hR : RS X B g) (hI : Inv g) {s f : Nat} (hs : s < 5) (hf : f < 10)  : K_X4_lastValue l ad [.ref B, .int (nI s), .int (nI f)] X (pR X (valI g s f)) := by
  refine Ct.of [.ref B, .int (nI s), .int (nI f), .null] 1 (by decide +kernel) rfl (Nat.le_of_ble_eq_true rfl) (fun F hl hC hRt _ => ?_)
  subst hl
  have bc := hI.c hs hf
  have bl := last_le g s f
  refine g_aload_0 hC dX4_lastValue_0 (pc' := 1) rfl ?_
  refine g_getR hC fl_X4_11 (sh_st ad hB) rfl dX4_lastValue_1 (pc' := 4) rfl ?_
  refine g_iload_1 hC dX4_lastValue_4 (pc' := 5) rfl ?_
  refine g_aald4 hC (sh_st1 ad hB) (Nat.le_of_ble_eq_true rfl) (by omega) (sheets_at (by omega)) dX4_lastValue_5 (pc' := 6) rfl ?_
  refine g_iload_2 hC dX4_lastValue_6 (pc' := 7) rfl ?_
  refine g_aload_0 hC dX4_lastValue_7 (pc' := 8) rfl ?_
  refine g_getR hC fl_X4_17 (sh_st ad hB) rfl dX4_lastValue_8 (pc' := 11) rfl ?_
  refine g_iconst hC dX4_lastValue_11 (pc' := 12) kc_iconst_0 rfl ?_
  refine g_iald hC (sh_st2 ad hB) (Nat.le_of_ble_eq_true rfl) (by omega) (hR.1.1) dX4_lastValue_12 (pc' := 13) rfl ?_
  refine g_callV2R hC (c_sLast hB hs (hR.2.2 s hs) hI hf) ml_X4_94 (sh_sheet ad hB (by omega)) rfl ⟨(Nat.le_of_ble_eq_true rfl), (Nat.le_of_ble_eq_true rfl)⟩ (Nat.le_of_ble_eq_true rfl) dX4_lastValue_13 (pc' := 16) rfl ⟨Nat.zero_le _, Nat.zero_le _⟩ ?_
  refine g_istore_3 hC dX4_lastValue_16 (pc' := 17) rfl (Nat.le_of_ble_eq_true rfl) rfl ?_
  refine g_iload_3 hC dX4_lastValue_17 (pc' := 18) rfl ?_
  refine g_if_ge hC dX4_lastValue_18 (pc' := 21) (tgt := 26) (by decide) rfl (fun h18 => ?_) (fun h18 => ?_)
  · have hl : ¬ last g s f = 0 := (oI_ge (by omega)).mp h18
    rw [oI_pos hl]
    refine g_aload_0 hC dX4_lastValue_26 (pc' := 27) rfl ?_
    refine g_getR hC fl_X4_11 (sh_st ad hB) rfl dX4_lastValue_27 (pc' := 30) rfl ?_
    refine g_iload_1 hC dX4_lastValue_30 (pc' := 31) rfl ?_
    refine g_aald4 hC (sh_st1 ad hB) (Nat.le_of_ble_eq_true rfl) (by omega) (sheets_at (by omega)) dX4_lastValue_31 (pc' := 32) rfl ?_
    refine g_iload_2 hC dX4_lastValue_32 (pc' := 33) rfl ?_
    refine g_iload_3 hC dX4_lastValue_33 (pc' := 34) rfl ?_
    refine g_callV2R hC (c_sValue hB hs (hR.2.2 s hs) hI hf (k := last g s f - 1) (by omega)) ml_X4_97 (sh_sheet ad hB (by omega)) rfl ⟨(Nat.le_of_ble_eq_true rfl), (Nat.le_of_ble_eq_true rfl)⟩ (Nat.le_of_ble_eq_true rfl) dX4_lastValue_34 (pc' := 37) rfl ⟨Nat.zero_le _, Nat.zero_le _⟩ ?_
    refine g_iretR hC hRt rfl dX4_lastValue_37 ?_
    first | rw [valI_0 hl] | (rw [valI_p hl]; rfl)
  · have hl : last g s f = 0 := Decidable.not_not.mp (fun z => h18 ((oI_ge (by omega)).mpr z))
    refine g_bipush hC dX4_lastValue_21 (pc' := 23) kc_bipush_m6 rfl ?_
    refine g_goto hC dX4_lastValue_23 (tgt := 37) (by decide) ?_
    refine g_iretR hC hRt rfl dX4_lastValue_37 ?_
    first | rw [valI_0 hl] | (rw [valI_p hl]; rfl)

theorem c_tValueN {l : Launch} {ad : Nat → Nat} {X : gX} {B : Nat} {g : Nat → Nat} (hB : isB B) (hR : RS X B g) (hI : Inv g) {s f : Nat} (hs : s < 5) (hf : f < 10) (hk : kind g s f = 1) : K_X4_lastValue l ad [.ref B, .int (nI s), .int (nI f)] X (pR X (nI (vN g s f))) := by
  rw [← valI_1 hk]
  exact c_tValue hB hR hI hs hf
set_option maxHeartbeats 4000000 in
set_option maxRecDepth 100000 in
theorem c_tStrength {l : Launch} {ad : Nat → Nat} {X : gX} {B : Nat} {g : Nat → Nat} (hB : isB B) (hR : RS X B g) (hI : Inv g) {s f : Nat} (hs : s < 5) (hf : f < 10)  : K_X4_lastStrength l ad [.ref B, .int (nI s), .int (nI f)] X (pR X (strI g s f)) := by
  refine Ct.of [.ref B, .int (nI s), .int (nI f), .null] 1 (by decide +kernel) rfl (Nat.le_of_ble_eq_true rfl) (fun F hl hC hRt _ => ?_)
  subst hl
  have bc := hI.c hs hf
  have bl := last_le g s f
  refine g_aload_0 hC dX4_lastStrength_0 (pc' := 1) rfl ?_
  refine g_getR hC fl_X4_11 (sh_st ad hB) rfl dX4_lastStrength_1 (pc' := 4) rfl ?_
  refine g_iload_1 hC dX4_lastStrength_4 (pc' := 5) rfl ?_
  refine g_aald4 hC (sh_st1 ad hB) (Nat.le_of_ble_eq_true rfl) (by omega) (sheets_at (by omega)) dX4_lastStrength_5 (pc' := 6) rfl ?_
  refine g_iload_2 hC dX4_lastStrength_6 (pc' := 7) rfl ?_
  refine g_aload_0 hC dX4_lastStrength_7 (pc' := 8) rfl ?_
  refine g_getR hC fl_X4_17 (sh_st ad hB) rfl dX4_lastStrength_8 (pc' := 11) rfl ?_
  refine g_iconst hC dX4_lastStrength_11 (pc' := 12) kc_iconst_0 rfl ?_
  refine g_iald hC (sh_st2 ad hB) (Nat.le_of_ble_eq_true rfl) (by omega) (hR.1.1) dX4_lastStrength_12 (pc' := 13) rfl ?_
  refine g_callV2R hC (c_sLast hB hs (hR.2.2 s hs) hI hf) ml_X4_94 (sh_sheet ad hB (by omega)) rfl ⟨(Nat.le_of_ble_eq_true rfl), (Nat.le_of_ble_eq_true rfl)⟩ (Nat.le_of_ble_eq_true rfl) dX4_lastStrength_13 (pc' := 16) rfl ⟨Nat.zero_le _, Nat.zero_le _⟩ ?_
  refine g_istore_3 hC dX4_lastStrength_16 (pc' := 17) rfl (Nat.le_of_ble_eq_true rfl) rfl ?_
  refine g_iload_3 hC dX4_lastStrength_17 (pc' := 18) rfl ?_
  refine g_if_ge hC dX4_lastStrength_18 (pc' := 21) (tgt := 26) (by decide) rfl (fun h18 => ?_) (fun h18 => ?_)
  · have hl : ¬ last g s f = 0 := (oI_ge (by omega)).mp h18
    rw [oI_pos hl]
    refine g_aload_0 hC dX4_lastStrength_26 (pc' := 27) rfl ?_
    refine g_getR hC fl_X4_11 (sh_st ad hB) rfl dX4_lastStrength_27 (pc' := 30) rfl ?_
    refine g_iload_1 hC dX4_lastStrength_30 (pc' := 31) rfl ?_
    refine g_aald4 hC (sh_st1 ad hB) (Nat.le_of_ble_eq_true rfl) (by omega) (sheets_at (by omega)) dX4_lastStrength_31 (pc' := 32) rfl ?_
    refine g_iload_2 hC dX4_lastStrength_32 (pc' := 33) rfl ?_
    refine g_iload_3 hC dX4_lastStrength_33 (pc' := 34) rfl ?_
    refine g_callV2R hC (c_sStrength hB hs (hR.2.2 s hs) hI hf (k := last g s f - 1) (by omega)) ml_X4_100 (sh_sheet ad hB (by omega)) rfl ⟨(Nat.le_of_ble_eq_true rfl), (Nat.le_of_ble_eq_true rfl)⟩ (Nat.le_of_ble_eq_true rfl) dX4_lastStrength_34 (pc' := 37) rfl ⟨Nat.zero_le _, Nat.zero_le _⟩ ?_
    refine g_iretR hC hRt rfl dX4_lastStrength_37 ?_
    first | rw [strI_0 hl] | (rw [strI_p hl]; rfl)
  · have hl : last g s f = 0 := Decidable.not_not.mp (fun z => h18 ((oI_ge (by omega)).mpr z))
    refine g_bipush hC dX4_lastStrength_21 (pc' := 23) kc_bipush_m6 rfl ?_
    refine g_goto hC dX4_lastStrength_23 (tgt := 37) (by decide) ?_
    refine g_iretR hC hRt rfl dX4_lastStrength_37 ?_
    first | rw [strI_0 hl] | (rw [strI_p hl]; rfl)

theorem c_tStrengthN {l : Launch} {ad : Nat → Nat} {X : gX} {B : Nat} {g : Nat → Nat} (hB : isB B) (hR : RS X B g) (hI : Inv g) {s f : Nat} (hs : s < 5) (hf : f < 10) (hk : kind g s f = 1) : K_X4_lastStrength l ad [.ref B, .int (nI s), .int (nI f)] X (pR X (nI (pN g s f))) := by
  rw [← strI_1 hk]
  exact c_tStrength hB hR hI hs hf
set_option maxHeartbeats 4000000 in
set_option maxRecDepth 100000 in
theorem c_tSame {l : Launch} {ad : Nat → Nat} {X : gX} {B : Nat} {g : Nat → Nat} (hB : isB B) (hR : RS X B g) (hI : Inv g) {s u f : Nat} (hs : s < 5) (hu : u < 5) (hf : f < 10)  : K_X4_readTheSame l ad [.ref B, .int (nI s), .int (nI u), .int (nI f)] X (pR X (zI (!difB g s u f))) := by
  refine Ct.of [.ref B, .int (nI s), .int (nI u), .int (nI f), .null] 1 (by decide +kernel) rfl (Nat.le_of_ble_eq_true rfl) (fun F hl hC hRt _ => ?_)
  subst hl
  have bs := kind_le g s f
  have bu := kind_le g u f
  refine g_aload_0 hC dX4_readTheSame_0 (pc' := 1) rfl ?_
  refine g_iload_1 hC dX4_readTheSame_1 (pc' := 2) rfl ?_
  refine g_iload_3 hC dX4_readTheSame_2 (pc' := 3) rfl ?_
  refine g_callV2R hC (c_tKind hB hR hI (s := s) (f := f) (by omega) (by omega)) ml_X4_89 (sh_st ad hB) rfl ⟨(Nat.le_of_ble_eq_true rfl), (Nat.le_of_ble_eq_true rfl)⟩ (Nat.le_of_ble_eq_true rfl) dX4_readTheSame_3 (pc' := 6) rfl ⟨Nat.zero_le _, Nat.zero_le _⟩ ?_
  refine g_istore_4 hC dX4_readTheSame_6 (pc' := 8) rfl (Nat.le_of_ble_eq_true rfl) rfl ?_
  refine g_iload_4 hC dX4_readTheSame_8 (pc' := 10) rfl ?_
  refine g_aload_0 hC dX4_readTheSame_10 (pc' := 11) rfl ?_
  refine g_iload_2 hC dX4_readTheSame_11 (pc' := 12) rfl ?_
  refine g_iload_3 hC dX4_readTheSame_12 (pc' := 13) rfl ?_
  refine g_callV2R hC (c_tKind hB hR hI (s := u) (f := f) (by omega) (by omega)) ml_X4_89 (sh_st ad hB) rfl ⟨(Nat.le_of_ble_eq_true rfl), (Nat.le_of_ble_eq_true rfl)⟩ (Nat.le_of_ble_eq_true rfl) dX4_readTheSame_13 (pc' := 16) rfl ⟨Nat.zero_le _, Nat.zero_le _⟩ ?_
  refine g_icmpN_eq hC dX4_readTheSame_16 (pc' := 19) (tgt := 21) (by decide) rfl (by omega) (by omega) (fun h16 => ?_) (fun h16 => ?_)
  · refine g_iload_4 hC dX4_readTheSame_21 (pc' := 23) rfl ?_
    refine g_iconst hC dX4_readTheSame_23 (pc' := 24) kc_iconst_1 rfl ?_
    refine g_icmpN_ne hC dX4_readTheSame_24 (pc' := 27) (tgt := 42) (by decide) rfl (by omega) (by omega) (fun h24 => ?_) (fun h24 => ?_)
    · refine g_iconst hC dX4_readTheSame_42 (pc' := 43) kc_iconst_1 rfl ?_
      refine g_goto hC dX4_readTheSame_43 (tgt := 47) (by decide) ?_
      refine g_iretR hC hRt nz_1 dX4_readTheSame_47 (nI1_z ?_)
      simp only [difB, Bool.not_not]
      first | (simp [*]; done) | (rw [← h16]; simp [*]; done) | (simp [*]; omega)
    · have v1 := vN_lt hI hs hf h24
      have v2 := vN_lt hI hu hf (show kind g u f = 1 by omega)
      refine g_aload_0 hC dX4_readTheSame_27 (pc' := 28) rfl ?_
      refine g_iload_1 hC dX4_readTheSame_28 (pc' := 29) rfl ?_
      refine g_iload_3 hC dX4_readTheSame_29 (pc' := 30) rfl ?_
      refine g_callV2R hC (c_tValueN hB hR hI hs hf h24) ml_X4_91 (sh_st ad hB) rfl ⟨(Nat.le_of_ble_eq_true rfl), (Nat.le_of_ble_eq_true rfl)⟩ (Nat.le_of_ble_eq_true rfl) dX4_readTheSame_30 (pc' := 33) rfl ⟨Nat.zero_le _, Nat.zero_le _⟩ ?_
      refine g_aload_0 hC dX4_readTheSame_33 (pc' := 34) rfl ?_
      refine g_iload_2 hC dX4_readTheSame_34 (pc' := 35) rfl ?_
      refine g_iload_3 hC dX4_readTheSame_35 (pc' := 36) rfl ?_
      refine g_callV2R hC (c_tValueN hB hR hI hu hf (by omega)) ml_X4_91 (sh_st ad hB) rfl ⟨(Nat.le_of_ble_eq_true rfl), (Nat.le_of_ble_eq_true rfl)⟩ (Nat.le_of_ble_eq_true rfl) dX4_readTheSame_36 (pc' := 39) rfl ⟨Nat.zero_le _, Nat.zero_le _⟩ ?_
      refine g_icmpN_ne hC dX4_readTheSame_39 (pc' := 42) (tgt := 46) (by decide) rfl (by omega) (by omega) (fun h39 => ?_) (fun h39 => ?_)
      · refine g_iconst hC dX4_readTheSame_46 (pc' := 47) kc_iconst_0 rfl ?_
        refine g_iretR hC hRt nz_0 dX4_readTheSame_47 (nI0_z ?_)
        simp only [difB, Bool.not_not]
        first | (simp [*]; done) | (rw [← h16]; simp [*]; done) | (simp [*]; omega)
      · refine g_iconst hC dX4_readTheSame_42 (pc' := 43) kc_iconst_1 rfl ?_
        refine g_goto hC dX4_readTheSame_43 (tgt := 47) (by decide) ?_
        refine g_iretR hC hRt nz_1 dX4_readTheSame_47 (nI1_z ?_)
        simp only [difB, Bool.not_not]
        first | (simp [*]; done) | (rw [← h16]; simp [*]; done) | (simp [*]; omega)
  · refine g_iconst hC dX4_readTheSame_19 (pc' := 20) kc_iconst_0 rfl ?_
    refine g_iretR hC hRt nz_0 dX4_readTheSame_20 (nI0_z ?_)
    simp only [difB, Bool.not_not]
    first | (simp [*]; done) | (rw [← h16]; simp [*]; done) | (simp [*]; omega)

set_option maxHeartbeats 4000000 in
set_option maxRecDepth 100000 in
theorem c_tAll {l : Launch} {ad : Nat → Nat} {X : gX} {B : Nat} {g : Nat → Nat} (hB : isB B) (hR : RS X B g) (hI : Inv g)  : K_X4_allMarks l ad [.ref B] X (pR X (nI (allM g))) := by
  refine Ct.of [.ref B, .null, .null] 2 (by decide +kernel) rfl (Nat.le_of_ble_eq_true rfl) (fun F hl hC hRt _ => ?_)
  subst hl
  refine g_iconst hC dX4_allMarks_0 (pc' := 1) kc_iconst_0 rfl ?_
  refine g_istore_1 hC dX4_allMarks_1 (pc' := 2) rfl (Nat.le_of_ble_eq_true rfl) rfl ?_
  refine g_iconst hC dX4_allMarks_2 (pc' := 3) kc_iconst_0 rfl ?_
  refine g_istore_2 hC dX4_allMarks_3 (pc' := 4) rfl (Nat.le_of_ble_eq_true rfl) rfl ?_
  have L4 : ∀ k, k ≤ 5 → G F (S0 ad) (0, 0) X 4 [.ref B, .int (nI (smN (fun t => marks g t false) k)), .int (nI k)] [] := by
    refine up_ind _ (fun k hk4 ih4 => ?_)
    refine g_iload_2 hC dX4_allMarks_4 (pc' := 5) rfl ?_
    refine g_iconst hC dX4_allMarks_5 (pc' := 6) kc_iconst_5 rfl ?_
    refine g_icmpN_ge hC dX4_allMarks_6 (pc' := 9) (tgt := 27) (by decide) rfl (by omega) (by omega) (fun h6 => ?_) (fun h6 => ?_)
    · refine g_iload_1 hC dX4_allMarks_27 (pc' := 28) rfl ?_
      refine g_iretR hC hRt rfl dX4_allMarks_28 ?_
      rw [show k = 5 by omega]; rfl
    · refine g_iload_1 hC dX4_allMarks_9 (pc' := 10) rfl ?_
      refine g_aload_0 hC dX4_allMarks_10 (pc' := 11) rfl ?_
      refine g_getR hC fl_X4_11 (sh_st ad hB) rfl dX4_allMarks_11 (pc' := 14) rfl ?_
      refine g_iload_2 hC dX4_allMarks_14 (pc' := 15) rfl ?_
      refine g_aald4 hC (sh_st1 ad hB) (Nat.le_of_ble_eq_true rfl) (by omega) (sheets_at (by omega)) dX4_allMarks_15 (pc' := 16) rfl ?_
      refine g_callV0R hC (c_sAll hB (t := k) (by omega) (hR.2.2 k (by omega)) hI) ml_X4_103 (sh_sheet ad hB (by omega)) rfl ⟨(Nat.le_of_ble_eq_true rfl), (Nat.le_of_ble_eq_true rfl)⟩ (Nat.le_of_ble_eq_true rfl) dX4_allMarks_16 (pc' := 19) rfl ⟨Nat.zero_le _, Nat.zero_le _⟩ ?_
      refine g_iaddN hC dX4_allMarks_19 (pc' := 20) rfl ?_
      refine g_istore_1 hC dX4_allMarks_20 (pc' := 21) rfl (Nat.le_of_ble_eq_true rfl) rfl ?_
      refine g_iinc_2 hC dX4_allMarks_21 (pc' := 24) rfl (Nat.le_of_ble_eq_true rfl) rfl (nI_inc _ _ kc_iinc_1) ?_
      refine g_goto hC dX4_allMarks_24 (tgt := 4) (by decide) ?_
      exact g_weak (ih4 (by omega)) (gle_s (gle_i (by rfl) (gle_i (by first | rfl | omega) gle_nil)))
  exact g_weak (L4 0 (by exact Nat.zero_le _)) (gle_s (gle_i (by rfl) (gle_s gle_nil)))

set_option maxHeartbeats 4000000 in
set_option maxRecDepth 100000 in
theorem c_tMeasure {l : Launch} {ad : Nat → Nat} {X : gX} {B : Nat} {g : Nat → Nat} (hB : isB B) (hR : RS X B g) (hI : Inv g) {p : Nat} (hp : p ≤ 9)  : K_X4_measure l ad [.ref B, .int (nI p)] X (fun X' => (∀ t, t < 5 → X' (B + 3) t = nI (arv g p t)) ∧ ∀ i, i ≠ B + 3 → X' i = X i) := by
  refine Ct.of [.ref B, .int (nI p), .null, .null, .null] 3 (by decide +kernel) rfl (Nat.le_of_ble_eq_true rfl) (fun F hl hC hRt _ => ?_)
  subst hl
  refine g_iload_1 hC dX4_measure_0 (pc' := 1) rfl ?_
  refine g_istore_2 hC dX4_measure_1 (pc' := 2) rfl (Nat.le_of_ble_eq_true rfl) rfl ?_
  refine g_iconst hC dX4_measure_2 (pc' := 3) kc_iconst_0 rfl ?_
  refine g_istore_3 hC dX4_measure_3 (pc' := 4) rfl (Nat.le_of_ble_eq_true rfl) rfl ?_
  have L4 : ∀ t, t ≤ 5 → ∀ X1 : gX, ((∀ j, j < t → X1 (B + 3) j = nI (arv g p j)) ∧ ∀ i, i ≠ B + 3 → X1 i = X i) → G F (S0 ad) (0, 0) X1 4 [.ref B, .int (nI p), .int (nI (prs g p t)), .int (nI t), .null] [] := by
    refine up_ind _ (fun t hk4 ih4 => ?_)
    intro X1 hm4
    have hR2 := hR.arr hm4.2
    refine g_iload_3 hC dX4_measure_4 (pc' := 5) rfl ?_
    refine g_iconst hC dX4_measure_5 (pc' := 6) kc_iconst_5 rfl ?_
    refine g_icmpN_ge hC dX4_measure_6 (pc' := 9) (tgt := 81) (by decide) rfl (by omega) (by omega) (fun h6 => ?_) (fun h6 => ?_)
    · refine g_vretV hC hRt dX4_measure_81 ?_
      exact ⟨fun j hj => hm4.1 j (by omega), hm4.2⟩
    · have bt := hI.t (show t < 5 by omega)
      have bp := prs_le g p t
      refine g_aload_0 hC dX4_measure_9 (pc' := 10) rfl ?_
      refine g_getR hC fl_X4_28 (sh_st ad hB) rfl dX4_measure_10 (pc' := 13) rfl ?_
      refine g_iload_3 hC dX4_measure_13 (pc' := 14) rfl ?_
      refine g_iconst hC dX4_measure_14 (pc' := 15) kc_iconst_0 rfl ?_
      refine g_iast hC (sh_st3 ad hB) (Nat.le_of_ble_eq_true rfl) (by omega) dX4_measure_15 (pc' := 16) rfl ?_
      refine g_aload_0 hC dX4_measure_16 (pc' := 17) rfl ?_
      refine g_iload_3 hC dX4_measure_17 (pc' := 18) rfl ?_
      refine g_callV1R hC (c_tIn hB (hR2.arr gu_ne) hI (s := t) (by omega)) ml_X4_36 (sh_st ad hB) rfl ⟨(Nat.le_of_ble_eq_true rfl), (Nat.le_of_ble_eq_true rfl)⟩ (Nat.le_of_ble_eq_true rfl) dX4_measure_18 (pc' := 21) rfl ⟨Nat.zero_le _, Nat.zero_le _⟩ ?_
      refine g_ifZ_eq hC dX4_measure_21 (pc' := 24) (tgt := 75) (by decide) rfl (fun h21 => ?_) (fun h21 => ?_)
      · refine g_iinc_3 hC dX4_measure_75 (pc' := 78) rfl (Nat.le_of_ble_eq_true rfl) rfl (nI_inc _ _ kc_iinc_1) ?_
        refine g_goto hC dX4_measure_78 (tgt := 4) (by decide) ?_
        exact g_weak (ih4 (by omega) _ (by first | exact ms_put1 hm4 (arv_f h21) | exact ms_put2 hm4 (arv_t h21))) (gle_s (gle_s (gle_i (by first | rw [prs_out h21] | (rw [prs_in h21, if_pos (by omega)]) | (rw [prs_in h21, if_neg (by omega)])) (gle_i (by first | rfl | omega) (gle_u gle_nil)))))
      · refine g_aload_0 hC dX4_measure_24 (pc' := 25) rfl ?_
        refine g_getR hC fl_X4_28 (sh_st ad hB) rfl dX4_measure_25 (pc' := 28) rfl ?_
        refine g_iload_3 hC dX4_measure_28 (pc' := 29) rfl ?_
        refine g_iload_2 hC dX4_measure_29 (pc' := 30) rfl ?_
        refine g_iast hC (sh_st3 ad hB) (Nat.le_of_ble_eq_true rfl) (by omega) dX4_measure_30 (pc' := 31) rfl ?_
        refine g_aload_0 hC dX4_measure_31 (pc' := 32) rfl ?_
        refine g_getR hC fl_X4_11 (sh_st ad hB) rfl dX4_measure_32 (pc' := 35) rfl ?_
        refine g_iload_3 hC dX4_measure_35 (pc' := 36) rfl ?_
        refine g_aald4 hC (sh_st1 ad hB) (Nat.le_of_ble_eq_true rfl) (by omega) (sheets_at (by omega)) dX4_measure_36 (pc' := 37) rfl ?_
        refine g_getI hC fl_X4_43 (sh_sheet ad hB (by omega)) rfl ((congrFun ((gu_ne _ (by omega)).trans (gu_ne _ (by omega))) 1).trans (hR2.2.2 t (by omega)).1.2.1) dX4_measure_37 (pc' := 40) rfl ?_
        refine g_ifN_le hC dX4_measure_40 (pc' := 43) (tgt := 47) (by decide) rfl (by omega) (fun h40 => ?_) (fun h40 => ?_)
        · refine g_iconst hC dX4_measure_47 (pc' := 48) kc_iconst_0 rfl ?_
          refine g_istore_4 hC dX4_measure_48 (pc' := 50) rfl (Nat.le_of_ble_eq_true rfl) rfl ?_
          refine g_iload_4 hC dX4_measure_50 (pc' := 52) rfl ?_
          refine g_ifN_eq hC dX4_measure_52 (pc' := 55) (tgt := 73) (by decide) rfl (by omega) (fun h52 => ?_) (fun h52 => by omega)
          refine g_iconst hC dX4_measure_73 (pc' := 74) kc_iconst_0 rfl ?_
          refine g_istore_2 hC dX4_measure_74 (pc' := 75) rfl (Nat.le_of_ble_eq_true rfl) rfl ?_
          refine g_iinc_3 hC dX4_measure_75 (pc' := 78) rfl (Nat.le_of_ble_eq_true rfl) rfl (nI_inc _ _ kc_iinc_1) ?_
          refine g_goto hC dX4_measure_78 (tgt := 4) (by decide) ?_
          exact g_weak (ih4 (by omega) _ (by first | exact ms_put1 hm4 (arv_f h21) | exact ms_put2 hm4 (arv_t h21))) (gle_s (gle_s (gle_i (by first | rw [prs_out h21] | (rw [prs_in h21, if_pos (by omega)]) | (rw [prs_in h21, if_neg (by omega)])) (gle_i (by first | rfl | omega) (gle_u gle_nil)))))
        · refine g_iconst hC dX4_measure_43 (pc' := 44) kc_iconst_1 rfl ?_
          refine g_goto hC dX4_measure_44 (tgt := 48) (by decide) ?_
          refine g_istore_4 hC dX4_measure_48 (pc' := 50) rfl (Nat.le_of_ble_eq_true rfl) rfl ?_
          refine g_iload_4 hC dX4_measure_50 (pc' := 52) rfl ?_
          refine g_ifN_eq hC dX4_measure_52 (pc' := 55) (tgt := 73) (by decide) rfl (by omega) (fun h52 => by omega) (fun h52 => ?_)
          refine g_iconst hC dX4_measure_55 (pc' := 56) kc_iconst_0 rfl ?_
          refine g_iload_2 hC dX4_measure_56 (pc' := 57) rfl ?_
          refine g_aload_0 hC dX4_measure_57 (pc' := 58) rfl ?_
          refine g_getR hC fl_X4_11 (sh_st ad hB) rfl dX4_measure_58 (pc' := 61) rfl ?_
          refine g_iload_3 hC dX4_measure_61 (pc' := 62) rfl ?_
          refine g_aald4 hC (sh_st1 ad hB) (Nat.le_of_ble_eq_true rfl) (by omega) (sheets_at (by omega)) dX4_measure_62 (pc' := 63) rfl ?_
          refine g_getI hC fl_X4_46 (sh_sheet ad hB (by omega)) rfl ((congrFun ((gu_ne _ (by omega)).trans (gu_ne _ (by omega))) 0).trans (hR2.2.2 t (by omega)).1.1) dX4_measure_63 (pc' := 66) rfl ?_
          refine g_isub hC dX4_measure_66 (pc' := 67) rfl ?_
          refine g_mmax hC ml_X4_49 ⟨(Nat.le_of_ble_eq_true rfl), (Nat.le_of_ble_eq_true rfl)⟩ ⟨Nat.zero_le _, Nat.zero_le _⟩ dX4_measure_67 (pc' := 70) rfl ?_
          rw [max_sub (by omega) (by omega)]
          refine g_goto hC dX4_measure_70 (tgt := 74) (by decide) ?_
          refine g_istore_2 hC dX4_measure_74 (pc' := 75) rfl (Nat.le_of_ble_eq_true rfl) rfl ?_
          refine g_iinc_3 hC dX4_measure_75 (pc' := 78) rfl (Nat.le_of_ble_eq_true rfl) rfl (nI_inc _ _ kc_iinc_1) ?_
          refine g_goto hC dX4_measure_78 (tgt := 4) (by decide) ?_
          exact g_weak (ih4 (by omega) _ (by first | exact ms_put1 hm4 (arv_f h21) | exact ms_put2 hm4 (arv_t h21))) (gle_s (gle_s (gle_i (by first | rw [prs_out h21] | (rw [prs_in h21, if_pos (by omega)]) | (rw [prs_in h21, if_neg (by omega)])) (gle_i (by first | rfl | omega) (gle_u gle_nil)))))
  exact g_weak (L4 0 (by exact Nat.zero_le _) _ (by exact ⟨fun j hj => absurd hj (Nat.not_lt_zero j), fun _ _ => rfl⟩)) (gle_s (gle_s (gle_i (by rfl) (gle_s (gle_u gle_nil)))))
