def cel (t j : Nat) : Prop := j = 4 + t ∨ j = 9 + t ∨ j = 14 + t ∨ (20 + 10 * t ≤ j ∧ j < 30 + 10 * t) ∨ (70 + 80 * t ≤ j ∧ j < 150 + 80 * t)
theorem SS.cg {X : gX} {b t : Nat} {g g' : Nat → Nat} (h : SS X b g t) (e : ∀ j, cel t j → g' j = g j) : SS X b g' t := by
  refine ⟨⟨?_, ?_, ?_⟩, fun f hf => ?_, fun f k hf hk hc => ?_⟩
  · rw [e _ (by unfold cel; omega)]; exact h.1.1
  · rw [e _ (by unfold cel; omega)]; exact h.1.2.1
  · rw [e _ (by unfold cel; omega)]; exact h.1.2.2
  · have := h.2.1 f hf; unfold cnt at *; rw [e _ (by unfold cel; omega)]; exact this
  · unfold cnt at hc; rw [e _ (by unfold cel; omega)] at hc
    have := h.2.2 f k hf hk hc; unfold mk at *; rw [e _ (by unfold cel; omega)]; exact this
theorem RS.sheet {X Y : gX} {B t : Nat} {g g' : Nat → Nat} (h : RS X B g) (ht : t < 5) (hs : SS Y (B + 4 + 3 * t) g' t) (e : ∀ i, i ≠ B + 4 + 3 * t → i ≠ B + 4 + 3 * t + 1 → i ≠ B + 4 + 3 * t + 2 → Y i = X i) (eg : ∀ j, j < 470 → ¬ cel t j → g' j = g j) : RS Y B g' := by
  have n : ∀ j, j < 4 → g' j = g j := fun j hj => eg j (by omega) (by unfold cel; omega)
  refine ⟨?_, ?_, fun u hu => ?_⟩
  · rw [e _ (by omega) (by omega) (by omega), n 0 (by omega), n 1 (by omega)]; exact h.1
  · rw [e _ (by omega) (by omega) (by omega), n 2 (by omega), n 3 (by omega)]; exact h.2.1
  · by_cases hz : u = t
    · subst hz; exact hs
    · refine ((h.2.2 u hu).of (e _ (by omega) (by omega) (by omega)) (e _ (by omega) (by omega) (by omega)) (e _ (by omega) (by omega) (by omega))).cg (fun j hj => eg j ?_ ?_)
      · unfold cel at hj; omega
      · unfold cel at *; omega
/-- outside a state -/
def fO (B : Nat) (X X' : gX) : Prop := ∀ i, (i < B ∨ B + 19 ≤ i) → X' i = X i
theorem fO.rf {B : Nat} {X : gX} : fO B X X := fun _ _ => rfl
theorem fO.tr {B : Nat} {X Y W : gX} (h : fO B X Y) (h2 : fO B Y W) : fO B X W := fun i a => (h2 i a).trans (h i a)
theorem fO.a {B j : Nat} {X Y : gX} (hj : j < 19) (e : ∀ i, i ≠ B + j → Y i = X i) : fO B X Y := fun i a => e i (by omega)
theorem RS.fO {X Y : gX} {B C : Nat} {g : Nat → Nat} (h : RS X C g) (hB : isB B) (hC : isB C) (hne : B ≠ C) (f : fO B X Y) : RS Y C g := h.of (fun i h1 h2 _ => f i (by have := isB_apart hB hC; omega))
theorem SS_fld {X : gX} {b t c v : Nat} {g : Nat → Nat} (ht : t < 5) (hc : c < 3) (h : SS X b g t) : SS (gu X b c (nI v)) b (updN g (4 + 5 * c + t) v) t := by
  have e : ∀ j, j ≠ 4 + 5 * c + t → updN g (4 + 5 * c + t) v j = g j := fun j hj => by unfold updN; rw [if_neg hj]
  have e1 : updN g (4 + 5 * c + t) v (4 + 5 * c + t) = v := by unfold updN; rw [if_pos rfl]
  refine ⟨?_, fun f hf => ?_, fun f k hf hk hc => ?_⟩
  · obtain ⟨h0, h1, h2⟩ := h.1
    refine ⟨?_, ?_, ?_⟩
    · by_cases hz : c = 0
      · subst hz; rw [gu_at, show 4 + t = 4 + 5 * 0 + t by omega, e1]
      · rw [gu_id (by omega), e _ (by omega)]; exact h0
    · by_cases hz : c = 1
      · subst hz; rw [gu_at, show 9 + t = 4 + 5 * 1 + t by omega, e1]
      · rw [gu_id (by omega), e _ (by omega)]; exact h1
    · by_cases hz : c = 2
      · subst hz; rw [gu_at, show 14 + t = 4 + 5 * 2 + t by omega, e1]
      · rw [gu_id (by omega), e _ (by omega)]; exact h2
  · rw [gu_ne _ (by omega)]; unfold cnt; rw [e _ (by omega)]; exact h.2.1 f hf
  · rw [gu_ne _ (by omega)]
    unfold cnt at hc; rw [e _ (by omega)] at hc
    unfold mk; rw [e _ (by omega)]; exact h.2.2 f k hf hk hc
theorem RS_fld {X : gX} {B t c v : Nat} {g : Nat → Nat} (ht : t < 5) (hc : c < 3) (h : RS X B g) : RS (gu X (B + 4 + 3 * t) c (nI v)) B (updN g (4 + 5 * c + t) v) :=
  h.sheet ht (SS_fld ht hc (h.2.2 t ht)) (fun i h0 _ _ => gu_ne i h0) (fun j _ hj => by unfold updN; rw [if_neg (fun z => hj (by unfold cel; omega))])
/-- carbons worn under the first k sheets -/
def wearA (A : Nat → Nat) (k : Nat) (g : Nat → Nat) : Nat → Nat := fun j => if (9 ≤ j ∧ j < 9 + k) ∧ (0 < A (j - 9) ∧ 0 < A (j - 8)) then g j - 1 else g j
theorem wearA_n {A : Nat → Nat} {k j : Nat} {g : Nat → Nat} (h : ¬ (0 < A k ∧ 0 < A (k + 1))) : wearA A (k + 1) g j = wearA A k g j := by
  unfold wearA
  by_cases hz : j = 9 + k
  · rw [hz, show 9 + k - 9 = k by omega, show 9 + k - 8 = k + 1 by omega, if_neg (fun w => h w.2), if_neg (fun w => h w.2)]
  · by_cases hy : (9 ≤ j ∧ j < 9 + k) ∧ (0 < A (j - 9) ∧ 0 < A (j - 8))
    · rw [if_pos hy, if_pos ⟨⟨hy.1.1, by omega⟩, hy.2⟩]
    · rw [if_neg hy, if_neg (fun w => hy ⟨⟨w.1.1, by omega⟩, w.2⟩)]
theorem wearA_y {A : Nat → Nat} {k j : Nat} {g : Nat → Nat} (h : 0 < A k ∧ 0 < A (k + 1)) : updN (wearA A k g) (4 + 5 * 1 + k) (g (9 + k) - 1) j = wearA A (k + 1) g j := by
  unfold updN wearA
  by_cases hz : j = 9 + k
  · rw [if_pos (by omega), hz, show 9 + k - 9 = k by omega, show 9 + k - 8 = k + 1 by omega, if_pos ⟨⟨by omega, by omega⟩, h⟩]
  · rw [if_neg (by omega)]
    by_cases hy : (9 ≤ j ∧ j < 9 + k) ∧ (0 < A (j - 9) ∧ 0 < A (j - 8))
    · rw [if_pos hy, if_pos ⟨⟨hy.1.1, by omega⟩, hy.2⟩]
    · rw [if_neg hy, if_neg (fun w => hy ⟨⟨w.1.1, by omega⟩, w.2⟩)]
theorem wearA_at {A : Nat → Nat} {k : Nat} {g : Nat → Nat} : wearA A k g (9 + k) = g (9 + k) := by
  unfold wearA
  rw [if_neg (by omega)]
theorem wearA_4 {g : Nat → Nat} {p j : Nat} (h3 : g 3 ≤ 5) : wearA (arv g p) 4 g j = wear g p j := by
  unfold wearA wear
  by_cases hz : j = 13
  · have e0 : arv g p (13 - 8) = 0 := arv_out (by omega)
    rw [if_neg (by omega), if_neg (fun w => by rw [hz, e0] at w; omega)]
  · by_cases hy : (9 ≤ j ∧ j < 14) ∧ (0 < arv g p (j - 9) ∧ 0 < arv g p (j - 8))
    · rw [if_pos hy, if_pos ⟨⟨hy.1.1, by omega⟩, hy.2⟩]
    · rw [if_neg hy, if_neg (fun w => hy ⟨⟨w.1.1, by omega⟩, w.2⟩)]
theorem wearA_lay {A C : Nat → Nat} {g : Nat → Nat} {f v j : Nat} : wearA A 4 (lay f v C g) j = lay f v C (wearA A 4 g) j := by
  have hi : ∀ j, 14 ≤ j → wearA A 4 g j = g j := fun j hj => by unfold wearA; rw [if_neg (by omega)]
  by_cases hj : j < 20
  · rw [lay_small hj]; unfold wearA; rw [lay_small hj]
  · have e : wearA A 4 (lay f v C g) j = lay f v C g j := by
      show (if (9 ≤ j ∧ j < 9 + 4) ∧ _ then _ else _) = _
      rw [if_neg (by omega)]
    rw [e]
    unfold lay cnt
    rw [hi j (by omega)]
    by_cases h4 : 70 ≤ j ∧ j < 470
    · rw [hi (20 + (10 * ((j - 70) / 80) + f)) (by omega)]
    · rw [if_neg h4, if_neg h4]
theorem wearA_sco {A C : Nat → Nat} {g : Nat → Nat} {f j : Nat} : wearA A 4 (sco f C g) j = sco f C (wearA A 4 g) j := by
  have hi : ∀ j, 14 ≤ j → wearA A 4 g j = g j := fun j hj => by unfold wearA; rw [if_neg (by omega)]
  by_cases hj : j < 70
  · rw [sco_small hj]; unfold wearA; rw [sco_small hj]
  · have e : wearA A 4 (sco f C g) j = sco f C g j := by
      show (if (9 ≤ j ∧ j < 9 + 4) ∧ _ then _ else _) = _
      rw [if_neg (by omega)]
    rw [e]
    unfold sco cnt
    rw [hi j (by omega), hi (20 + (10 * ((j - 70) / 80) + f)) (by omega)]
theorem lay_c {f v : Nat} {A : Nat → Nat} {g g' : Nat → Nat} {j : Nat} (h : ∀ j, g j = g' j) : lay f v A g j = lay f v A g' j := by
  rw [show g = g' from funext h]
theorem upt_z {A : Nat → Nat} {k : Nat} (h : A k = 0) : upt A (k + 1) = upt A k := by
  funext t
  unfold upt
  by_cases hz : t = k
  · rw [hz, if_pos (by omega), if_neg (by omega), h]
  · by_cases hy : t < k
    · rw [if_pos hy, if_pos (by omega)]
    · rw [if_neg hy, if_neg (by omega)]
theorem upt_5 {A : Nat → Nat} : ∀ t, t < 5 → upt A 5 t = A t := fun t ht => by unfold upt; rw [if_pos ht]
theorem upt_0 {A : Nat → Nat} : ∀ t, upt A 0 t = 0 := fun t => by unfold upt; rw [if_neg (by omega)]
theorem Inv_sco {f : Nat} {A g : Nat → Nat} (hI : Inv g) : Inv (sco f A g) := by
  have e : ∀ j, j < 70 → sco f A g j = g j := fun j hj => sco_small hj
  refine ⟨?_, fun t ht => ?_, fun s f a c => ?_, fun s f' k a c d => ?_, fun s f' k a c d => ?_⟩
  · rw [e 0 (by omega), e 1 (by omega), e 2 (by omega), e 3 (by omega)]; exact hI.1
  · rw [e _ (by omega), e _ (by omega), e _ (by omega)]; exact hI.t ht
  · rw [sco_cnt a c]; exact hI.c a c
  · have := hI.m a c d
    unfold mk at *
    unfold sco
    split
    · split
      · rename_i hh
        have := hh.2.2.2.1
        omega
      · exact this
    · exact this
  · rw [sco_cnt a c] at d
    have := hI.p a c d
    unfold mk at *
    unfold sco
    split
    · split
      · rename_i hh
        have := hh.2.2.2.1
        omega
      · exact this
    · exact this
theorem stt_z {g : Nat → Nat} (hI : Inv g) {s f : Nat} (hs : s < 5) (hf : f < 10) : cnB (stt g s f 0) (cnt g s f) = 0 := cnB_0 (fun k hk => by
  have := hI.p hs hf hk
  unfold stt
  rw [decide_eq_false (show ¬ mk g s f k / 2 % 10 ≤ 0 by omega), Bool.and_false])
theorem stk_z {g : Nat → Nat} (hI : Inv g) {s f : Nat} (hs : s < 5) (hf : f < 10) {j : Nat} : stk g s f 0 j = g j := by
  unfold stk stz
  rw [if_neg]
  rintro ⟨h1, h2, -, h3⟩
  have := hI.p hs hf (k := j - (70 + 8 * (10 * s + f))) (by omega)
  unfold mk at this
  rw [show 70 + 8 * (10 * s + f) + (j - (70 + 8 * (10 * s + f))) = j by omega] at this
  omega
theorem stk_out {g : Nat → Nat} {s f q j : Nat} (hs : s < 5) (hf : f < 10) (hc : cnt g s f ≤ 8) (h : ¬ cel s j) : stk g s f q j = g j := by
  unfold stk
  refine stz_ge ?_
  unfold cel at h
  omega
theorem addm_out {g : Nat → Nat} {s f v p j : Nat} (hf : f < 10) (hc : cnt g s f < 8) (h : ¬ cel s j) : addm g s f v p j = g j := by
  unfold cel at h
  unfold addm updN
  rw [if_neg (by omega), if_neg (by omega)]
theorem stt_sco {g : Nat → Nat} {f k q : Nat} {A : Nat → Nat} (hf : f < 10) (hs : k < 5) (h8 : cnt g k f ≤ 8) : cnB (stt (sco f (upt A k) g) k f q) (cnt (sco f (upt A k) g) k f) = cnB (stt g k f q) (cnt g k f) := by
  rw [sco_cnt hs hf]
  refine cnB_congr (fun j hj => ?_)
  unfold stt
  rw [sco_mk hf hs (Nat.le_refl _) (by omega)]
theorem RS_tear {X : gX} {B : Nat} {g : Nat → Nat} (h : RS X B g) : RS (gu X B 2 (nI (g 2 + 1))) B (updN g 2 (g 2 + 1)) := by
  refine ⟨?_, ?_, fun t ht => ((h.2.2 t ht).of (gu_ne _ (by omega)) (gu_ne _ (by omega)) (gu_ne _ (by omega))).cg (fun j hj => ?_)⟩
  · rw [gu_ne _ (by omega)]; exact h.1
  · rw [gu_at, gu_id (by decide)]; exact ⟨rfl, h.2.1.2⟩
  · unfold cel at hj; unfold updN; rw [if_neg (by omega)]
theorem RS_tearL {X : gX} {B v : Nat} {g : Nat → Nat} (h : RS X B g) : RS (gu X B 3 (lI v)) B (updN g 3 v) := by
  refine ⟨?_, ?_, fun t ht => ((h.2.2 t ht).of (gu_ne _ (by omega)) (gu_ne _ (by omega)) (gu_ne _ (by omega))).cg (fun j hj => ?_)⟩
  · rw [gu_ne _ (by omega)]; exact h.1
  · rw [gu_at, gu_id (by decide)]; exact ⟨h.2.1.1, rfl⟩
  · unfold cel at hj; unfold updN; rw [if_neg (by omega)]
theorem ps_cnt {g : Nat → Nat} {f p t : Nat} (hI : Inv g) (ht : t < 5) (hf : f < 10) : smN (fun t => if 0 < arv g p t then cnB (stt g t f (arv g p t)) (cnt g t f) else 0) (t + 1) = smN (fun t => if 0 < arv g p t then cnB (stt g t f (arv g p t)) (cnt g t f) else 0) t + cnB (stt g t f (arv g p t)) (cnt g t f) := by
  show _ + (if 0 < arv g p t then _ else _) = _
  by_cases h : 0 < arv g p t
  · rw [if_pos h]
  · rw [if_neg h, show arv g p t = 0 by omega, stt_z hI ht hf]
theorem ps_mem {X1 Y : gX} {B : Nat} {g : Nat → Nat} {f p t : Nat} (hI : Inv g) (ht : t < 5) (hf : f < 10) (h : RS X1 B (sco f (upt (arv g p) t) g)) (r : SS Y (B + 4 + 3 * t) (stk (sco f (upt (arv g p) t) g) t f (arv g p t)) t) (e : ∀ i, i ≠ B + 4 + 3 * t → i ≠ B + 4 + 3 * t + 1 → i ≠ B + 4 + 3 * t + 2 → Y i = X1 i) : RS Y B (sco f (upt (arv g p) (t + 1)) g) := by
  have h8 := hI.c ht hf
  have h1 := h.sheet ht r e (fun j _ hj => stk_out ht hf (by rw [sco_cnt ht hf]; exact h8) hj)
  by_cases h0 : 0 < arv g p t
  · exact h1.congr (fun j hj => sco_step hf ht h0 h8 hj)
  · have hz : arv g p t = 0 := by omega
    rw [upt_z hz]
    rw [hz] at h1
    exact h1.congr (fun j _ => stk_z (Inv_sco hI) ht hf)
theorem cp_end {X X1 : gX} {B : Nat} {g : Nat → Nat} (h : ∀ u, u < 5 → SS X1 (B + 4 + 3 * u) g u) (e : ∀ i, (i < B + 4 ∨ B + 19 ≤ i) → X1 i = X i) : RS (gu (gu (gu (gu X1 (B + 2) 0 (nI (g 0))) (B + 2) 1 (nI (g 1))) B 2 (nI (g 2))) B 3 (lI (g 3))) B g ∧ fO B X (gu (gu (gu (gu X1 (B + 2) 0 (nI (g 0))) (B + 2) 1 (nI (g 1))) B 2 (nI (g 2))) B 3 (lI (g 3))) := by
  have z : ∀ i, i ≠ B → i ≠ B + 2 → gu (gu (gu (gu X1 (B + 2) 0 (nI (g 0))) (B + 2) 1 (nI (g 1))) B 2 (nI (g 2))) B 3 (lI (g 3)) i = X1 i := fun i h0 h2 => by rw [gu_ne _ h0, gu_ne _ h0, gu_ne _ h2, gu_ne _ h2]
  refine ⟨⟨?_, ?_, fun u hu => (h u hu).of (z _ (by omega) (by omega)) (z _ (by omega) (by omega)) (z _ (by omega) (by omega))⟩, fun i hi => (z i (by omega) (by omega)).trans (e i (by omega))⟩
  · rw [gu_ne _ (by omega), gu_ne _ (by omega), gu_at, gu_id (by decide), gu_at]; exact ⟨rfl, rfl⟩
  · rw [gu_at, gu_id (by decide), gu_at]; exact ⟨rfl, rfl⟩

set_option maxHeartbeats 4000000 in
set_option maxRecDepth 100000 in
theorem c_tNote {l : Launch} {ad : Nat → Nat} {X : gX} {B : Nat} {g : Nat → Nat} (hB : isB B) (hR : RS X B g) (hI : Inv g) {s f : Nat} (hs : s < 5) (hf : f < 10)  : K_X4_noteIfApart l ad [.ref B, .int (nI s), .int (nI f)] X (fun X' => RS X' B (apt g s f (inS g s)) ∧ fO B X X') := by
  refine Ct.of [.ref B, .int (nI s), .int (nI f)] 0 (by decide +kernel) rfl (Nat.le_of_ble_eq_true rfl) (fun F hl hC hRt _ => ?_)
  subst hl
  refine g_aload_0 hC dX4_noteIfApart_0 (pc' := 1) rfl ?_
  refine g_iload_1 hC dX4_noteIfApart_1 (pc' := 2) rfl ?_
  refine g_callV1R hC (c_tIn hB hR hI (s := s) (by omega)) ml_X4_36 (sh_st ad hB) rfl ⟨(Nat.le_of_ble_eq_true rfl), (Nat.le_of_ble_eq_true rfl)⟩ (Nat.le_of_ble_eq_true rfl) dX4_noteIfApart_2 (pc' := 5) rfl ⟨Nat.zero_le _, Nat.zero_le _⟩ ?_
  refine g_ifZ_ne hC dX4_noteIfApart_5 (pc' := 8) (tgt := 25) (by decide) rfl (fun h5 => ?_) (fun h5 => ?_)
  · refine g_vretV hC hRt dX4_noteIfApart_25 ?_
    rw [h5]
    exact ⟨hR.congr (fun j _ => by unfold apt updN; by_cases hz : j = 14 + s; rw [if_pos hz, hz]; exact (Nat.or_zero _).symm; rw [if_neg hz]), fO.rf⟩
  · refine g_aload_0 hC dX4_noteIfApart_8 (pc' := 9) rfl ?_
    refine g_getR hC fl_X4_11 (sh_st ad hB) rfl dX4_noteIfApart_9 (pc' := 12) rfl ?_
    refine g_iload_1 hC dX4_noteIfApart_12 (pc' := 13) rfl ?_
    refine g_aald4 hC (sh_st1 ad hB) (Nat.le_of_ble_eq_true rfl) (by omega) (sheets_at (by omega)) dX4_noteIfApart_13 (pc' := 14) rfl ?_
    refine g_dup hC dX4_noteIfApart_14 (pc' := 15) rfl rfl ?_
    refine g_getI hC fl_X4_40 (sh_sheet ad hB (by omega)) rfl ((hR.2.2 s hs).1.2.2) dX4_noteIfApart_15 (pc' := 18) rfl ?_
    refine g_iconst hC dX4_noteIfApart_18 (pc' := 19) kc_iconst_1 rfl ?_
    refine g_iload_2 hC dX4_noteIfApart_19 (pc' := 20) rfl ?_
    refine g_ishl1 hC dX4_noteIfApart_20 (pc' := 21) rfl (by omega) ?_
    refine g_iorN hC dX4_noteIfApart_21 (pc' := 22) rfl ?_
    refine g_putI hC fl_X4_40 (sh_sheet ad hB (by omega)) rfl rfl rfl dX4_noteIfApart_22 (pc' := 25) rfl ?_
    refine g_vretV hC hRt dX4_noteIfApart_25 ?_
    rw [h5]
    exact ⟨(RS_fld (c := 2) hs (by decide) hR).congr (fun j _ => by rw [show 4 + 5 * 2 + s = 14 + s by omega]; rfl), fun i hi => gu_ne i (by omega)⟩

set_option maxHeartbeats 4000000 in
set_option maxRecDepth 100000 in
theorem c_tTear {l : Launch} {ad : Nat → Nat} {X : gX} {B : Nat} {g : Nat → Nat} (hB : isB B) (hR : RS X B g) (hI : Inv g) {d : Nat} (hd : d ≤ 1) (hst : g 2 < g 3)  : K_X4_tearOff l ad [.ref B, .int (nI d)] X (fun rr X' => rr = (if d = 0 then nI (g 2) else lI (g 3)) ∧ RS X' B (gTear g (nI d)) ∧ fO B X X') := by
  refine Ct.of [.ref B, .int (nI d)] 0 (by decide +kernel) rfl (Nat.le_of_ble_eq_true rfl) (fun F hl hC hRt _ => ?_)
  subst hl
  have b23 : g 2 ≤ g 3 ∧ g 3 ≤ 5 := hI.1.2.2
  have cd : cl (nI d) = d := cl_nI (by omega)
  refine g_iload_1 hC dX4_tearOff_0 (pc' := 1) rfl ?_
  refine g_ifN_ne hC dX4_tearOff_1 (pc' := 4) (tgt := 21) (by decide) rfl (by omega) (fun h1 => ?_) (fun h1 => ?_)
  · refine g_aload_0 hC dX4_tearOff_21 (pc' := 22) rfl ?_
    refine g_dup hC dX4_tearOff_22 (pc' := 23) rfl rfl ?_
    refine g_getI hC fl_X4_25 (sh_st ad hB) rfl (hR.2.1.2) dX4_tearOff_23 (pc' := 26) rfl ?_
    refine g_iconst hC dX4_tearOff_26 (pc' := 27) kc_iconst_1 rfl ?_
    refine g_isub hC dX4_tearOff_27 (pc' := 28) rfl ?_
    refine g_putI hC fl_X4_25 (sh_st ad hB) rfl rfl rfl dX4_tearOff_28 (pc' := 31) rfl ?_
    refine g_aload_0 hC dX4_tearOff_31 (pc' := 32) rfl ?_
    refine g_getI hC fl_X4_25 (sh_st ad hB) rfl (gu_at) dX4_tearOff_32 (pc' := 35) rfl ?_
    refine g_iconst hC dX4_tearOff_35 (pc' := 36) kc_iconst_1 rfl ?_
    refine g_iadd hC dX4_tearOff_36 (pc' := 37) rfl ?_
    refine g_iretI hC hRt rfl dX4_tearOff_37 ?_
    refine ⟨by rw [if_neg h1, lI_decinc], ?_, fO.a (j := 0) (by decide) (fun i hi => gu_ne i hi)⟩
    unfold gTear
    rw [cd, if_neg h1, lI_dec (by omega)]
    exact RS_tearL hR
  · refine g_aload_0 hC dX4_tearOff_4 (pc' := 5) rfl ?_
    refine g_dup hC dX4_tearOff_5 (pc' := 6) rfl rfl ?_
    refine g_getI hC fl_X4_21 (sh_st ad hB) rfl (hR.2.1.1) dX4_tearOff_6 (pc' := 9) rfl ?_
    refine g_iconst hC dX4_tearOff_9 (pc' := 10) kc_iconst_1 rfl ?_
    refine g_iaddN hC dX4_tearOff_10 (pc' := 11) rfl ?_
    refine g_putI hC fl_X4_21 (sh_st ad hB) rfl rfl rfl dX4_tearOff_11 (pc' := 14) rfl ?_
    refine g_aload_0 hC dX4_tearOff_14 (pc' := 15) rfl ?_
    refine g_getI hC fl_X4_21 (sh_st ad hB) rfl (gu_at) dX4_tearOff_15 (pc' := 18) rfl ?_
    refine g_iconst hC dX4_tearOff_18 (pc' := 19) kc_iconst_1 rfl ?_
    refine g_isubN hC dX4_tearOff_19 (pc' := 20) rfl (by omega) ?_
    refine g_iretI hC hRt rfl dX4_tearOff_20 ?_
    refine ⟨by rw [if_pos h1, Nat.add_sub_cancel], ?_, fO.a (j := 0) (by decide) (fun i hi => gu_ne i hi)⟩
    unfold gTear
    rw [cd, if_pos h1]
    exact RS_tear hR

set_option maxHeartbeats 4000000 in
set_option maxRecDepth 100000 in
theorem c_tWear {l : Launch} {ad : Nat → Nat} {X : gX} {B : Nat} {g A : Nat → Nat} (hB : isB B) (hR : RS X B g) (hA : ∀ t, t < 5 → X (B + 3) t = nI (A t)) (hA9 : ∀ t, A t ≤ 9) (hb : ∀ t, t < 5 → g (9 + t) ≤ 300) (hu : ∀ t, t < 4 → 0 < A t → 0 < A (t + 1) → 1 ≤ g (9 + t))  : K_X4_wearCarbons l ad [.ref B] X (fun X' => RS X' B (wearA A 4 g) ∧ fO B X X') := by
  refine Ct.of [.ref B, .null] 1 (by decide +kernel) rfl (Nat.le_of_ble_eq_true rfl) (fun F hl hC hRt _ => ?_)
  subst hl
  refine g_iconst hC dX4_wearCarbons_0 (pc' := 1) kc_iconst_0 rfl ?_
  refine g_istore_1 hC dX4_wearCarbons_1 (pc' := 2) rfl (Nat.le_of_ble_eq_true rfl) rfl ?_
  have L2 : ∀ t, t ≤ 4 → ∀ X1 : gX, (RS X1 B (wearA A t g) ∧ X1 (B + 3) = X (B + 3) ∧ fO B X X1) → G F (S0 ad) (0, 0) X1 2 [.ref B, .int (nI t)] [] := by
    refine up_ind _ (fun t hk2 ih2 => ?_)
    intro X1 hm2
    refine g_iload_1 hC dX4_wearCarbons_2 (pc' := 3) rfl ?_
    refine g_iconst hC dX4_wearCarbons_3 (pc' := 4) kc_iconst_4 rfl ?_
    refine g_icmpN_ge hC dX4_wearCarbons_4 (pc' := 7) (tgt := 48) (by decide) rfl (by omega) (by omega) (fun h4 => ?_) (fun h4 => ?_)
    · refine g_vretV hC hRt dX4_wearCarbons_48 ?_
      rw [show t = 4 by omega] at hm2
      exact ⟨hm2.1, hm2.2.2⟩
    · have a1 := hA9 t
      have a2 := hA9 (t + 1)
      refine g_aload_0 hC dX4_wearCarbons_7 (pc' := 8) rfl ?_
      refine g_getR hC fl_X4_28 (sh_st ad hB) rfl dX4_wearCarbons_8 (pc' := 11) rfl ?_
      refine g_iload_1 hC dX4_wearCarbons_11 (pc' := 12) rfl ?_
      refine g_iald hC (sh_st3 ad hB) (Nat.le_of_ble_eq_true rfl) (by omega) ((congrFun hm2.2.1 _).trans (hA t (by omega))) dX4_wearCarbons_12 (pc' := 13) rfl ?_
      refine g_ifN_le hC dX4_wearCarbons_13 (pc' := 16) (tgt := 42) (by decide) rfl (by omega) (fun h13 => ?_) (fun h13 => ?_)
      · refine g_iinc_1 hC dX4_wearCarbons_42 (pc' := 45) rfl (Nat.le_of_ble_eq_true rfl) rfl (nI_inc _ _ kc_iinc_1) ?_
        refine g_goto hC dX4_wearCarbons_45 (tgt := 2) (by decide) ?_
        exact g_weak (ih2 (by omega) _ (by first | exact ⟨(RS_fld (c := 1) (t := t) (by omega) (by decide) hm2.1).congr (fun j _ => wearA_y ⟨by omega, by omega⟩), (gu_ne _ (by omega)).trans hm2.2.1, hm2.2.2.tr (fun i hi => gu_ne i (by omega))⟩ | exact ⟨hm2.1.congr (fun j _ => (wearA_n (by omega)).symm), hm2.2⟩)) (gle_s (gle_i (by first | rfl | omega) gle_nil))
      · refine g_aload_0 hC dX4_wearCarbons_16 (pc' := 17) rfl ?_
        refine g_getR hC fl_X4_28 (sh_st ad hB) rfl dX4_wearCarbons_17 (pc' := 20) rfl ?_
        refine g_iload_1 hC dX4_wearCarbons_20 (pc' := 21) rfl ?_
        refine g_iconst hC dX4_wearCarbons_21 (pc' := 22) kc_iconst_1 rfl ?_
        refine g_iaddN hC dX4_wearCarbons_22 (pc' := 23) rfl ?_
        refine g_iald hC (sh_st3 ad hB) (Nat.le_of_ble_eq_true rfl) (by omega) ((congrFun hm2.2.1 _).trans (hA (t + 1) (by omega))) dX4_wearCarbons_23 (pc' := 24) rfl ?_
        refine g_ifN_le hC dX4_wearCarbons_24 (pc' := 27) (tgt := 42) (by decide) rfl (by omega) (fun h24 => ?_) (fun h24 => ?_)
        · refine g_iinc_1 hC dX4_wearCarbons_42 (pc' := 45) rfl (Nat.le_of_ble_eq_true rfl) rfl (nI_inc _ _ kc_iinc_1) ?_
          refine g_goto hC dX4_wearCarbons_45 (tgt := 2) (by decide) ?_
          exact g_weak (ih2 (by omega) _ (by first | exact ⟨(RS_fld (c := 1) (t := t) (by omega) (by decide) hm2.1).congr (fun j _ => wearA_y ⟨by omega, by omega⟩), (gu_ne _ (by omega)).trans hm2.2.1, hm2.2.2.tr (fun i hi => gu_ne i (by omega))⟩ | exact ⟨hm2.1.congr (fun j _ => (wearA_n (by omega)).symm), hm2.2⟩)) (gle_s (gle_i (by first | rfl | omega) gle_nil))
        · have b1 := hb t (by omega)
          have b2 := hu t (by omega) (by omega) (by omega)
          refine g_aload_0 hC dX4_wearCarbons_27 (pc' := 28) rfl ?_
          refine g_getR hC fl_X4_11 (sh_st ad hB) rfl dX4_wearCarbons_28 (pc' := 31) rfl ?_
          refine g_iload_1 hC dX4_wearCarbons_31 (pc' := 32) rfl ?_
          refine g_aald4 hC (sh_st1 ad hB) (Nat.le_of_ble_eq_true rfl) (by omega) (sheets_at (by omega)) dX4_wearCarbons_32 (pc' := 33) rfl ?_
          refine g_dup hC dX4_wearCarbons_33 (pc' := 34) rfl rfl ?_
          refine g_getI hC fl_X4_43 (sh_sheet ad hB (by omega)) rfl ((hm2.1.2.2 t (by omega)).1.2.1.trans (congrArg nI wearA_at)) dX4_wearCarbons_34 (pc' := 37) rfl ?_
          refine g_iconst hC dX4_wearCarbons_37 (pc' := 38) kc_iconst_1 rfl ?_
          refine g_isubN hC dX4_wearCarbons_38 (pc' := 39) rfl (by omega) ?_
          refine g_putI hC fl_X4_43 (sh_sheet ad hB (by omega)) rfl rfl rfl dX4_wearCarbons_39 (pc' := 42) rfl ?_
          refine g_iinc_1 hC dX4_wearCarbons_42 (pc' := 45) rfl (Nat.le_of_ble_eq_true rfl) rfl (nI_inc _ _ kc_iinc_1) ?_
          refine g_goto hC dX4_wearCarbons_45 (tgt := 2) (by decide) ?_
          exact g_weak (ih2 (by omega) _ (by first | exact ⟨(RS_fld (c := 1) (t := t) (by omega) (by decide) hm2.1).congr (fun j _ => wearA_y ⟨by omega, by omega⟩), (gu_ne _ (by omega)).trans hm2.2.1, hm2.2.2.tr (fun i hi => gu_ne i (by omega))⟩ | exact ⟨hm2.1.congr (fun j _ => (wearA_n (by omega)).symm), hm2.2⟩)) (gle_s (gle_i (by first | rfl | omega) gle_nil))
  exact g_weak (L2 0 (by exact Nat.zero_le _) _ (by exact ⟨hR.congr (fun j _ => by unfold wearA; rw [if_neg (by omega)]), rfl, fO.rf⟩)) (gle_s (gle_s gle_nil))

set_option maxHeartbeats 4000000 in
set_option maxRecDepth 100000 in
theorem c_tPress {l : Launch} {ad : Nat → Nat} {X : gX} {B : Nat} {g : Nat → Nat} (hB : isB B) (hR : RS X B g) (hI : Inv g) {f v p : Nat} (hf : f < 10) (hv : v ≤ 999) (hp : 1 ≤ p ∧ p ≤ 9) (hfl : full g f p = false)  : K_X4_pressValue l ad [.ref B, .int (nI f), .int (nI v), .int (nI p)] X (fun rr X' => rr = nI (reach g p) ∧ RS X' B (wrt g f v p) ∧ fO B X X') := by
  refine Ct.of [.ref B, .int (nI f), .int (nI v), .int (nI p), .null, .null] 2 (by decide +kernel) rfl (Nat.le_of_ble_eq_true rfl) (fun F hl hC hRt _ => ?_)
  subst hl
  have b23 : g 2 ≤ g 3 ∧ g 3 ≤ 5 := hI.1.2.2
  have hA9 : ∀ t, arv g p t ≤ 9 := fun t => Nat.le_trans (arv_le g p t) hp.2
  refine g_iconst hC dX4_pressValue_0 (pc' := 1) kc_iconst_0 rfl ?_
  refine g_istore_4 hC dX4_pressValue_1 (pc' := 3) rfl (Nat.le_of_ble_eq_true rfl) rfl ?_
  refine g_aload_0 hC dX4_pressValue_3 (pc' := 4) rfl ?_
  refine g_iload_3 hC dX4_pressValue_4 (pc' := 5) rfl ?_
  refine g_callV1V hC (c_tMeasure hB hR hI hp.2) ml_X4_68 (sh_st ad hB) rfl ⟨(Nat.le_of_ble_eq_true rfl), (Nat.le_of_ble_eq_true rfl)⟩ (Nat.le_of_ble_eq_true rfl) dX4_pressValue_5 (pc' := 8) rfl ⟨Nat.zero_le _, Nat.zero_le _⟩ (fun X5 q5 => ?_)
  obtain ⟨hA, hX5⟩ := q5
  have hR5 := hR.arr hX5
  have f5 : fO B X X5 := fO.a (j := 3) (by decide) hX5
  refine g_iconst hC dX4_pressValue_8 (pc' := 9) kc_iconst_0 rfl ?_
  refine g_istore_5 hC dX4_pressValue_9 (pc' := 11) rfl (Nat.le_of_ble_eq_true rfl) rfl ?_
  have L11 : ∀ t, t ≤ 5 → ∀ X1 : gX, (RS X1 B (lay f v (upt (arv g p) t) g) ∧ (∀ t, t < 5 → X1 (B + 3) t = nI (arv g p t)) ∧ fO B X X1) → G F (S0 ad) (0, 0) X1 11 [.ref B, .int (nI f), .int (nI v), .int (nI p), .int (nI (cnB (hit g p) t)), .int (nI t)] [] := by
    refine up_ind _ (fun t hk11 ih11 => ?_)
    intro X1 hm11
    refine g_iload_5 hC dX4_pressValue_11 (pc' := 13) rfl ?_
    refine g_iconst hC dX4_pressValue_13 (pc' := 14) kc_iconst_5 rfl ?_
    refine g_icmpN_ge hC dX4_pressValue_14 (pc' := 17) (tgt := 55) (by decide) rfl (by omega) (by omega) (fun h14 => ?_) (fun h14 => ?_)
    · rw [show t = 5 by omega] at hm11 ⊢
      have hR55 := hm11.1.congr (g' := lay f v (arv g p) g) (fun j hj => lay_congr hj upt_5)
      refine g_aload_0 hC dX4_pressValue_55 (pc' := 56) rfl ?_
      refine g_callV0V hC (c_tWear (A := arv g p) hB hR55 hm11.2.1 hA9 (fun t ht => by rw [lay_small (by omega)]; exact (hI.t ht).2.1) (fun t ht h0 h1 => by rw [lay_small (by omega)]; exact (arv_seg h1 (Nat.not_lt.mp fun z => by rw [arv_out (by omega)] at h0; omega)).2)) ml_X4_79 (sh_st ad hB) rfl ⟨(Nat.le_of_ble_eq_true rfl), (Nat.le_of_ble_eq_true rfl)⟩ (Nat.le_of_ble_eq_true rfl) dX4_pressValue_56 (pc' := 59) rfl ⟨Nat.zero_le _, Nat.zero_le _⟩ (fun X56 q56 => ?_)
      obtain ⟨r56, f56⟩ := q56
      refine g_iload_4 hC dX4_pressValue_59 (pc' := 61) rfl ?_
      refine g_iretI hC hRt rfl dX4_pressValue_61 ?_
      exact ⟨rfl, r56.congr (fun j hj => wearA_lay.trans (lay_c (fun j => wearA_4 b23.2))), hm11.2.2.tr f56⟩
    · have a9 := hA9 t
      refine g_aload_0 hC dX4_pressValue_17 (pc' := 18) rfl ?_
      refine g_getR hC fl_X4_28 (sh_st ad hB) rfl dX4_pressValue_18 (pc' := 21) rfl ?_
      refine g_iload_5 hC dX4_pressValue_21 (pc' := 23) rfl ?_
      refine g_iald hC (sh_st3 ad hB) (Nat.le_of_ble_eq_true rfl) (by omega) (hm11.2.1 t (by omega)) dX4_pressValue_23 (pc' := 24) rfl ?_
      refine g_ifN_le hC dX4_pressValue_24 (pc' := 27) (tgt := 49) (by decide) rfl (by omega) (fun h24 => ?_) (fun h24 => ?_)
      · refine g_iinc_5 hC dX4_pressValue_49 (pc' := 52) rfl (Nat.le_of_ble_eq_true rfl) rfl (nI_inc _ _ kc_iinc_1) ?_
        refine g_goto hC dX4_pressValue_52 (tgt := 11) (by decide) ?_
        exact g_weak (ih11 (by omega) _ (by first | exact ⟨(hm11.1.sheet (by omega) r43 (fun i h0 h1 h2 => e43 i h1 h2) (fun j _ hj => addm_out hf (by rw [lay_cnt hf (by omega) (Nat.le_refl _)]; exact hck) hj)).congr (fun j hj => lay_step hf (by omega) hak hck hj), fun t ht => by rw [e43 _ (by omega) (by omega)]; exact hm11.2.1 t ht, hm11.2.2.tr (fun i hi => e43 i (by omega) (by omega))⟩ | exact ⟨by rw [upt_z (by omega)]; exact hm11.1, hm11.2⟩)) (gle_s (gle_s (gle_s (gle_s (gle_i (by first | exact congrArg nI (cnB_t (decide_eq_true hak)) | exact congrArg nI (cnB_f (decide_eq_false (by omega)))) (gle_i (by first | rfl | omega) gle_nil))))))
      · have hak : 0 < arv g p t := by omega
        have hck : cnt g t f < 8 := by rw [← wear_cnt (g := g) (p := p) (by omega) hf]; exact not_full hfl (by omega) hak
        refine g_aload_0 hC dX4_pressValue_27 (pc' := 28) rfl ?_
        refine g_getR hC fl_X4_11 (sh_st ad hB) rfl dX4_pressValue_28 (pc' := 31) rfl ?_
        refine g_iload_5 hC dX4_pressValue_31 (pc' := 33) rfl ?_
        refine g_aald4 hC (sh_st1 ad hB) (Nat.le_of_ble_eq_true rfl) (by omega) (sheets_at (by omega)) dX4_pressValue_33 (pc' := 34) rfl ?_
        refine g_iload_1 hC dX4_pressValue_34 (pc' := 35) rfl ?_
        refine g_iload_2 hC dX4_pressValue_35 (pc' := 36) rfl ?_
        refine g_aload_0 hC dX4_pressValue_36 (pc' := 37) rfl ?_
        refine g_getR hC fl_X4_28 (sh_st ad hB) rfl dX4_pressValue_37 (pc' := 40) rfl ?_
        refine g_iload_5 hC dX4_pressValue_40 (pc' := 42) rfl ?_
        refine g_iald hC (sh_st3 ad hB) (Nat.le_of_ble_eq_true rfl) (by omega) (hm11.2.1 t (by omega)) dX4_pressValue_42 (pc' := 43) rfl ?_
        refine g_callV3V hC (c_sAdd (t := t) (v := v) (p := arv g p t) hB (by omega) (hm11.1.2.2 t (by omega)) hf hv (hA9 t) (by rw [lay_cnt hf (by omega) (Nat.le_refl _)]; exact hck)) ml_X4_75 (sh_sheet ad hB (by omega)) rfl ⟨(Nat.le_of_ble_eq_true rfl), (Nat.le_of_ble_eq_true rfl)⟩ (Nat.le_of_ble_eq_true rfl) dX4_pressValue_43 (pc' := 46) rfl ⟨Nat.zero_le _, Nat.zero_le _⟩ (fun X43 q43 => ?_)
        obtain ⟨r43, e43⟩ := q43
        refine g_iinc_4 hC dX4_pressValue_46 (pc' := 49) rfl (Nat.le_of_ble_eq_true rfl) rfl (nI_inc _ _ kc_iinc_1) ?_
        refine g_iinc_5 hC dX4_pressValue_49 (pc' := 52) rfl (Nat.le_of_ble_eq_true rfl) rfl (nI_inc _ _ kc_iinc_1) ?_
        refine g_goto hC dX4_pressValue_52 (tgt := 11) (by decide) ?_
        exact g_weak (ih11 (by omega) _ (by first | exact ⟨(hm11.1.sheet (by omega) r43 (fun i h0 h1 h2 => e43 i h1 h2) (fun j _ hj => addm_out hf (by rw [lay_cnt hf (by omega) (Nat.le_refl _)]; exact hck) hj)).congr (fun j hj => lay_step hf (by omega) hak hck hj), fun t ht => by rw [e43 _ (by omega) (by omega)]; exact hm11.2.1 t ht, hm11.2.2.tr (fun i hi => e43 i (by omega) (by omega))⟩ | exact ⟨by rw [upt_z (by omega)]; exact hm11.1, hm11.2⟩)) (gle_s (gle_s (gle_s (gle_s (gle_i (by first | exact congrArg nI (cnB_t (decide_eq_true hak)) | exact congrArg nI (cnB_f (decide_eq_false (by omega)))) (gle_i (by first | rfl | omega) gle_nil))))))
  exact g_weak (L11 0 (by exact Nat.zero_le _) _ (by exact ⟨hR5.congr (fun j _ => (lay_0 (fun t ht => absurd ht (Nat.not_lt_zero t)) j).symm), hA, f5⟩)) (gle_s (gle_s (gle_s (gle_s (gle_i (by rfl) (gle_s gle_nil))))))

set_option maxHeartbeats 4000000 in
set_option maxRecDepth 100000 in
theorem c_tStroke {l : Launch} {ad : Nat → Nat} {X : gX} {B : Nat} {g : Nat → Nat} (hB : isB B) (hR : RS X B g) (hI : Inv g) {f p : Nat} (hf : f < 10) (hp : 1 ≤ p ∧ p ≤ 9)  : K_X4_pressStroke l ad [.ref B, .int (nI f), .int (nI p)] X (fun rr X' => rr = nI (strN g f p) ∧ RS X' B (str g f p) ∧ fO B X X') := by
  refine Ct.of [.ref B, .int (nI f), .int (nI p), .null, .null] 2 (by decide +kernel) rfl (Nat.le_of_ble_eq_true rfl) (fun F hl hC hRt _ => ?_)
  subst hl
  have b23 : g 2 ≤ g 3 ∧ g 3 ≤ 5 := hI.1.2.2
  have hA9 : ∀ t, arv g p t ≤ 9 := fun t => Nat.le_trans (arv_le g p t) hp.2
  have hsN := strN_le (p := p) hI hf
  refine g_iconst hC dX4_pressStroke_0 (pc' := 1) kc_iconst_0 rfl ?_
  refine g_istore_3 hC dX4_pressStroke_1 (pc' := 2) rfl (Nat.le_of_ble_eq_true rfl) rfl ?_
  refine g_aload_0 hC dX4_pressStroke_2 (pc' := 3) rfl ?_
  refine g_iload_2 hC dX4_pressStroke_3 (pc' := 4) rfl ?_
  refine g_callV1V hC (c_tMeasure hB hR hI hp.2) ml_X4_68 (sh_st ad hB) rfl ⟨(Nat.le_of_ble_eq_true rfl), (Nat.le_of_ble_eq_true rfl)⟩ (Nat.le_of_ble_eq_true rfl) dX4_pressStroke_4 (pc' := 7) rfl ⟨Nat.zero_le _, Nat.zero_le _⟩ (fun X4 q4 => ?_)
  obtain ⟨hA, hX4⟩ := q4
  have hR4 := hR.arr hX4
  have f4 : fO B X X4 := fO.a (j := 3) (by decide) hX4
  refine g_iconst hC dX4_pressStroke_7 (pc' := 8) kc_iconst_0 rfl ?_
  refine g_istore_4 hC dX4_pressStroke_8 (pc' := 10) rfl (Nat.le_of_ble_eq_true rfl) rfl ?_
  have L10 : ∀ t, t ≤ 5 → ∀ X1 : gX, (RS X1 B (sco f (upt (arv g p) t) g) ∧ (∀ t, t < 5 → X1 (B + 3) t = nI (arv g p t)) ∧ fO B X X1) → G F (S0 ad) (0, 0) X1 10 [.ref B, .int (nI f), .int (nI p), .int (nI (smN (fun t => if 0 < arv g p t then cnB (stt g t f (arv g p t)) (cnt g t f) else 0) t)), .int (nI t)] [] := by
    refine up_ind _ (fun t hk10 ih10 => ?_)
    intro X1 hm10
    refine g_iload_4 hC dX4_pressStroke_10 (pc' := 12) rfl ?_
    refine g_iconst hC dX4_pressStroke_12 (pc' := 13) kc_iconst_5 rfl ?_
    refine g_icmpN_ge hC dX4_pressStroke_13 (pc' := 16) (tgt := 43) (by decide) rfl (by omega) (by omega) (fun h13 => ?_) (fun h13 => ?_)
    · rw [show t = 5 by omega] at hm10 ⊢
      have hR55 := hm10.1.congr (g' := sco f (arv g p) g) (fun j hj => sco_congr hj upt_5)
      refine g_aload_0 hC dX4_pressStroke_43 (pc' := 44) rfl ?_
      refine g_callV0V hC (c_tWear (A := arv g p) hB hR55 hm10.2.1 hA9 (fun t ht => by rw [sco_small (by omega)]; exact (hI.t ht).2.1) (fun t ht h0 h1 => by rw [sco_small (by omega)]; exact (arv_seg h1 (Nat.not_lt.mp fun z => by rw [arv_out (by omega)] at h0; omega)).2)) ml_X4_79 (sh_st ad hB) rfl ⟨(Nat.le_of_ble_eq_true rfl), (Nat.le_of_ble_eq_true rfl)⟩ (Nat.le_of_ble_eq_true rfl) dX4_pressStroke_44 (pc' := 47) rfl ⟨Nat.zero_le _, Nat.zero_le _⟩ (fun X44 q44 => ?_)
      obtain ⟨r44, f44⟩ := q44
      refine g_iload_3 hC dX4_pressStroke_47 (pc' := 48) rfl ?_
      refine g_iretI hC hRt rfl dX4_pressStroke_48 ?_
      exact ⟨rfl, r44.congr (fun j hj => wearA_sco.trans (by unfold str; rw [show wearA (arv g p) 4 g = wear g p from funext (fun j => wearA_4 b23.2)])), hm10.2.2.tr f44⟩
    · have a9 := hA9 t
      refine g_iload_3 hC dX4_pressStroke_16 (pc' := 17) rfl ?_
      refine g_aload_0 hC dX4_pressStroke_17 (pc' := 18) rfl ?_
      refine g_getR hC fl_X4_11 (sh_st ad hB) rfl dX4_pressStroke_18 (pc' := 21) rfl ?_
      refine g_iload_4 hC dX4_pressStroke_21 (pc' := 23) rfl ?_
      refine g_aald4 hC (sh_st1 ad hB) (Nat.le_of_ble_eq_true rfl) (by omega) (sheets_at (by omega)) dX4_pressStroke_23 (pc' := 24) rfl ?_
      refine g_iload_1 hC dX4_pressStroke_24 (pc' := 25) rfl ?_
      refine g_aload_0 hC dX4_pressStroke_25 (pc' := 26) rfl ?_
      refine g_getR hC fl_X4_28 (sh_st ad hB) rfl dX4_pressStroke_26 (pc' := 29) rfl ?_
      refine g_iload_4 hC dX4_pressStroke_29 (pc' := 31) rfl ?_
      refine g_iald hC (sh_st3 ad hB) (Nat.le_of_ble_eq_true rfl) (by omega) (hm10.2.1 t (by omega)) dX4_pressStroke_31 (pc' := 32) rfl ?_
      refine g_callV2I hC (c_sStrike (t := t) (q := arv g p t) hB (by omega) (hm10.1.2.2 t (by omega)) (Inv_sco hI) hf (hA9 t)) ml_X4_82 (sh_sheet ad hB (by omega)) rfl ⟨(Nat.le_of_ble_eq_true rfl), (Nat.le_of_ble_eq_true rfl)⟩ (Nat.le_of_ble_eq_true rfl) dX4_pressStroke_32 (pc' := 35) rfl ⟨Nat.zero_le _, Nat.zero_le _⟩ (fun v32 X32 q32 => ?_)
      obtain ⟨rfl, r32, e32⟩ := q32
      rw [stt_sco hf (by omega) (hI.c (by omega) hf)]
      refine g_iaddN hC dX4_pressStroke_35 (pc' := 36) rfl ?_
      refine g_istore_3 hC dX4_pressStroke_36 (pc' := 37) rfl (Nat.le_of_ble_eq_true rfl) rfl ?_
      refine g_iinc_4 hC dX4_pressStroke_37 (pc' := 40) rfl (Nat.le_of_ble_eq_true rfl) rfl (nI_inc _ _ kc_iinc_1) ?_
      refine g_goto hC dX4_pressStroke_40 (tgt := 10) (by decide) ?_
      exact g_weak (ih10 (by omega) _ (by exact ⟨ps_mem hI (by omega) hf hm10.1 r32 (fun i h0 h1 h2 => e32 i h2), fun t ht => by rw [e32 _ (by omega)]; exact hm10.2.1 t ht, hm10.2.2.tr (fun i hi => e32 i (by omega))⟩)) (gle_s (gle_s (gle_s (gle_i (by exact congrArg nI (ps_cnt hI (by omega) hf)) (gle_i (by first | rfl | omega) gle_nil)))))
  exact g_weak (L10 0 (by exact Nat.zero_le _) _ (by exact ⟨hR4.congr (fun j _ => (sco_0 (fun t ht => absurd ht (Nat.not_lt_zero t)) j).symm), hA, f4⟩)) (gle_s (gle_s (gle_s (gle_i (by rfl) (gle_s gle_nil)))))

set_option maxHeartbeats 4000000 in
set_option maxRecDepth 100000 in
theorem c_tCopy {l : Launch} {ad : Nat → Nat} {X : gX} {B C : Nat} {g : Nat → Nat} (hB : isB B) (hC2 : isB C) (hne : B ≠ C) (hR : RS X C g)  : K_X4_copyFrom l ad [.ref B, .ref C] X (fun X' => RS X' B g ∧ fO B X X') := by
  refine Ct.of [.ref B, .ref C, .null] 1 (by decide +kernel) rfl (Nat.le_of_ble_eq_true rfl) (fun F hl hC hRt _ => ?_)
  subst hl
  have hap := isB_apart hB hC2
  refine g_iconst hC dX4_copyFrom_0 (pc' := 1) kc_iconst_0 rfl ?_
  refine g_istore_2 hC dX4_copyFrom_1 (pc' := 2) rfl (Nat.le_of_ble_eq_true rfl) rfl ?_
  have L2 : ∀ t, t ≤ 5 → ∀ X1 : gX, ((∀ u, u < t → SS X1 (B + 4 + 3 * u) g u) ∧ ∀ i, (i < B + 4 ∨ B + 19 ≤ i) → X1 i = X i) → G F (S0 ad) (0, 0) X1 2 [.ref B, .ref C, .int (nI t)] [] := by
    refine up_ind _ (fun t hk2 ih2 => ?_)
    intro X1 hm2
    refine g_iload_2 hC dX4_copyFrom_2 (pc' := 3) rfl ?_
    refine g_iconst hC dX4_copyFrom_3 (pc' := 4) kc_iconst_5 rfl ?_
    refine g_icmpN_ge hC dX4_copyFrom_4 (pc' := 7) (tgt := 28) (by decide) rfl (by omega) (by omega) (fun h4 => ?_) (fun h4 => ?_)
    · refine g_aload_0 hC dX4_copyFrom_28 (pc' := 29) rfl ?_
      refine g_getR hC fl_X4_17 (sh_st ad hB) rfl dX4_copyFrom_29 (pc' := 32) rfl ?_
      refine g_iconst hC dX4_copyFrom_32 (pc' := 33) kc_iconst_0 rfl ?_
      refine g_aload_1 hC dX4_copyFrom_33 (pc' := 34) rfl ?_
      refine g_getR hC fl_X4_17 (sh_st ad hC2) rfl dX4_copyFrom_34 (pc' := 37) rfl ?_
      refine g_iconst hC dX4_copyFrom_37 (pc' := 38) kc_iconst_0 rfl ?_
      refine g_iald hC (sh_st2 ad hC2) (Nat.le_of_ble_eq_true rfl) (by omega) ((congrFun (hm2.2 _ (by omega)) 0).trans hR.1.1) dX4_copyFrom_38 (pc' := 39) rfl ?_
      refine g_iast hC (sh_st2 ad hB) (Nat.le_of_ble_eq_true rfl) (by omega) dX4_copyFrom_39 (pc' := 40) rfl ?_
      refine g_aload_0 hC dX4_copyFrom_40 (pc' := 41) rfl ?_
      refine g_getR hC fl_X4_17 (sh_st ad hB) rfl dX4_copyFrom_41 (pc' := 44) rfl ?_
      refine g_iconst hC dX4_copyFrom_44 (pc' := 45) kc_iconst_1 rfl ?_
      refine g_aload_1 hC dX4_copyFrom_45 (pc' := 46) rfl ?_
      refine g_getR hC fl_X4_17 (sh_st ad hC2) rfl dX4_copyFrom_46 (pc' := 49) rfl ?_
      refine g_iconst hC dX4_copyFrom_49 (pc' := 50) kc_iconst_1 rfl ?_
      refine g_iald hC (sh_st2 ad hC2) (Nat.le_of_ble_eq_true rfl) (by omega) ((congrFun (gu_ne _ (by omega)) 1).trans ((congrFun (hm2.2 _ (by omega)) 1).trans hR.1.2)) dX4_copyFrom_50 (pc' := 51) rfl ?_
      refine g_iast hC (sh_st2 ad hB) (Nat.le_of_ble_eq_true rfl) (by omega) dX4_copyFrom_51 (pc' := 52) rfl ?_
      refine g_aload_0 hC dX4_copyFrom_52 (pc' := 53) rfl ?_
      refine g_aload_1 hC dX4_copyFrom_53 (pc' := 54) rfl ?_
      refine g_getI hC fl_X4_21 (sh_st ad hC2) rfl ((congrFun (gu_ne _ (by omega)) 2).trans ((congrFun (gu_ne _ (by omega)) 2).trans ((congrFun (hm2.2 _ (by omega)) 2).trans hR.2.1.1))) dX4_copyFrom_54 (pc' := 57) rfl ?_
      refine g_putI hC fl_X4_21 (sh_st ad hB) rfl rfl rfl dX4_copyFrom_57 (pc' := 60) rfl ?_
      refine g_aload_0 hC dX4_copyFrom_60 (pc' := 61) rfl ?_
      refine g_aload_1 hC dX4_copyFrom_61 (pc' := 62) rfl ?_
      refine g_getI hC fl_X4_25 (sh_st ad hC2) rfl ((congrFun (gu_ne _ (by omega)) 3).trans ((congrFun (gu_ne _ (by omega)) 3).trans ((congrFun (gu_ne _ (by omega)) 3).trans ((congrFun (hm2.2 _ (by omega)) 3).trans hR.2.1.2)))) dX4_copyFrom_62 (pc' := 65) rfl ?_
      refine g_putI hC fl_X4_25 (sh_st ad hB) rfl rfl rfl dX4_copyFrom_65 (pc' := 68) rfl ?_
      refine g_vretV hC hRt dX4_copyFrom_68 ?_
      exact cp_end (fun u hu => hm2.1 u (by omega)) hm2.2
    · refine g_aload_0 hC dX4_copyFrom_7 (pc' := 8) rfl ?_
      refine g_getR hC fl_X4_11 (sh_st ad hB) rfl dX4_copyFrom_8 (pc' := 11) rfl ?_
      refine g_iload_2 hC dX4_copyFrom_11 (pc' := 12) rfl ?_
      refine g_aald4 hC (sh_st1 ad hB) (Nat.le_of_ble_eq_true rfl) (by omega) (sheets_at (by omega)) dX4_copyFrom_12 (pc' := 13) rfl ?_
      refine g_aload_1 hC dX4_copyFrom_13 (pc' := 14) rfl ?_
      refine g_getR hC fl_X4_11 (sh_st ad hC2) rfl dX4_copyFrom_14 (pc' := 17) rfl ?_
      refine g_iload_2 hC dX4_copyFrom_17 (pc' := 18) rfl ?_
      refine g_aald4 hC (sh_st1 ad hC2) (Nat.le_of_ble_eq_true rfl) (by omega) (sheets_at (by omega)) dX4_copyFrom_18 (pc' := 19) rfl ?_
      refine g_callV1V hC (c_sCopy (t := t) (g := g) hB hC2 hne (by omega) ((hR.2.2 t (by omega)).of (hm2.2 _ (by omega)) (hm2.2 _ (by omega)) (hm2.2 _ (by omega)))) ml_X4_32 (sh_sheet ad hB (by omega)) rfl ⟨(Nat.le_of_ble_eq_true rfl), (Nat.le_of_ble_eq_true rfl)⟩ (Nat.le_of_ble_eq_true rfl) dX4_copyFrom_19 (pc' := 22) rfl ⟨Nat.zero_le _, Nat.zero_le _⟩ (fun X19 q19 => ?_)
      obtain ⟨r19, e19⟩ := q19
      refine g_iinc_2 hC dX4_copyFrom_22 (pc' := 25) rfl (Nat.le_of_ble_eq_true rfl) rfl (nI_inc _ _ kc_iinc_1) ?_
      refine g_goto hC dX4_copyFrom_25 (tgt := 2) (by decide) ?_
      exact g_weak (ih2 (by omega) _ (by exact ⟨fun u hu => by by_cases hz : u = t; subst hz; exact r19; exact (hm2.1 u (by omega)).of (e19 _ (by omega) (by omega) (by omega)) (e19 _ (by omega) (by omega) (by omega)) (e19 _ (by omega) (by omega) (by omega)), fun i hi => (e19 i (by omega) (by omega) (by omega)).trans (hm2.2 i hi)⟩)) (gle_s (gle_s (gle_i (by first | rfl | omega) gle_nil)))
  exact g_weak (L2 0 (by exact Nat.zero_le _) _ (by exact ⟨fun u hu => absurd hu (Nat.not_lt_zero u), fun _ _ => rfl⟩)) (gle_s (gle_s (gle_s gle_nil)))
