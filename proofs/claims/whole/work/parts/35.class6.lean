theorem mx_gt {F : Nat → Nat} {q : Nat} : ∀ {n : Nat}, q < mxN F n ↔ ∃ k, k < n ∧ q < F k := by
  intro n
  induction n with
  | zero => show q < 0 ↔ _; constructor; intro h; omega; rintro ⟨k, h, -⟩; omega
  | succ n ih =>
    show q < max (mxN F n) (F n) ↔ _
    constructor
    · intro h
      by_cases hq : q < mxN F n
      · obtain ⟨k, h1, h2⟩ := ih.mp hq; exact ⟨k, by omega, h2⟩
      · exact ⟨n, by omega, by omega⟩
    · rintro ⟨k, h1, h2⟩
      by_cases hk : k = n
      · subst hk; omega
      · have := ih.mpr ⟨k, by omega, h2⟩; omega
theorem str_mk {g : Nat → Nat} {f p t k : Nat} (ht : t < 5) (hf : f < 10) (hk : k < 8) : mk (str g f p) t f k = if 0 < arv g p t ∧ k < cnt g t f ∧ (mk g t f k % 2 = 0 ∧ mk g t f k / 2 % 10 ≤ arv g p t) then mk g t f k + 1 else mk g t f k := by
  have e1 : (70 + 8 * (10 * t + f) + k - 70) / 80 = t := by omega
  have e2 : (70 + 8 * (10 * t + f) + k - 70) / 8 % 10 = f := by omega
  have e3 : (70 + 8 * (10 * t + f) + k - 70) % 8 = k := by omega
  show sco f (arv g p) (wear g p) (70 + 8 * (10 * t + f) + k) = _
  unfold sco
  rw [e1, e2, e3, wear_cnt ht hf, wear_hi (by omega), if_pos (by omega)]
  unfold mk
  by_cases h : 0 < arv g p t ∧ k < cnt g t f ∧ (g (70 + 8 * (10 * t + f) + k) % 2 = 0 ∧ g (70 + 8 * (10 * t + f) + k) / 2 % 10 ≤ arv g p t)
  · rw [if_pos ⟨rfl, h⟩, if_pos h]
  · rw [if_neg (fun w => h w.2), if_neg h]
theorem str_small {g : Nat → Nat} {f p j : Nat} (h : j < 9) : str g f p j = g j := by
  unfold str
  rw [sco_small (by omega), wear_hi (by omega)]
theorem str_cnt {g : Nat → Nat} {f p t f' : Nat} (ht : t < 5) (hf : f' < 10) : cnt (str g f p) t f' = cnt g t f' := by
  unfold str
  rw [sco_cnt ht hf, wear_cnt ht hf]
theorem str_seen {g : Nat → Nat} {f p t : Nat} (hI : Inv g) (ht : t < 5) (hf : f < 10) : seen (str g f p) f t = (inS g t && decide (arv g p t < strng g t f (cnt g t f))) := by
  have hi : inS (str g f p) t = inS g t := by unfold inS; rw [str_small (by decide), str_small (by decide)]
  unfold seen
  rw [hi]
  congr 1
  rw [Bool.eq_iff_iff, Bool.not_eq_true', decide_eq_false_iff_not, decide_eq_true_eq]
  have h8 := hI.c ht hf
  have key : ∀ k, k < cnt g t f → (rd (str g f p) t f k = true ↔ rd g t f k = true ∧ arv g p t < mk g t f k / 2 % 10) := fun k hk => by
    have hp := hI.p ht hf hk
    unfold rd rdb
    rw [str_mk ht hf (by omega), str_small (by decide)]
    simp only [Bool.and_eq_true, decide_eq_true_eq]
    split <;> omega
  unfold strng
  rw [mx_gt]
  unfold last
  rw [str_cnt ht hf]
  constructor
  · intro h
    have hr := upto_P h
    have hle := upto_le (rd (str g f p) t f) (cnt g t f)
    refine ⟨upto (rd (str g f p) t f) (cnt g t f) - 1, by omega, ?_⟩
    obtain ⟨h1, h2⟩ := (key _ (by omega)).mp hr
    rw [if_pos h1]
    exact h2
  · rintro ⟨k, h1, h2⟩ h0
    have hf2 := upto_0 h0 k h1
    split at h2
    · rename_i hr
      rw [(key k h1).mpr ⟨hr, h2⟩] at hf2
      cases hf2
    · omega
/-- the presses to the lowest, from the class's side -/
def mnu (g : Nat → Nat) : Nat → Nat
  | 0 => 1000
  | t + 1 => if inS g t = true ∧ t + 1 < g 3 then min (mnu g t) (g (9 + t)) else mnu g t
theorem mnu_y {g : Nat → Nat} {t : Nat} (h1 : inS g t = true) (h2 : t + 1 < g 3) : mnu g (t + 1) = min (mnu g t) (g (9 + t)) := by
  show (if _ then _ else _) = _
  rw [if_pos ⟨h1, h2⟩]
theorem mnu_n {g : Nat → Nat} {t : Nat} (h : ¬ (inS g t = true ∧ t + 1 < g 3)) : mnu g (t + 1) = mnu g t := by
  show (if _ then _ else _) = _
  rw [if_neg h]
theorem mnu_le (g : Nat → Nat) : ∀ t, mnu g t ≤ 1000 := by
  intro t
  induction t with
  | zero => exact Nat.le_refl _
  | succ t ih => unfold mnu; split <;> omega
theorem prs_thk {g : Nat → Nat} {p : Nat} : ∀ t, t < g 3 → prs g p t ≤ p - thk g t ∧ (0 < prs g p t → prs g p t + thk g t = p) := by
  intro t
  induction t with
  | zero => intro _; show p ≤ p - 0 ∧ (0 < p → p + 0 = p); omega
  | succ t ih =>
    intro h
    obtain ⟨h1, h2⟩ := ih (by omega)
    by_cases h3 : g 2 ≤ t
    · rw [prs_in (inS_iff.mpr ⟨h3, by omega⟩), thk_s ⟨h3, h⟩]
      split <;> omega
    · rw [prs_top g p _ (by omega), thk_lo _ (by omega)]; omega
theorem mst_0 {g : Nat → Nat} {p : Nat} (hp : 1 ≤ p) : ∀ t, t < g 3 → prs g p t = 0 → mst g p t = 0 := by
  intro t
  induction t with
  | zero => intro _ h; have : p = 0 := h; omega
  | succ t ih =>
    intro h h0
    by_cases h3 : g 2 ≤ t
    · rw [mst_s ⟨h3, h⟩]
      split
      · rfl
      · rename_i hn
        rw [prs_in (inS_iff.mpr ⟨h3, by omega⟩)] at h0
        rw [thk_s ⟨h3, h⟩] at hn
        by_cases hz : prs g p t = 0
        · rw [ih (by omega) hz, Nat.zero_min]
        · have := (prs_thk (g := g) (p := p) t (by omega)).2 (by omega)
          split at h0
          · omega
          · rw [show g (9 + t) = 0 by omega, Nat.min_zero]
    · rw [prs_top g p _ (by omega)] at h0; omega
theorem mst_0u {g : Nat → Nat} {p t : Nat} (h : mst g p t = 0) : ∀ u, t ≤ u → mst g p u = 0 := by
  intro u
  induction u with
  | zero => intro hu; rw [show t = 0 by omega] at h; exact h
  | succ u ih =>
    intro hu
    by_cases hz : t = u + 1
    · rw [← hz]; exact h
    · have := ih (by omega)
      unfold mst
      split
      · split
        · rfl
        · rw [this, Nat.zero_min]
      · exact this
theorem mst_mnu {g : Nat → Nat} {p : Nat} (h3 : g 3 ≤ 5) (h : ∀ t, t < 5 → inS g t = true → 0 < arv g p t) : ∀ t, t ≤ 5 → mst g p t = mnu g t := by
  intro t
  induction t with
  | zero => intro _; rfl
  | succ t ih =>
    intro ht
    by_cases hz : g 2 ≤ t ∧ t + 1 < g 3
    · have hi : inS g t = true := inS_iff.mpr ⟨hz.1, by omega⟩
      have hi2 : inS g (t + 1) = true := inS_iff.mpr ⟨by omega, hz.2⟩
      have ha := h (t + 1) (by omega) hi2
      rw [arv_t hi2] at ha
      have := (prs_thk (p := p) (t + 1) hz.2).1
      rw [mst_s hz, mnu_y hi hz.2, if_neg (by omega), ih (by omega)]
    · rw [mnu_n (fun w => hz ⟨(inS_iff.mp w.1).1, w.2⟩), ← ih (by omega)]
      show (if _ then _ else _) = _
      rw [if_neg hz]

set_option maxHeartbeats 4000000 in
set_option maxRecDepth 100000 in
theorem c_tWould {l : Launch} {ad : Nat → Nat} {X : gX} {B : Nat} {g : Nat → Nat} (hB : isB B) (hR : RS X B g) (hI : Inv g) {f p : Nat} (hf : f < 10) (hp : 1 ≤ p ∧ p ≤ 9)  : K_X4_wouldBeEmptied l ad [.ref B, .int (nI f), .int (nI p)] X (fun rr X' => rr = zI (sfB g f p) ∧ ∀ i, i ≠ B + 3 → X' i = X i) := by
  refine Ct.of [.ref B, .int (nI f), .int (nI p), .null, .null] 2 (by decide +kernel) rfl (Nat.le_of_ble_eq_true rfl) (fun F hl hC hRt _ => ?_)
  subst hl
  have b23 : g 2 ≤ g 3 ∧ g 3 ≤ 5 := hI.1.2.2
  refine g_aload_0 hC dX4_wouldBeEmptied_0 (pc' := 1) rfl ?_
  refine g_iload_2 hC dX4_wouldBeEmptied_1 (pc' := 2) rfl ?_
  refine g_callV1V hC (c_tMeasure hB hR hI hp.2) ml_X4_68 (sh_st ad hB) rfl ⟨(Nat.le_of_ble_eq_true rfl), (Nat.le_of_ble_eq_true rfl)⟩ (Nat.le_of_ble_eq_true rfl) dX4_wouldBeEmptied_2 (pc' := 5) rfl ⟨Nat.zero_le _, Nat.zero_le _⟩ (fun X2 q2 => ?_)
  obtain ⟨hA, hX2⟩ := q2
  have hR2 := hR.arr hX2
  refine g_iconst hC dX4_wouldBeEmptied_5 (pc' := 6) kc_iconst_0 rfl ?_
  refine g_istore_3 hC dX4_wouldBeEmptied_6 (pc' := 7) rfl (Nat.le_of_ble_eq_true rfl) rfl ?_
  have L7 : ∀ t, t ≤ 5 → anB (seen (str g f p) f) t = false → G F (S0 ad) (0, 0) X2 7 [.ref B, .int (nI f), .int (nI p), .int (nI t), .null] [] := by
    refine up_ind _ (fun t hk7 ih7 => ?_)
    intro hb
    refine g_iload_3 hC dX4_wouldBeEmptied_7 (pc' := 8) rfl ?_
    refine g_iconst hC dX4_wouldBeEmptied_8 (pc' := 9) kc_iconst_5 rfl ?_
    refine g_icmpN_ge hC dX4_wouldBeEmptied_9 (pc' := 12) (tgt := 57) (by decide) rfl (by omega) (by omega) (fun h9 => ?_) (fun h9 => ?_)
    · refine g_iconst hC dX4_wouldBeEmptied_57 (pc' := 58) kc_iconst_1 rfl ?_
      refine g_iretI hC hRt nz_1 dX4_wouldBeEmptied_58 ?_
      refine ⟨(nI1_z ?_), hX2⟩
      rw [show t = 5 by omega] at hb
      unfold sfB emp
      rw [hb]
      rfl
    · have a9 := arv_le g p t
      have s9 : strng g t f (cnt g t f) ≤ 10 := mxN_le _ (fun j hj => by split <;> omega)
      have hse := str_seen (p := p) hI (show t < 5 by omega) hf
      refine g_aload_0 hC dX4_wouldBeEmptied_12 (pc' := 13) rfl ?_
      refine g_getR hC fl_X4_11 (sh_st ad hB) rfl dX4_wouldBeEmptied_13 (pc' := 16) rfl ?_
      refine g_iload_3 hC dX4_wouldBeEmptied_16 (pc' := 17) rfl ?_
      refine g_aald4 hC (sh_st1 ad hB) (Nat.le_of_ble_eq_true rfl) (by omega) (sheets_at (by omega)) dX4_wouldBeEmptied_17 (pc' := 18) rfl ?_
      refine g_iload_1 hC dX4_wouldBeEmptied_18 (pc' := 19) rfl ?_
      refine g_aload_0 hC dX4_wouldBeEmptied_19 (pc' := 20) rfl ?_
      refine g_getR hC fl_X4_17 (sh_st ad hB) rfl dX4_wouldBeEmptied_20 (pc' := 23) rfl ?_
      refine g_iconst hC dX4_wouldBeEmptied_23 (pc' := 24) kc_iconst_0 rfl ?_
      refine g_iald hC (sh_st2 ad hB) (Nat.le_of_ble_eq_true rfl) (by omega) (hR2.1.1) dX4_wouldBeEmptied_24 (pc' := 25) rfl ?_
      refine g_callV2R hC (c_sStrongest hB (t := t) (by omega) (hR2.2.2 t (by omega)) hI hf) ml_X4_107 (sh_sheet ad hB (by omega)) rfl ⟨(Nat.le_of_ble_eq_true rfl), (Nat.le_of_ble_eq_true rfl)⟩ (Nat.le_of_ble_eq_true rfl) dX4_wouldBeEmptied_25 (pc' := 28) rfl ⟨Nat.zero_le _, Nat.zero_le _⟩ ?_
      refine g_istore_4 hC dX4_wouldBeEmptied_28 (pc' := 30) rfl (Nat.le_of_ble_eq_true rfl) rfl ?_
      refine g_aload_0 hC dX4_wouldBeEmptied_30 (pc' := 31) rfl ?_
      refine g_iload_3 hC dX4_wouldBeEmptied_31 (pc' := 32) rfl ?_
      refine g_callV1R hC (c_tIn hB hR2 hI (s := t) (by omega)) ml_X4_36 (sh_st ad hB) rfl ⟨(Nat.le_of_ble_eq_true rfl), (Nat.le_of_ble_eq_true rfl)⟩ (Nat.le_of_ble_eq_true rfl) dX4_wouldBeEmptied_32 (pc' := 35) rfl ⟨Nat.zero_le _, Nat.zero_le _⟩ ?_
      refine g_ifZ_eq hC dX4_wouldBeEmptied_35 (pc' := 38) (tgt := 51) (by decide) rfl (fun h35 => ?_) (fun h35 => ?_)
      · have hz : seen (str g f p) f t = false := by rw [hse, h35]; rfl
        refine g_iinc_3 hC dX4_wouldBeEmptied_51 (pc' := 54) rfl (Nat.le_of_ble_eq_true rfl) rfl (nI_inc _ _ kc_iinc_1) ?_
        refine g_goto hC dX4_wouldBeEmptied_54 (tgt := 7) (by decide) ?_
        exact g_weak (ih7 (by omega) ((anB_f hz).trans hb)) (gle_s (gle_s (gle_s (gle_i (by first | rfl | omega) (gle_u gle_nil)))))
      · refine g_iload_4 hC dX4_wouldBeEmptied_38 (pc' := 40) rfl ?_
        refine g_aload_0 hC dX4_wouldBeEmptied_40 (pc' := 41) rfl ?_
        refine g_getR hC fl_X4_28 (sh_st ad hB) rfl dX4_wouldBeEmptied_41 (pc' := 44) rfl ?_
        refine g_iload_3 hC dX4_wouldBeEmptied_44 (pc' := 45) rfl ?_
        refine g_iald hC (sh_st3 ad hB) (Nat.le_of_ble_eq_true rfl) (by omega) (hA t (by omega)) dX4_wouldBeEmptied_45 (pc' := 46) rfl ?_
        refine g_icmpN_le hC dX4_wouldBeEmptied_46 (pc' := 49) (tgt := 51) (by decide) rfl (by omega) (by omega) (fun h46 => ?_) (fun h46 => ?_)
        · have hz : seen (str g f p) f t = false := by rw [hse, decide_eq_false (by omega), Bool.and_false]
          refine g_iinc_3 hC dX4_wouldBeEmptied_51 (pc' := 54) rfl (Nat.le_of_ble_eq_true rfl) rfl (nI_inc _ _ kc_iinc_1) ?_
          refine g_goto hC dX4_wouldBeEmptied_54 (tgt := 7) (by decide) ?_
          exact g_weak (ih7 (by omega) ((anB_f hz).trans hb)) (gle_s (gle_s (gle_s (gle_i (by first | rfl | omega) (gle_u gle_nil)))))
        · refine g_iconst hC dX4_wouldBeEmptied_49 (pc' := 50) kc_iconst_0 rfl ?_
          refine g_iretI hC hRt nz_0 dX4_wouldBeEmptied_50 ?_
          refine ⟨(nI0_z ?_), hX2⟩
          unfold sfB emp
          rw [anB_iff.mpr ⟨t, by omega, by rw [hse, h35, decide_eq_true (by omega)]; rfl⟩]
          rfl
  exact g_weak (L7 0 (by exact Nat.zero_le _) rfl) (gle_s (gle_s (gle_s (gle_s (gle_u gle_nil)))))

set_option maxHeartbeats 4000000 in
set_option maxRecDepth 100000 in
theorem c_tLowest {l : Launch} {ad : Nat → Nat} {X : gX} {B : Nat} {g : Nat → Nat} (hB : isB B) (hR : RS X B g) (hI : Inv g) {p : Nat} (hp : 1 ≤ p ∧ p ≤ 9) (hst : g 2 < g 3)  : K_X4_pressesToTheLowest l ad [.ref B, .int (nI p)] X (fun rr X' => rr = nI (mst g p 5) ∧ ∀ i, i ≠ B + 3 → X' i = X i) := by
  refine Ct.of [.ref B, .int (nI p), .null, .null] 2 (by decide +kernel) rfl (Nat.le_of_ble_eq_true rfl) (fun F hl hC hRt _ => ?_)
  subst hl
  have b23 : g 2 ≤ g 3 ∧ g 3 ≤ 5 := hI.1.2.2
  refine g_sipush hC dX4_pressesToTheLowest_0 (pc' := 3) kc_sipush_1000 rfl ?_
  refine g_istore_2 hC dX4_pressesToTheLowest_3 (pc' := 4) rfl (Nat.le_of_ble_eq_true rfl) rfl ?_
  refine g_aload_0 hC dX4_pressesToTheLowest_4 (pc' := 5) rfl ?_
  refine g_iload_1 hC dX4_pressesToTheLowest_5 (pc' := 6) rfl ?_
  refine g_callV1V hC (c_tMeasure hB hR hI hp.2) ml_X4_68 (sh_st ad hB) rfl ⟨(Nat.le_of_ble_eq_true rfl), (Nat.le_of_ble_eq_true rfl)⟩ (Nat.le_of_ble_eq_true rfl) dX4_pressesToTheLowest_6 (pc' := 9) rfl ⟨Nat.zero_le _, Nat.zero_le _⟩ (fun X6 q6 => ?_)
  obtain ⟨hA, hX2⟩ := q6
  have hR2 := hR.arr hX2
  refine g_iconst hC dX4_pressesToTheLowest_9 (pc' := 10) kc_iconst_0 rfl ?_
  refine g_istore_3 hC dX4_pressesToTheLowest_10 (pc' := 11) rfl (Nat.le_of_ble_eq_true rfl) rfl ?_
  have L11 : ∀ t, t ≤ 5 → (∀ u, u < t → inS g u = true → 0 < arv g p u) → G F (S0 ad) (0, 0) X6 11 [.ref B, .int (nI p), .int (nI (mnu g t)), .int (nI t)] [] := by
    refine up_ind _ (fun t hk11 ih11 => ?_)
    intro hb
    refine g_iload_3 hC dX4_pressesToTheLowest_11 (pc' := 12) rfl ?_
    refine g_iconst hC dX4_pressesToTheLowest_12 (pc' := 13) kc_iconst_5 rfl ?_
    refine g_icmpN_ge hC dX4_pressesToTheLowest_13 (pc' := 16) (tgt := 71) (by decide) rfl (by omega) (by omega) (fun h13 => ?_) (fun h13 => ?_)
    · refine g_iload_2 hC dX4_pressesToTheLowest_71 (pc' := 72) rfl ?_
      refine g_iretI hC hRt rfl dX4_pressesToTheLowest_72 ?_
      rw [show t = 5 by omega] at hb ⊢
      exact ⟨congrArg nI (mst_mnu b23.2 hb 5 (Nat.le_refl _)).symm, hX2⟩
    · have a9 := arv_le g p t
      have b9 := hI.t (show t < 5 by omega)
      have m9 := mnu_le g t
      refine g_aload_0 hC dX4_pressesToTheLowest_16 (pc' := 17) rfl ?_
      refine g_iload_3 hC dX4_pressesToTheLowest_17 (pc' := 18) rfl ?_
      refine g_callV1R hC (c_tIn hB hR2 hI (s := t) (by omega)) ml_X4_36 (sh_st ad hB) rfl ⟨(Nat.le_of_ble_eq_true rfl), (Nat.le_of_ble_eq_true rfl)⟩ (Nat.le_of_ble_eq_true rfl) dX4_pressesToTheLowest_18 (pc' := 21) rfl ⟨Nat.zero_le _, Nat.zero_le _⟩ ?_
      refine g_ifZ_eq hC dX4_pressesToTheLowest_21 (pc' := 24) (tgt := 35) (by decide) rfl (fun h21 => ?_) (fun h21 => ?_)
      · have hnz : ¬ (inS g t = true ∧ arv g p t = 0) := fun w => by rw [h21] at w; cases w.1
        refine g_aload_0 hC dX4_pressesToTheLowest_35 (pc' := 36) rfl ?_
        refine g_iload_3 hC dX4_pressesToTheLowest_36 (pc' := 37) rfl ?_
        refine g_callV1R hC (c_tIn hB hR2 hI (s := t) (by omega)) ml_X4_36 (sh_st ad hB) rfl ⟨(Nat.le_of_ble_eq_true rfl), (Nat.le_of_ble_eq_true rfl)⟩ (Nat.le_of_ble_eq_true rfl) dX4_pressesToTheLowest_37 (pc' := 40) rfl ⟨Nat.zero_le _, Nat.zero_le _⟩ ?_
        refine g_ifZ_eq hC dX4_pressesToTheLowest_40 (pc' := 43) (tgt := 65) (by decide) rfl (fun h40 => ?_) (fun h40 => ?_)
        · refine g_iinc_3 hC dX4_pressesToTheLowest_65 (pc' := 68) rfl (Nat.le_of_ble_eq_true rfl) rfl (nI_inc _ _ kc_iinc_1) ?_
          refine g_goto hC dX4_pressesToTheLowest_68 (tgt := 11) (by decide) ?_
          exact g_weak (ih11 (by omega) (fun u hu hi => by by_cases hz : u = t; subst hz; exact Nat.pos_of_ne_zero (fun w => hnz ⟨hi, w⟩); exact hb u (by omega) hi)) (gle_s (gle_s (gle_i (by first | exact congrArg nI (mnu_y h40 h48) | exact congrArg nI (mnu_n (fun w => by have := w.2; omega)) | exact congrArg nI (mnu_n (fun w => absurd w.1 (by rw [h40]; decide)))) (gle_i (by first | rfl | omega) gle_nil))))
        · refine g_iload_3 hC dX4_pressesToTheLowest_43 (pc' := 44) rfl ?_
          refine g_aload_0 hC dX4_pressesToTheLowest_44 (pc' := 45) rfl ?_
          refine g_getI hC fl_X4_25 (sh_st ad hB) rfl (hR2.2.1.2) dX4_pressesToTheLowest_45 (pc' := 48) rfl ?_
          refine g_icmpL_ge hC dX4_pressesToTheLowest_48 (pc' := 51) (tgt := 65) (by decide) rfl (by omega) (by omega) (fun h48 => ?_) (fun h48 => ?_)
          · refine g_iinc_3 hC dX4_pressesToTheLowest_65 (pc' := 68) rfl (Nat.le_of_ble_eq_true rfl) rfl (nI_inc _ _ kc_iinc_1) ?_
            refine g_goto hC dX4_pressesToTheLowest_68 (tgt := 11) (by decide) ?_
            exact g_weak (ih11 (by omega) (fun u hu hi => by by_cases hz : u = t; subst hz; exact Nat.pos_of_ne_zero (fun w => hnz ⟨hi, w⟩); exact hb u (by omega) hi)) (gle_s (gle_s (gle_i (by first | exact congrArg nI (mnu_y h40 h48) | exact congrArg nI (mnu_n (fun w => by have := w.2; omega)) | exact congrArg nI (mnu_n (fun w => absurd w.1 (by rw [h40]; decide)))) (gle_i (by first | rfl | omega) gle_nil))))
          · refine g_iload_2 hC dX4_pressesToTheLowest_51 (pc' := 52) rfl ?_
            refine g_aload_0 hC dX4_pressesToTheLowest_52 (pc' := 53) rfl ?_
            refine g_getR hC fl_X4_11 (sh_st ad hB) rfl dX4_pressesToTheLowest_53 (pc' := 56) rfl ?_
            refine g_iload_3 hC dX4_pressesToTheLowest_56 (pc' := 57) rfl ?_
            refine g_aald4 hC (sh_st1 ad hB) (Nat.le_of_ble_eq_true rfl) (by omega) (sheets_at (by omega)) dX4_pressesToTheLowest_57 (pc' := 58) rfl ?_
            refine g_getI hC fl_X4_43 (sh_sheet ad hB (by omega)) rfl ((hR2.2.2 t (by omega)).1.2.1) dX4_pressesToTheLowest_58 (pc' := 61) rfl ?_
            refine g_mminN hC ml_X4_110 ⟨(Nat.le_of_ble_eq_true rfl), (Nat.le_of_ble_eq_true rfl)⟩ ⟨Nat.zero_le _, Nat.zero_le _⟩ dX4_pressesToTheLowest_61 (pc' := 64) rfl (by omega) (by omega) ?_
            refine g_istore_2 hC dX4_pressesToTheLowest_64 (pc' := 65) rfl (Nat.le_of_ble_eq_true rfl) rfl ?_
            refine g_iinc_3 hC dX4_pressesToTheLowest_65 (pc' := 68) rfl (Nat.le_of_ble_eq_true rfl) rfl (nI_inc _ _ kc_iinc_1) ?_
            refine g_goto hC dX4_pressesToTheLowest_68 (tgt := 11) (by decide) ?_
            exact g_weak (ih11 (by omega) (fun u hu hi => by by_cases hz : u = t; subst hz; exact Nat.pos_of_ne_zero (fun w => hnz ⟨hi, w⟩); exact hb u (by omega) hi)) (gle_s (gle_s (gle_i (by first | exact congrArg nI (mnu_y h40 h48) | exact congrArg nI (mnu_n (fun w => by have := w.2; omega)) | exact congrArg nI (mnu_n (fun w => absurd w.1 (by rw [h40]; decide)))) (gle_i (by first | rfl | omega) gle_nil))))
      · refine g_aload_0 hC dX4_pressesToTheLowest_24 (pc' := 25) rfl ?_
        refine g_getR hC fl_X4_28 (sh_st ad hB) rfl dX4_pressesToTheLowest_25 (pc' := 28) rfl ?_
        refine g_iload_3 hC dX4_pressesToTheLowest_28 (pc' := 29) rfl ?_
        refine g_iald hC (sh_st3 ad hB) (Nat.le_of_ble_eq_true rfl) (by omega) (hA t (by omega)) dX4_pressesToTheLowest_29 (pc' := 30) rfl ?_
        refine g_ifN_ne hC dX4_pressesToTheLowest_30 (pc' := 33) (tgt := 35) (by decide) rfl (by omega) (fun h30 => ?_) (fun h30 => ?_)
        · have hnz : ¬ (inS g t = true ∧ arv g p t = 0) := fun w => h30 w.2
          refine g_aload_0 hC dX4_pressesToTheLowest_35 (pc' := 36) rfl ?_
          refine g_iload_3 hC dX4_pressesToTheLowest_36 (pc' := 37) rfl ?_
          refine g_callV1R hC (c_tIn hB hR2 hI (s := t) (by omega)) ml_X4_36 (sh_st ad hB) rfl ⟨(Nat.le_of_ble_eq_true rfl), (Nat.le_of_ble_eq_true rfl)⟩ (Nat.le_of_ble_eq_true rfl) dX4_pressesToTheLowest_37 (pc' := 40) rfl ⟨Nat.zero_le _, Nat.zero_le _⟩ ?_
          refine g_ifZ_eq hC dX4_pressesToTheLowest_40 (pc' := 43) (tgt := 65) (by decide) rfl (fun h40 => ?_) (fun h40 => ?_)
          · refine g_iinc_3 hC dX4_pressesToTheLowest_65 (pc' := 68) rfl (Nat.le_of_ble_eq_true rfl) rfl (nI_inc _ _ kc_iinc_1) ?_
            refine g_goto hC dX4_pressesToTheLowest_68 (tgt := 11) (by decide) ?_
            exact g_weak (ih11 (by omega) (fun u hu hi => by by_cases hz : u = t; subst hz; exact Nat.pos_of_ne_zero (fun w => hnz ⟨hi, w⟩); exact hb u (by omega) hi)) (gle_s (gle_s (gle_i (by first | exact congrArg nI (mnu_y h40 h48) | exact congrArg nI (mnu_n (fun w => by have := w.2; omega)) | exact congrArg nI (mnu_n (fun w => absurd w.1 (by rw [h40]; decide)))) (gle_i (by first | rfl | omega) gle_nil))))
          · refine g_iload_3 hC dX4_pressesToTheLowest_43 (pc' := 44) rfl ?_
            refine g_aload_0 hC dX4_pressesToTheLowest_44 (pc' := 45) rfl ?_
            refine g_getI hC fl_X4_25 (sh_st ad hB) rfl (hR2.2.1.2) dX4_pressesToTheLowest_45 (pc' := 48) rfl ?_
            refine g_icmpL_ge hC dX4_pressesToTheLowest_48 (pc' := 51) (tgt := 65) (by decide) rfl (by omega) (by omega) (fun h48 => ?_) (fun h48 => ?_)
            · refine g_iinc_3 hC dX4_pressesToTheLowest_65 (pc' := 68) rfl (Nat.le_of_ble_eq_true rfl) rfl (nI_inc _ _ kc_iinc_1) ?_
              refine g_goto hC dX4_pressesToTheLowest_68 (tgt := 11) (by decide) ?_
              exact g_weak (ih11 (by omega) (fun u hu hi => by by_cases hz : u = t; subst hz; exact Nat.pos_of_ne_zero (fun w => hnz ⟨hi, w⟩); exact hb u (by omega) hi)) (gle_s (gle_s (gle_i (by first | exact congrArg nI (mnu_y h40 h48) | exact congrArg nI (mnu_n (fun w => by have := w.2; omega)) | exact congrArg nI (mnu_n (fun w => absurd w.1 (by rw [h40]; decide)))) (gle_i (by first | rfl | omega) gle_nil))))
            · refine g_iload_2 hC dX4_pressesToTheLowest_51 (pc' := 52) rfl ?_
              refine g_aload_0 hC dX4_pressesToTheLowest_52 (pc' := 53) rfl ?_
              refine g_getR hC fl_X4_11 (sh_st ad hB) rfl dX4_pressesToTheLowest_53 (pc' := 56) rfl ?_
              refine g_iload_3 hC dX4_pressesToTheLowest_56 (pc' := 57) rfl ?_
              refine g_aald4 hC (sh_st1 ad hB) (Nat.le_of_ble_eq_true rfl) (by omega) (sheets_at (by omega)) dX4_pressesToTheLowest_57 (pc' := 58) rfl ?_
              refine g_getI hC fl_X4_43 (sh_sheet ad hB (by omega)) rfl ((hR2.2.2 t (by omega)).1.2.1) dX4_pressesToTheLowest_58 (pc' := 61) rfl ?_
              refine g_mminN hC ml_X4_110 ⟨(Nat.le_of_ble_eq_true rfl), (Nat.le_of_ble_eq_true rfl)⟩ ⟨Nat.zero_le _, Nat.zero_le _⟩ dX4_pressesToTheLowest_61 (pc' := 64) rfl (by omega) (by omega) ?_
              refine g_istore_2 hC dX4_pressesToTheLowest_64 (pc' := 65) rfl (Nat.le_of_ble_eq_true rfl) rfl ?_
              refine g_iinc_3 hC dX4_pressesToTheLowest_65 (pc' := 68) rfl (Nat.le_of_ble_eq_true rfl) rfl (nI_inc _ _ kc_iinc_1) ?_
              refine g_goto hC dX4_pressesToTheLowest_68 (tgt := 11) (by decide) ?_
              exact g_weak (ih11 (by omega) (fun u hu hi => by by_cases hz : u = t; subst hz; exact Nat.pos_of_ne_zero (fun w => hnz ⟨hi, w⟩); exact hb u (by omega) hi)) (gle_s (gle_s (gle_i (by first | exact congrArg nI (mnu_y h40 h48) | exact congrArg nI (mnu_n (fun w => by have := w.2; omega)) | exact congrArg nI (mnu_n (fun w => absurd w.1 (by rw [h40]; decide)))) (gle_i (by first | rfl | omega) gle_nil))))
        · refine g_iconst hC dX4_pressesToTheLowest_33 (pc' := 34) kc_iconst_0 rfl ?_
          refine g_iretI hC hRt rfl dX4_pressesToTheLowest_34 ?_
          have h0 : prs g p t = 0 := by rw [← arv_t h21]; exact h30
          have h3 := inS_iff.mp h21
          exact ⟨congrArg nI (mst_0u (mst_0 hp.1 t h3.2 h0) 5 (by omega)).symm, hX2⟩
  exact g_weak (L11 0 (by exact Nat.zero_le _) (fun u hu => absurd hu (Nat.not_lt_zero u))) (gle_s (gle_s (gle_i (by rfl) (gle_s gle_nil))))
