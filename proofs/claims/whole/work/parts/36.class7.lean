/-- sheet t is the first of its value -/
def nw (g : Nat → Nat) (f t : Nat) : Bool := decide (kind g t f = 1) && !anB (told g f t) t
def nC (g : Nat → Nat) (f t : Nat) : Nat := cnB (nw g f) t
def ixs (g : Nat → Nat) (f c : Nat) : Nat → Nat
  | 0 => 0
  | t + 1 => if nw g f t = true ∧ nC g f t = c then t else ixs g f c t
def ix (g : Nat → Nat) (f c : Nat) : Nat := ixs g f c 5
def cV (g : Nat → Nat) (f c : Nat) : Nat := vN g (ix g f c) f
def cW (g : Nat → Nat) (f t c : Nat) : Nat := smN (vot g f (cV g f c)) t
theorem nC_t {g : Nat → Nat} {f t : Nat} (h : nw g f t = true) : nC g f (t + 1) = nC g f t + 1 := cnB_t h
theorem nC_f {g : Nat → Nat} {f t : Nat} (h : nw g f t = false) : nC g f (t + 1) = nC g f t := cnB_f h
theorem nC_mono {g : Nat → Nat} {f t : Nat} : ∀ {u : Nat}, t ≤ u → nC g f t ≤ nC g f u := by
  intro u
  induction u with
  | zero => intro h; rw [show t = 0 by omega]; exact Nat.le_refl _
  | succ u ih =>
    intro h
    by_cases hz : t = u + 1
    · rw [hz]; exact Nat.le_refl _
    · have := ih (by omega)
      cases hw : nw g f u with
      | true => rw [nC_t hw]; omega
      | false => rw [nC_f hw]; omega
theorem nC_lt {g : Nat → Nat} {f t u : Nat} (h : t < u) (hw : nw g f t = true) : nC g f t < nC g f u := by
  have := nC_mono (g := g) (f := f) (show t + 1 ≤ u from h)
  rw [nC_t hw] at this
  omega
theorem ix_of {g : Nat → Nat} {f u : Nat} (hw : nw g f u = true) : ∀ {t : Nat}, u < t → ixs g f (nC g f u) t = u := by
  intro t
  induction t with
  | zero => intro h; omega
  | succ t ih =>
    intro h
    unfold ixs
    by_cases hz : u = t
    · subst hz; rw [if_pos ⟨hw, rfl⟩]
    · rw [if_neg]
      · exact ih (by omega)
      · rintro ⟨h1, h2⟩
        have := nC_lt (g := g) (f := f) (show u < t by omega) hw
        omega
theorem ix_ex {g : Nat → Nat} {f c : Nat} : ∀ {t : Nat}, c < nC g f t → ∃ u, u < t ∧ nw g f u = true ∧ nC g f u = c := by
  intro t
  induction t with
  | zero => intro h; exact absurd h (Nat.not_lt_zero c)
  | succ t ih =>
    intro h
    cases hw : nw g f t with
    | true =>
      rw [nC_t hw] at h
      by_cases hz : c = nC g f t
      · exact ⟨t, by omega, hw, hz.symm⟩
      · obtain ⟨u, h1, h2⟩ := ih (by omega)
        exact ⟨u, by omega, h2⟩
    | false =>
      rw [nC_f hw] at h
      obtain ⟨u, h1, h2⟩ := ih h
      exact ⟨u, by omega, h2⟩
theorem ix_p {g : Nat → Nat} {f c t : Nat} (ht : t ≤ 5) (h : c < nC g f t) : ix g f c < t ∧ nw g f (ix g f c) = true ∧ nC g f (ix g f c) = c := by
  obtain ⟨u, h1, h2, h3⟩ := ix_ex h
  have e : ix g f c = u := by rw [← h3]; exact ix_of h2 (by omega)
  rw [e]
  exact ⟨h1, h2, h3⟩
theorem nC_le (g : Nat → Nat) (f t : Nat) : nC g f t ≤ t := cnB_le _ _
theorem nw_1 {g : Nat → Nat} {f t : Nat} (h : nw g f t = true) : kind g t f = 1 := by
  unfold nw at h
  simp only [Bool.and_eq_true, decide_eq_true_eq] at h
  exact h.1
theorem nw_2 {g : Nat → Nat} {f t u : Nat} (h : nw g f t = true) (hu : u < t) (hk : kind g u f = 1) : vN g u f ≠ vN g t f := fun e => by
  unfold nw at h
  simp only [Bool.and_eq_true, decide_eq_true_eq, Bool.not_eq_true'] at h
  have : anB (told g f t) t = true := anB_iff.mpr ⟨u, hu, by unfold told; rw [decide_eq_true hk, decide_eq_true e]; rfl⟩
  rw [this] at h
  cases h.2
/-- the first of a value -/
theorem nw_ex {g : Nat → Nat} {f v : Nat} : ∀ t, (∃ u, u < t ∧ kind g u f = 1 ∧ vN g u f = v) → ∃ u, u < t ∧ nw g f u = true ∧ vN g u f = v := by
  intro t
  induction t with
  | zero => rintro ⟨u, h, -⟩; omega
  | succ t ih =>
    rintro ⟨u, h1, h2, h3⟩
    by_cases he : ∃ u, u < t ∧ kind g u f = 1 ∧ vN g u f = v
    · obtain ⟨w, h4, h5⟩ := ih he
      exact ⟨w, by omega, h5⟩
    · have hut : u = t := by
        by_cases hz : u = t
        · exact hz
        · exact absurd ⟨u, by omega, h2, h3⟩ he
      subst hut
      refine ⟨u, by omega, ?_, h3⟩
      unfold nw
      rw [decide_eq_true h2]
      cases ha : anB (told g f u) u with
      | false => rfl
      | true =>
        obtain ⟨w, h4, h5⟩ := anB_iff.mp ha
        unfold told at h5
        simp only [Bool.and_eq_true, decide_eq_true_eq] at h5
        exact absurd ⟨w, h4, h5.1, h5.2.trans h3⟩ he
theorem cV_ne {g : Nat → Nat} {f c d t : Nat} (ht : t ≤ 5) (hc : c < nC g f t) (hd : d < nC g f t) (h : cV g f c = cV g f d) : c = d := by
  obtain ⟨c1, c2, c3⟩ := ix_p ht hc
  obtain ⟨d1, d2, d3⟩ := ix_p ht hd
  rcases Nat.lt_trichotomy (ix g f c) (ix g f d) with hl | he | hl
  · exact absurd h (nw_2 d2 hl (nw_1 c2))
  · rw [← c3, ← d3, he]
  · exact absurd h.symm (nw_2 c2 hl (nw_1 d2))
theorem cW_s {g : Nat → Nat} {f t c : Nat} : cW g f (t + 1) c = cW g f t c + vot g f (cV g f c) t := rfl
theorem cW_le (g : Nat → Nat) (f t c : Nat) (ht : t ≤ 5) : cW g f t c ≤ 45 := by
  have := smN_le (vot_le g f (cV g f c)) t
  unfold cW
  omega
theorem vot_y {g : Nat → Nat} {f v t : Nat} (h : kind g t f = 1) (hv : vN g t f = v) : vot g f v t = pN g t f := by unfold vot; rw [if_pos ⟨h, hv⟩]
theorem vot_n {g : Nat → Nat} {f v t : Nat} (h : ¬ (kind g t f = 1 ∧ vN g t f = v)) : vot g f v t = 0 := by unfold vot; rw [if_neg h]
theorem smN_0 {F : Nat → Nat} : ∀ {n : Nat}, (∀ k, k < n → F k = 0) → smN F n = 0 := by
  intro n
  induction n with
  | zero => intro _; rfl
  | succ n ih => intro h; show smN F n + F n = 0; rw [ih (fun k hk => h k (by omega)), h n (by omega)]
def TA (X : gX) (C : Nat) (V W : Nat → Nat) : Prop := X 39 5 = nI C ∧ ∀ c, c < C → X 40 c = nI (V c) ∧ X 41 c = nI (W c)
theorem TA.congr {X : gX} {C C' : Nat} {V W V' W' : Nat → Nat} (h : TA X C V W) (hC : C = C') (e1 : ∀ c, c < C → V c = V' c) (e2 : ∀ c, c < C → W c = W' c) : TA X C' V' W' := by
  subst hC
  exact ⟨h.1, fun c hc => by rw [← e1 c hc, ← e2 c hc]; exact h.2 c hc⟩
def fT (X X' : gX) : Prop := (∀ i, i ≠ 39 → i ≠ 40 → i ≠ 41 → X' i = X i) ∧ ∀ j, j ≠ 5 → X' 39 j = X 39 j
theorem TA_vote {X : gX} {C c p : Nat} {V W : Nat → Nat} (h : TA X C V W) (hc : c < C) : TA (gu X 41 c (nI (W c + p))) C V (updN W c (W c + p)) ∧ fT X (gu X 41 c (nI (W c + p))) := by
  refine ⟨⟨by rw [gu_ne 39 (by decide)]; exact h.1, fun d hd => ⟨by rw [gu_ne 40 (by decide)]; exact (h.2 d hd).1, ?_⟩⟩, fun i _ _ h2 => gu_ne i h2, fun j _ => by rw [gu_ne 39 (by decide)]⟩
  unfold updN
  by_cases hz : d = c
  · subst hz; rw [gu_at, if_pos rfl]
  · rw [gu_id hz, if_neg hz]; exact (h.2 d hd).2
theorem TA_new {X : gX} {C v p : Nat} {V W : Nat → Nat} (h : TA X C V W) : TA (gu (gu (gu X 40 C (nI v)) 41 C (nI p)) 39 5 (nI (C + 1))) (C + 1) (updN V C v) (updN W C p) ∧ fT X (gu (gu (gu X 40 C (nI v)) 41 C (nI p)) 39 5 (nI (C + 1))) := by
  refine ⟨⟨gu_at, fun d hd => ⟨?_, ?_⟩⟩, fun i h0 h1 h2 => by rw [gu_ne i h0, gu_ne i h2, gu_ne i h1], fun j hj => by rw [gu_id hj, gu_ne 39 (by decide), gu_ne 39 (by decide)]⟩
  · rw [gu_ne 40 (by decide), gu_ne 40 (by decide)]
    unfold updN
    by_cases hz : d = C
    · subst hz; rw [gu_at, if_pos rfl]
    · rw [gu_id hz, if_neg hz]; exact (h.2 d (by omega)).1
  · rw [gu_ne 41 (by decide)]
    unfold updN
    by_cases hz : d = C
    · subst hz; rw [gu_at, if_pos rfl]
    · rw [gu_id hz, gu_ne 41 (by decide), if_neg hz]; exact (h.2 d (by omega)).2

set_option maxHeartbeats 4000000 in
set_option maxRecDepth 100000 in
theorem c_addVotes {l : Launch} {ad : Nat → Nat} {X : gX} {C v p : Nat} {V W : Nat → Nat} (hT : TA X C V W) (hC5 : C ≤ 5) (hv : v < 1000) (hp : p ≤ 9) (hV : ∀ c, c < C → V c < 1000) (hW : ∀ c, c < C → W c ≤ 45) : K_X5_addVotes l ad [.ref 39, .int (nI v), .int (nI p)] X (fun X' => fT X X' ∧ ((∃ c, c < C ∧ V c = v ∧ TA X' C V (updN W c (W c + p))) ∨ ((∀ c, c < C → V c ≠ v) ∧ (C < 5 → TA X' (C + 1) (updN V C v) (updN W C p))))) := by
  refine Ct.of [.ref 39, .int (nI v), .int (nI p), .null] 1 (by decide +kernel) rfl (Nat.le_of_ble_eq_true rfl) (fun F hl hC hRt _ => ?_)
  subst hl
  refine g_iconst hC dX5_addVotes_0 (pc' := 1) kc_iconst_0 rfl ?_
  refine g_istore_3 hC dX5_addVotes_1 (pc' := 2) rfl (Nat.le_of_ble_eq_true rfl) rfl ?_
  have L2 : ∀ k, k ≤ C → (∀ c, c < k → V c ≠ v) → G F (S0 ad) (0, 0) X 2 [.ref 39, .int (nI v), .int (nI p), .int (nI k)] [] := by
    refine up_ind _ (fun k hk2 ih2 => ?_)
    intro hb
    refine g_iload_3 hC dX5_addVotes_2 (pc' := 3) rfl ?_
    refine g_aload_0 hC dX5_addVotes_3 (pc' := 4) rfl ?_
    refine g_getI hC fl_X5_22 (sh_tally ad) rfl (hT.1) dX5_addVotes_4 (pc' := 7) rfl ?_
    refine g_icmpN_ge hC dX5_addVotes_7 (pc' := 10) (tgt := 37) (by decide) rfl (by omega) (by omega) (fun h7 => ?_) (fun h7 => ?_)
    · refine g_aload_0 hC dX5_addVotes_37 (pc' := 38) rfl ?_
      refine g_getI hC fl_X5_22 (sh_tally ad) rfl (hT.1) dX5_addVotes_38 (pc' := 41) rfl ?_
      refine g_iconst hC dX5_addVotes_41 (pc' := 42) kc_iconst_5 rfl ?_
      refine g_icmpN_ge hC dX5_addVotes_42 (pc' := 45) (tgt := 75) (by decide) rfl (by omega) (by omega) (fun h42 => ?_) (fun h42 => ?_)
      · refine g_vretV hC hRt dX5_addVotes_75 ?_
        rw [show k = C by omega] at hb
        exact ⟨⟨fun _ _ _ _ => rfl, fun _ _ => rfl⟩, Or.inr ⟨hb, fun z => by omega⟩⟩
      · refine g_aload_0 hC dX5_addVotes_45 (pc' := 46) rfl ?_
        refine g_getR hC fl_X5_9 (sh_tally ad) rfl dX5_addVotes_46 (pc' := 49) rfl ?_
        refine g_aload_0 hC dX5_addVotes_49 (pc' := 50) rfl ?_
        refine g_getI hC fl_X5_22 (sh_tally ad) rfl (hT.1) dX5_addVotes_50 (pc' := 53) rfl ?_
        refine g_iload_1 hC dX5_addVotes_53 (pc' := 54) rfl ?_
        refine g_iast hC (sh_tvals ad) (Nat.le_of_ble_eq_true rfl) (by omega) dX5_addVotes_54 (pc' := 55) rfl ?_
        refine g_aload_0 hC dX5_addVotes_55 (pc' := 56) rfl ?_
        refine g_getR hC fl_X5_15 (sh_tally ad) rfl dX5_addVotes_56 (pc' := 59) rfl ?_
        refine g_aload_0 hC dX5_addVotes_59 (pc' := 60) rfl ?_
        refine g_getI hC fl_X5_22 (sh_tally ad) rfl ((congrFun (gu_ne 39 (by decide)) 5).trans hT.1) dX5_addVotes_60 (pc' := 63) rfl ?_
        refine g_iload_2 hC dX5_addVotes_63 (pc' := 64) rfl ?_
        refine g_iast hC (sh_tvotes ad) (Nat.le_of_ble_eq_true rfl) (by omega) dX5_addVotes_64 (pc' := 65) rfl ?_
        refine g_aload_0 hC dX5_addVotes_65 (pc' := 66) rfl ?_
        refine g_dup hC dX5_addVotes_66 (pc' := 67) rfl rfl ?_
        refine g_getI hC fl_X5_22 (sh_tally ad) rfl ((congrFun ((gu_ne 39 (by decide)).trans (gu_ne 39 (by decide))) 5).trans hT.1) dX5_addVotes_67 (pc' := 70) rfl ?_
        refine g_iconst hC dX5_addVotes_70 (pc' := 71) kc_iconst_1 rfl ?_
        refine g_iaddN hC dX5_addVotes_71 (pc' := 72) rfl ?_
        refine g_putI hC fl_X5_22 (sh_tally ad) rfl rfl rfl dX5_addVotes_72 (pc' := 75) rfl ?_
        refine g_vretV hC hRt dX5_addVotes_75 ?_
        rw [show k = C by omega] at hb
        obtain ⟨t1, t2⟩ := TA_new (v := v) (p := p) hT
        exact ⟨t2, Or.inr ⟨hb, fun _ => t1⟩⟩
    · have bv := hV k (by omega)
      have bw := hW k (by omega)
      refine g_aload_0 hC dX5_addVotes_10 (pc' := 11) rfl ?_
      refine g_getR hC fl_X5_9 (sh_tally ad) rfl dX5_addVotes_11 (pc' := 14) rfl ?_
      refine g_iload_3 hC dX5_addVotes_14 (pc' := 15) rfl ?_
      refine g_iald hC (sh_tvals ad) (Nat.le_of_ble_eq_true rfl) (by omega) ((hT.2 k (by omega)).1) dX5_addVotes_15 (pc' := 16) rfl ?_
      refine g_iload_1 hC dX5_addVotes_16 (pc' := 17) rfl ?_
      refine g_icmpN_ne hC dX5_addVotes_17 (pc' := 20) (tgt := 31) (by decide) rfl (by omega) (by omega) (fun h17 => ?_) (fun h17 => ?_)
      · refine g_iinc_3 hC dX5_addVotes_31 (pc' := 34) rfl (Nat.le_of_ble_eq_true rfl) rfl (nI_inc _ _ kc_iinc_1) ?_
        refine g_goto hC dX5_addVotes_34 (tgt := 2) (by decide) ?_
        exact g_weak (ih2 (by omega) (fun c hc => by by_cases hz : c = k; subst hz; exact h17; exact hb c (by omega))) (gle_s (gle_s (gle_s (gle_i (by first | rfl | omega) gle_nil))))
      · refine g_aload_0 hC dX5_addVotes_20 (pc' := 21) rfl ?_
        refine g_getR hC fl_X5_15 (sh_tally ad) rfl dX5_addVotes_21 (pc' := 24) rfl ?_
        refine g_iload_3 hC dX5_addVotes_24 (pc' := 25) rfl ?_
        refine g_dup2 hC dX5_addVotes_25 (pc' := 26) rfl rfl rfl ?_
        refine g_iald hC (sh_tvotes ad) (Nat.le_of_ble_eq_true rfl) (by omega) ((hT.2 k (by omega)).2) dX5_addVotes_26 (pc' := 27) rfl ?_
        refine g_iload_2 hC dX5_addVotes_27 (pc' := 28) rfl ?_
        refine g_iaddN hC dX5_addVotes_28 (pc' := 29) rfl ?_
        refine g_iast hC (sh_tvotes ad) (Nat.le_of_ble_eq_true rfl) (by omega) dX5_addVotes_29 (pc' := 30) rfl ?_
        refine g_vretV hC hRt dX5_addVotes_30 ?_
        obtain ⟨t1, t2⟩ := TA_vote (p := p) hT (show k < C by omega)
        exact ⟨t2, Or.inl ⟨k, by omega, h17, t1⟩⟩
  exact g_weak (L2 0 (by exact Nat.zero_le _) (fun c hc => absurd hc (Nat.not_lt_zero c))) (gle_s (gle_s (gle_s (gle_s gle_nil))))

/-- the leaders, over the values -/
def flr (g : Nat → Nat) (f : Nat) : Nat → Nat × Nat × Nat × Nat
  | 0 => (0, 0, 0, 0)
  | c + 1 => if (flr g f c).2.2.2 < vts g f (cV g f c) then (1, cV g f c, cV g f c, vts g f (cV g f c)) else if vts g f (cV g f c) = (flr g f c).2.2.2 then ((flr g f c).1 + 1, min (cV g f c) (flr g f c).2.1, max (cV g f c) (flr g f c).2.2.1, (flr g f c).2.2.2) else flr g f c
theorem flr_gt {g : Nat → Nat} {f c : Nat} (h : (flr g f c).2.2.2 < vts g f (cV g f c)) : flr g f (c + 1) = (1, cV g f c, cV g f c, vts g f (cV g f c)) := by
  show (if _ then _ else _) = _
  rw [if_pos h]
theorem flr_eq {g : Nat → Nat} {f c : Nat} (h : vts g f (cV g f c) = (flr g f c).2.2.2) : flr g f (c + 1) = ((flr g f c).1 + 1, min (cV g f c) (flr g f c).2.1, max (cV g f c) (flr g f c).2.2.1, (flr g f c).2.2.2) := by
  show (if _ then _ else _) = _
  rw [if_neg (by omega), if_pos h]
theorem flr_lt {g : Nat → Nat} {f c : Nat} (h : ¬ (flr g f c).2.2.2 < vts g f (cV g f c)) (h2 : ¬ vts g f (cV g f c) = (flr g f c).2.2.2) : flr g f (c + 1) = flr g f c := by
  show (if _ then _ else _) = _
  rw [if_neg h, if_neg h2]
theorem flr_max {g : Nat → Nat} {f : Nat} : ∀ {C c : Nat}, c < C → vts g f (cV g f c) ≤ (flr g f C).2.2.2 := by
  intro C
  induction C with
  | zero => intro c h; omega
  | succ C ih =>
    intro c h
    have e : vts g f (cV g f C) ≤ (flr g f (C + 1)).2.2.2 ∧ (flr g f C).2.2.2 ≤ (flr g f (C + 1)).2.2.2 := by
      by_cases h1 : (flr g f C).2.2.2 < vts g f (cV g f C)
      · rw [flr_gt h1]; exact ⟨Nat.le_refl _, Nat.le_of_lt h1⟩
      · by_cases h2 : vts g f (cV g f C) = (flr g f C).2.2.2
        · rw [flr_eq h2]; exact ⟨Nat.not_lt.mp h1, Nat.le_refl _⟩
        · rw [flr_lt h1 h2]; exact ⟨Nat.not_lt.mp h1, Nat.le_refl _⟩
    by_cases hz : c = C
    · subst hz; exact e.1
    · exact Nat.le_trans (ih (by omega)) e.2
theorem flr_tly {g : Nat → Nat} {f : Nat} : ∀ t, t ≤ 5 → flr g f (nC g f t) = tly g f t := by
  intro t
  induction t with
  | zero => intro _; rfl
  | succ t ih =>
    intro ht
    have e := ih (by omega)
    cases hw : nw g f t with
    | true =>
      have hk := nw_1 hw
      have hv : cV g f (nC g f t) = vN g t f := by unfold cV; rw [show ix g f (nC g f t) = t from ix_of hw (by omega)]
      have ha : anB (told g f t) t = false := by
        unfold nw at hw
        simp only [Bool.and_eq_true, Bool.not_eq_true'] at hw
        exact hw.2
      rw [nC_t hw]
      unfold flr tly
      rw [hv, e, if_pos hk]
      by_cases h1 : (tly g f t).2.2.2 < vts g f (vN g t f)
      · rw [if_pos h1, if_pos h1]
      · rw [if_neg h1, if_neg h1]
        by_cases h2 : vts g f (vN g t f) = (tly g f t).2.2.2
        · rw [if_pos h2, if_pos ⟨h2, ha⟩]
        · rw [if_neg h2, if_neg (fun w => h2 w.1)]
    | false =>
      rw [nC_f hw, e]
      by_cases hk : kind g t f = 1
      · have ha : anB (told g f t) t = true := by
          unfold nw at hw
          rw [decide_eq_true hk, Bool.true_and] at hw
          cases hz : anB (told g f t) t with
          | true => rfl
          | false => rw [hz] at hw; cases hw
        obtain ⟨u, h1, h2⟩ := anB_iff.mp ha
        unfold told at h2
        simp only [Bool.and_eq_true, decide_eq_true_eq] at h2
        obtain ⟨w, h3, h4, h5⟩ := nw_ex t ⟨u, h1, h2.1, h2.2⟩
        have hm := flr_max (g := g) (f := f) (nC_lt h3 h4)
        have hv : cV g f (nC g f w) = vN g t f := by unfold cV; rw [show ix g f (nC g f w) = w from ix_of h4 (by omega)]; exact h5
        rw [hv, e] at hm
        exact (tly_lt hk hm (fun z => by rw [ha] at z; cases z.2)).symm
      · exact (tly_n hk).symm
def LTc (X Y : gX) (q : Nat × Nat × Nat × Nat) : Prop := (∀ i, i ≠ 39 → Y i = X i) ∧ (Y 39 0 = X 39 0 ∧ Y 39 5 = X 39 5) ∧ Y 39 1 = nI q.1 ∧ Y 39 2 = loI q ∧ Y 39 3 = hiI q ∧ Y 39 4 = nI q.2.2.2
theorem flr_b {g : Nat → Nat} (hI : Inv g) {f c : Nat} (hf : f < 10) (hc : c < nC g f 5) : ((flr g f c).1 ≤ 5 ∧ (flr g f c).2.1 < 1000 ∧ (flr g f c).2.2.1 < 1000 ∧ (flr g f c).2.2.2 ≤ 45 ∧ ((flr g f c).1 = 0 → (flr g f c).2.2.2 = 0)) ∧ (cV g f c < 1000 ∧ 1 ≤ vts g f (cV g f c)) := by
  obtain ⟨h1, h2, h3⟩ := ix_p (Nat.le_refl 5) hc
  have e := flr_tly (g := g) (f := f) (ix g f c) (by omega)
  rw [h3] at e
  have hb := tly_b hI hf (ix g f c) (by omega)
  rw [← e] at hb
  exact ⟨⟨by omega, hb.2⟩, vN_lt hI h1 hf (nw_1 h2), vts_pos hI h1 (nw_1 h2)⟩

theorem fl_gt {X X1 : gX} {g : Nat → Nat} {f k : Nat} (h : LTc X X1 (flr g f k)) (h1 : (flr g f k).2.2.2 < vts g f (cV g f k)) : LTc X (gu (gu (gu (gu X1 39 4 (nI (vts g f (cV g f k)))) 39 1 (nI 1)) 39 2 (nI (cV g f k))) 39 3 (nI (cV g f k))) (flr g f (k + 1)) := by
  rw [flr_gt h1]
  refine ⟨fun i hi => by rw [gu_ne i hi, gu_ne i hi, gu_ne i hi, gu_ne i hi]; exact h.1 i hi, ⟨by rw [gu_id (by decide), gu_id (by decide), gu_id (by decide), gu_id (by decide)]; exact h.2.1.1, by rw [gu_id (by decide), gu_id (by decide), gu_id (by decide), gu_id (by decide)]; exact h.2.1.2⟩, ?_, ?_, ?_, ?_⟩
  · rw [gu_id (by decide), gu_id (by decide), gu_at]
  · rw [gu_id (by decide), gu_at]; rfl
  · rw [gu_at]; rfl
  · rw [gu_id (by decide), gu_id (by decide), gu_id (by decide), gu_at]
theorem fl_eq {X X1 : gX} {g : Nat → Nat} {f k : Nat} (h : LTc X X1 (flr g f k)) (h1 : vts g f (cV g f k) = (flr g f k).2.2.2) : LTc X (gu (gu (gu X1 39 1 (nI ((flr g f k).1 + 1))) 39 2 (nI (min (flr g f k).2.1 (cV g f k)))) 39 3 (nI (max (flr g f k).2.2.1 (cV g f k)))) (flr g f (k + 1)) := by
  rw [flr_eq h1]
  refine ⟨fun i hi => by rw [gu_ne i hi, gu_ne i hi, gu_ne i hi]; exact h.1 i hi, ⟨by rw [gu_id (by decide), gu_id (by decide), gu_id (by decide)]; exact h.2.1.1, by rw [gu_id (by decide), gu_id (by decide), gu_id (by decide)]; exact h.2.1.2⟩, ?_, ?_, ?_, ?_⟩
  · rw [gu_id (by decide), gu_id (by decide), gu_at]
  · rw [gu_id (by decide), gu_at, Nat.min_comm]; rfl
  · rw [gu_at, Nat.max_comm]; rfl
  · rw [gu_id (by decide), gu_id (by decide), gu_id (by decide)]; exact h.2.2.2.2.2

set_option maxHeartbeats 4000000 in
set_option maxRecDepth 100000 in
theorem c_findLeaders {l : Launch} {ad : Nat → Nat} {X : gX} {g : Nat → Nat} {f : Nat} (hI : Inv g) (hf : f < 10) (hT : TA X (nC g f 5) (cV g f) (cW g f 5)) : K_X5_findLeaders l ad [.ref 39] X (fun X' => LTc X X' (tly g f 5)) := by
  refine Ct.of [.ref 39, .null, .null] 2 (by decide +kernel) rfl (Nat.le_of_ble_eq_true rfl) (fun F hl hC hRt _ => ?_)
  subst hl
  have hC5 := nC_le g f 5
  refine g_aload_0 hC dX5_findLeaders_0 (pc' := 1) rfl ?_
  refine g_iconst hC dX5_findLeaders_1 (pc' := 2) kc_iconst_0 rfl ?_
  refine g_putI hC fl_X5_44 (sh_tally ad) rfl rfl rfl dX5_findLeaders_2 (pc' := 5) rfl ?_
  refine g_aload_0 hC dX5_findLeaders_5 (pc' := 6) rfl ?_
  refine g_bipush hC dX5_findLeaders_6 (pc' := 8) kc_bipush_m6 rfl ?_
  refine g_putI hC fl_X5_47 (sh_tally ad) rfl rfl rfl dX5_findLeaders_8 (pc' := 11) rfl ?_
  refine g_aload_0 hC dX5_findLeaders_11 (pc' := 12) rfl ?_
  refine g_bipush hC dX5_findLeaders_12 (pc' := 14) kc_bipush_m6 rfl ?_
  refine g_putI hC fl_X5_50 (sh_tally ad) rfl rfl rfl dX5_findLeaders_14 (pc' := 17) rfl ?_
  refine g_aload_0 hC dX5_findLeaders_17 (pc' := 18) rfl ?_
  refine g_iconst hC dX5_findLeaders_18 (pc' := 19) kc_iconst_0 rfl ?_
  refine g_putI hC fl_X5_53 (sh_tally ad) rfl rfl rfl dX5_findLeaders_19 (pc' := 22) rfl ?_
  refine g_iconst hC dX5_findLeaders_22 (pc' := 23) kc_iconst_0 rfl ?_
  refine g_istore_1 hC dX5_findLeaders_23 (pc' := 24) rfl (Nat.le_of_ble_eq_true rfl) rfl ?_
  have L24 : ∀ k, k ≤ nC g f 5 → ∀ X1 : gX, LTc X X1 (flr g f k) → G F (S0 ad) (0, 0) X1 24 [.ref 39, .int (nI k), .null] [] := by
    refine up_ind _ (fun k hk24 ih24 => ?_)
    intro X1 hm24
    refine g_iload_1 hC dX5_findLeaders_24 (pc' := 25) rfl ?_
    refine g_aload_0 hC dX5_findLeaders_25 (pc' := 26) rfl ?_
    refine g_getI hC fl_X5_22 (sh_tally ad) rfl (hm24.2.1.2.trans hT.1) dX5_findLeaders_26 (pc' := 29) rfl ?_
    refine g_icmpN_ge hC dX5_findLeaders_29 (pc' := 32) (tgt := 133) (by decide) rfl (by omega) (by omega) (fun h29 => ?_) (fun h29 => ?_)
    · refine g_vretV hC hRt dX5_findLeaders_133 ?_
      rw [show k = nC g f 5 by omega, flr_tly 5 (Nat.le_refl _)] at hm24
      exact hm24
    · obtain ⟨⟨b1, b2, b3, b4, b5⟩, b6, b7⟩ := flr_b hI hf (show k < nC g f 5 by omega)
      have bv := vts_le g f (cV g f k)
      have hk1 : X1 40 k = nI (cV g f k) := (congrFun (hm24.1 40 (by decide)) k).trans (hT.2 k (by omega)).1
      have hk2 : X1 41 k = nI (vts g f (cV g f k)) := (congrFun (hm24.1 41 (by decide)) k).trans (hT.2 k (by omega)).2
      refine g_aload_0 hC dX5_findLeaders_32 (pc' := 33) rfl ?_
      refine g_getR hC fl_X5_9 (sh_tally ad) rfl dX5_findLeaders_33 (pc' := 36) rfl ?_
      refine g_iload_1 hC dX5_findLeaders_36 (pc' := 37) rfl ?_
      refine g_iald hC (sh_tvals ad) (Nat.le_of_ble_eq_true rfl) (by omega) (hk1) dX5_findLeaders_37 (pc' := 38) rfl ?_
      refine g_istore_2 hC dX5_findLeaders_38 (pc' := 39) rfl (Nat.le_of_ble_eq_true rfl) rfl ?_
      refine g_aload_0 hC dX5_findLeaders_39 (pc' := 40) rfl ?_
      refine g_getR hC fl_X5_15 (sh_tally ad) rfl dX5_findLeaders_40 (pc' := 43) rfl ?_
      refine g_iload_1 hC dX5_findLeaders_43 (pc' := 44) rfl ?_
      refine g_iald hC (sh_tvotes ad) (Nat.le_of_ble_eq_true rfl) (by omega) (hk2) dX5_findLeaders_44 (pc' := 45) rfl ?_
      refine g_aload_0 hC dX5_findLeaders_45 (pc' := 46) rfl ?_
      refine g_getI hC fl_X5_53 (sh_tally ad) rfl (hm24.2.2.2.2.2) dX5_findLeaders_46 (pc' := 49) rfl ?_
      refine g_icmpN_le hC dX5_findLeaders_49 (pc' := 52) (tgt := 80) (by decide) rfl (by omega) (by omega) (fun h49 => ?_) (fun h49 => ?_)
      · refine g_aload_0 hC dX5_findLeaders_80 (pc' := 81) rfl ?_
        refine g_getR hC fl_X5_15 (sh_tally ad) rfl dX5_findLeaders_81 (pc' := 84) rfl ?_
        refine g_iload_1 hC dX5_findLeaders_84 (pc' := 85) rfl ?_
        refine g_iald hC (sh_tvotes ad) (Nat.le_of_ble_eq_true rfl) (by omega) (hk2) dX5_findLeaders_85 (pc' := 86) rfl ?_
        refine g_aload_0 hC dX5_findLeaders_86 (pc' := 87) rfl ?_
        refine g_getI hC fl_X5_53 (sh_tally ad) rfl (hm24.2.2.2.2.2) dX5_findLeaders_87 (pc' := 90) rfl ?_
        refine g_icmpN_ne hC dX5_findLeaders_90 (pc' := 93) (tgt := 127) (by decide) rfl (by omega) (by omega) (fun h90 => ?_) (fun h90 => ?_)
        · refine g_iinc_1 hC dX5_findLeaders_127 (pc' := 130) rfl (Nat.le_of_ble_eq_true rfl) rfl (nI_inc _ _ kc_iinc_1) ?_
          refine g_goto hC dX5_findLeaders_130 (tgt := 24) (by decide) ?_
          exact g_weak (ih24 (by omega) _ (by first  | exact fl_gt hm24 (show (flr g f k).2.2.2 < vts g f (cV g f k) by omega)  | exact fl_eq hm24 (show vts g f (cV g f k) = (flr g f k).2.2.2 by omega)  | (rw [flr_lt (by omega) (by omega)]; exact hm24))) (gle_s (gle_i (by first | rfl | omega) (gle_u gle_nil)))
        · have hne : ¬ (flr g f k).1 = 0 := by omega
          have hlo : loI (flr g f k) = nI (flr g f k).2.1 := by unfold loI; rw [if_neg hne]
          have hhi : hiI (flr g f k) = nI (flr g f k).2.2.1 := by unfold hiI; rw [if_neg hne]
          refine g_aload_0 hC dX5_findLeaders_93 (pc' := 94) rfl ?_
          refine g_dup hC dX5_findLeaders_94 (pc' := 95) rfl rfl ?_
          refine g_getI hC fl_X5_44 (sh_tally ad) rfl (hm24.2.2.1) dX5_findLeaders_95 (pc' := 98) rfl ?_
          refine g_iconst hC dX5_findLeaders_98 (pc' := 99) kc_iconst_1 rfl ?_
          refine g_iaddN hC dX5_findLeaders_99 (pc' := 100) rfl ?_
          refine g_putI hC fl_X5_44 (sh_tally ad) rfl rfl rfl dX5_findLeaders_100 (pc' := 103) rfl ?_
          refine g_aload_0 hC dX5_findLeaders_103 (pc' := 104) rfl ?_
          refine g_aload_0 hC dX5_findLeaders_104 (pc' := 105) rfl ?_
          refine g_getI hC fl_X5_47 (sh_tally ad) rfl ((gu_id (by decide)).trans (hm24.2.2.2.1.trans hlo)) dX5_findLeaders_105 (pc' := 108) rfl ?_
          refine g_iload_2 hC dX5_findLeaders_108 (pc' := 109) rfl ?_
          refine g_mminN hC ml_X5_56 ⟨(Nat.le_of_ble_eq_true rfl), (Nat.le_of_ble_eq_true rfl)⟩ ⟨Nat.zero_le _, Nat.zero_le _⟩ dX5_findLeaders_109 (pc' := 112) rfl (by omega) (by omega) ?_
          refine g_putI hC fl_X5_47 (sh_tally ad) rfl rfl rfl dX5_findLeaders_112 (pc' := 115) rfl ?_
          refine g_aload_0 hC dX5_findLeaders_115 (pc' := 116) rfl ?_
          refine g_aload_0 hC dX5_findLeaders_116 (pc' := 117) rfl ?_
          refine g_getI hC fl_X5_50 (sh_tally ad) rfl ((gu_id (by decide)).trans ((gu_id (by decide)).trans (hm24.2.2.2.2.1.trans hhi))) dX5_findLeaders_117 (pc' := 120) rfl ?_
          refine g_iload_2 hC dX5_findLeaders_120 (pc' := 121) rfl ?_
          refine g_mmaxN hC ml_X5_61 ⟨(Nat.le_of_ble_eq_true rfl), (Nat.le_of_ble_eq_true rfl)⟩ ⟨Nat.zero_le _, Nat.zero_le _⟩ dX5_findLeaders_121 (pc' := 124) rfl (by omega) (by omega) ?_
          refine g_putI hC fl_X5_50 (sh_tally ad) rfl rfl rfl dX5_findLeaders_124 (pc' := 127) rfl ?_
          refine g_iinc_1 hC dX5_findLeaders_127 (pc' := 130) rfl (Nat.le_of_ble_eq_true rfl) rfl (nI_inc _ _ kc_iinc_1) ?_
          refine g_goto hC dX5_findLeaders_130 (tgt := 24) (by decide) ?_
          exact g_weak (ih24 (by omega) _ (by first  | exact fl_gt hm24 (show (flr g f k).2.2.2 < vts g f (cV g f k) by omega)  | exact fl_eq hm24 (show vts g f (cV g f k) = (flr g f k).2.2.2 by omega)  | (rw [flr_lt (by omega) (by omega)]; exact hm24))) (gle_s (gle_i (by first | rfl | omega) (gle_u gle_nil)))
      · refine g_aload_0 hC dX5_findLeaders_52 (pc' := 53) rfl ?_
        refine g_aload_0 hC dX5_findLeaders_53 (pc' := 54) rfl ?_
        refine g_getR hC fl_X5_15 (sh_tally ad) rfl dX5_findLeaders_54 (pc' := 57) rfl ?_
        refine g_iload_1 hC dX5_findLeaders_57 (pc' := 58) rfl ?_
        refine g_iald hC (sh_tvotes ad) (Nat.le_of_ble_eq_true rfl) (by omega) (hk2) dX5_findLeaders_58 (pc' := 59) rfl ?_
        refine g_putI hC fl_X5_53 (sh_tally ad) rfl rfl rfl dX5_findLeaders_59 (pc' := 62) rfl ?_
        refine g_aload_0 hC dX5_findLeaders_62 (pc' := 63) rfl ?_
        refine g_iconst hC dX5_findLeaders_63 (pc' := 64) kc_iconst_1 rfl ?_
        refine g_putI hC fl_X5_44 (sh_tally ad) rfl rfl rfl dX5_findLeaders_64 (pc' := 67) rfl ?_
        refine g_aload_0 hC dX5_findLeaders_67 (pc' := 68) rfl ?_
        refine g_iload_2 hC dX5_findLeaders_68 (pc' := 69) rfl ?_
        refine g_putI hC fl_X5_47 (sh_tally ad) rfl rfl rfl dX5_findLeaders_69 (pc' := 72) rfl ?_
        refine g_aload_0 hC dX5_findLeaders_72 (pc' := 73) rfl ?_
        refine g_iload_2 hC dX5_findLeaders_73 (pc' := 74) rfl ?_
        refine g_putI hC fl_X5_50 (sh_tally ad) rfl rfl rfl dX5_findLeaders_74 (pc' := 77) rfl ?_
        refine g_goto hC dX5_findLeaders_77 (tgt := 127) (by decide) ?_
        refine g_iinc_1 hC dX5_findLeaders_127 (pc' := 130) rfl (Nat.le_of_ble_eq_true rfl) rfl (nI_inc _ _ kc_iinc_1) ?_
        refine g_goto hC dX5_findLeaders_130 (tgt := 24) (by decide) ?_
        exact g_weak (ih24 (by omega) _ (by first  | exact fl_gt hm24 (show (flr g f k).2.2.2 < vts g f (cV g f k) by omega)  | exact fl_eq hm24 (show vts g f (cV g f k) = (flr g f k).2.2.2 by omega)  | (rw [flr_lt (by omega) (by omega)]; exact hm24))) (gle_s (gle_i (by first | rfl | omega) (gle_u gle_nil)))
  exact g_weak (L24 0 (by exact Nat.zero_le _) _ (by exact ⟨fun i hi => by rw [gu_ne i hi, gu_ne i hi, gu_ne i hi, gu_ne i hi], ⟨by rw [gu_id (by decide), gu_id (by decide), gu_id (by decide), gu_id (by decide)], by rw [gu_id (by decide), gu_id (by decide), gu_id (by decide), gu_id (by decide)]⟩, by rw [gu_id (by decide), gu_id (by decide), gu_id (by decide), gu_at]; rfl, by rw [gu_id (by decide), gu_id (by decide), gu_at]; rfl, by rw [gu_id (by decide), gu_at]; rfl, gu_at⟩)) (gle_s (gle_s (gle_u gle_nil)))

/-- takeIn before sheet t -/
def TI (g : Nat → Nat) (f : Nat) (X : gX) (t : Nat) (Y : gX) : Prop := (∀ i, i ≠ 39 → i ≠ 40 → i ≠ 41 → Y i = X i) ∧ TA Y (nC g f t) (cV g f) (cW g f t) ∧ Y 39 0 = nI (msk (clrB g f) t)
theorem TI_n {g : Nat → Nat} {f t : Nat} {X Y : gX} (h : TI g f X t Y) (hk : ¬ kind g t f = 1) : TI g f X (t + 1) Y := by
  have hw : nw g f t = false := by unfold nw; rw [decide_eq_false hk]; rfl
  refine ⟨h.1, h.2.1.congr (nC_f hw).symm (fun _ _ => rfl) (fun c _ => ?_), ?_⟩
  · rw [cW_s, vot_n (fun z => hk z.1)]; rfl
  · rw [h.2.2, msk_f (decide_eq_false hk)]
theorem TI_y {g : Nat → Nat} {f t : Nat} {X Y Z : gX} (ht : t < 5) (h : TI g f X t Y) (hk : kind g t f = 1) (hz : fT (gu Y 39 0 (nI (msk (clrB g f) t ||| 2 ^ t))) Z)
    (hc : (∃ c, c < nC g f t ∧ cV g f c = vN g t f ∧ TA Z (nC g f t) (cV g f) (updN (cW g f t) c (cW g f t c + pN g t f))) ∨ ((∀ c, c < nC g f t → cV g f c ≠ vN g t f) ∧ (nC g f t < 5 → TA Z (nC g f t + 1) (updN (cV g f) (nC g f t) (vN g t f)) (updN (cW g f t) (nC g f t) (pN g t f))))) : TI g f X (t + 1) Z := by
  refine ⟨fun i h0 h1 h2 => ((hz.1 i h0 h1 h2).trans (gu_ne i h0)).trans (h.1 i h0 h1 h2), ?_, ?_⟩
  · rcases hc with ⟨c, hc, hv, hT⟩ | ⟨hn, hT⟩
    · have hw : nw g f t = false := by
        cases hw : nw g f t with
        | false => rfl
        | true =>
          obtain ⟨c1, c2, c3⟩ := ix_p (by omega) hc
          exact absurd hv (nw_2 hw c1 (nw_1 c2))
      refine hT.congr (nC_f hw).symm (fun _ _ => rfl) (fun d hd => ?_)
      rw [cW_s]
      unfold updN
      by_cases hz : d = c
      · subst hz; rw [if_pos rfl, vot_y hk hv.symm]
      · rw [if_neg hz, vot_n (fun z => hz (cV_ne (by omega) hd hc (z.2.symm.trans hv.symm)))]
        rfl
    · have hw : nw g f t = true := by
        unfold nw
        rw [decide_eq_true hk]
        cases ha : anB (told g f t) t with
        | false => rfl
        | true =>
          obtain ⟨u, h1, h2⟩ := anB_iff.mp ha
          unfold told at h2
          simp only [Bool.and_eq_true, decide_eq_true_eq] at h2
          obtain ⟨w, h3, h4, h5⟩ := nw_ex t ⟨u, h1, h2.1, h2.2⟩
          have hv : cV g f (nC g f w) = vN g t f := by unfold cV; rw [show ix g f (nC g f w) = w from ix_of h4 (by omega)]; exact h5
          exact absurd hv (hn _ (nC_lt h3 h4))
      have hv : cV g f (nC g f t) = vN g t f := by unfold cV; rw [show ix g f (nC g f t) = t from ix_of hw (by omega)]
      refine (hT (by have := nC_le g f t; omega)).congr (nC_t hw).symm (fun d hd => ?_) (fun d hd => ?_)
      · unfold updN
        by_cases hz : d = nC g f t
        · rw [if_pos hz, hz, hv]
        · rw [if_neg hz]
      · rw [cW_s]
        unfold updN
        by_cases hz : d = nC g f t
        · subst hz
          rw [if_pos rfl, vot_y hk hv.symm]
          have h0 : cW g f t (nC g f t) = 0 := smN_0 (fun u hu => vot_n (fun z => nw_2 hw hu z.1 (z.2.trans hv)))
          omega
        · rw [if_neg hz, vot_n (fun z => hn d (by omega) z.2.symm)]
          rfl
  · rw [hz.2 0 (by decide), gu_at, msk_t (decide_eq_true hk)]

set_option maxHeartbeats 4000000 in
set_option maxRecDepth 100000 in
theorem c_takeIn {l : Launch} {ad : Nat → Nat} {X : gX} {B : Nat} {g : Nat → Nat} {f : Nat} (hB : isB B) (hR : RS X B g) (hI : Inv g) (hf : f < 10) : K_X5_takeIn l ad [.ref 39, .ref B, .int (nI f)] X (fun X' => (∀ i, i ≠ 39 → i ≠ 40 → i ≠ 41 → X' i = X i) ∧ X' 39 0 = nI (msk (clrB g f) 5) ∧ X' 39 1 = nI (tly g f 5).1 ∧ X' 39 2 = loI (tly g f 5) ∧ X' 39 3 = hiI (tly g f 5) ∧ X' 39 4 = nI (tly g f 5).2.2.2) := by
  refine Ct.of [.ref 39, .ref B, .int (nI f), .null] 1 (by decide +kernel) rfl (Nat.le_of_ble_eq_true rfl) (fun F hl hC hRt _ => ?_)
  subst hl
  have hfar39 := isB_far hB 39 (by decide)
  have hfar40 := isB_far hB 40 (by decide)
  have hfar41 := isB_far hB 41 (by decide)
  have hlt := isB_lt hB
  refine g_aload_0 hC dX5_takeIn_0 (pc' := 1) rfl ?_
  refine g_iconst hC dX5_takeIn_1 (pc' := 2) kc_iconst_0 rfl ?_
  refine g_putI hC fl_X5_18 (sh_tally ad) rfl rfl rfl dX5_takeIn_2 (pc' := 5) rfl ?_
  refine g_aload_0 hC dX5_takeIn_5 (pc' := 6) rfl ?_
  refine g_iconst hC dX5_takeIn_6 (pc' := 7) kc_iconst_0 rfl ?_
  refine g_putI hC fl_X5_22 (sh_tally ad) rfl rfl rfl dX5_takeIn_7 (pc' := 10) rfl ?_
  refine g_iconst hC dX5_takeIn_10 (pc' := 11) kc_iconst_0 rfl ?_
  refine g_istore_3 hC dX5_takeIn_11 (pc' := 12) rfl (Nat.le_of_ble_eq_true rfl) rfl ?_
  have L12 : ∀ t, t ≤ 5 → ∀ X1 : gX, TI g f X t X1 → G F (S0 ad) (0, 0) X1 12 [.ref 39, .ref B, .int (nI f), .int (nI t)] [] := by
    refine up_ind _ (fun t hk12 ih12 => ?_)
    intro X1 hm12
    refine g_iload_3 hC dX5_takeIn_12 (pc' := 13) rfl ?_
    refine g_iconst hC dX5_takeIn_13 (pc' := 14) kc_iconst_5 rfl ?_
    refine g_icmpN_ge hC dX5_takeIn_14 (pc' := 17) (tgt := 61) (by decide) rfl (by omega) (by omega) (fun h14 => ?_) (fun h14 => ?_)
    · rw [show t = 5 by omega] at hm12
      refine g_aload_0 hC dX5_takeIn_61 (pc' := 62) rfl ?_
      refine g_callV0V hC (c_findLeaders hI hf hm12.2.1) ml_X5_41 (sh_tally ad) rfl ⟨(Nat.le_of_ble_eq_true rfl), (Nat.le_of_ble_eq_true rfl)⟩ (Nat.le_of_ble_eq_true rfl) dX5_takeIn_62 (pc' := 65) rfl ⟨Nat.zero_le _, Nat.zero_le _⟩ (fun X62 q62 => ?_)
      refine g_vretV hC hRt dX5_takeIn_65 ?_
      exact ⟨fun i h0 h1 h2 => (q62.1 i h0).trans (hm12.1 i h0 h1 h2), q62.2.1.1.trans hm12.2.2, q62.2.2⟩
    · have bk := kind_le g t f
      refine g_aload_1 hC dX5_takeIn_17 (pc' := 18) rfl ?_
      refine g_iload_3 hC dX5_takeIn_18 (pc' := 19) rfl ?_
      refine g_iload_2 hC dX5_takeIn_19 (pc' := 20) rfl ?_
      refine g_callV2R hC (c_tKind hB (hR.of (fun i h1 h2 _ => hm12.1 i (by omega) (by omega) (by omega))) hI (s := t) (by omega) hf) ml_X5_25 (sh_st ad hB) rfl ⟨(Nat.le_of_ble_eq_true rfl), (Nat.le_of_ble_eq_true rfl)⟩ (Nat.le_of_ble_eq_true rfl) dX5_takeIn_20 (pc' := 23) rfl ⟨Nat.zero_le _, Nat.zero_le _⟩ ?_
      refine g_iconst hC dX5_takeIn_23 (pc' := 24) kc_iconst_1 rfl ?_
      refine g_icmpN_ne hC dX5_takeIn_24 (pc' := 27) (tgt := 55) (by decide) rfl (by omega) (by omega) (fun h24 => ?_) (fun h24 => ?_)
      · refine g_iinc_3 hC dX5_takeIn_55 (pc' := 58) rfl (Nat.le_of_ble_eq_true rfl) rfl (nI_inc _ _ kc_iinc_1) ?_
        refine g_goto hC dX5_takeIn_58 (tgt := 12) (by decide) ?_
        exact g_weak (ih12 (by omega) _ (by first | exact TI_y (by omega) hm12 h24 t52 o52 | exact TI_n hm12 h24)) (gle_s (gle_s (gle_s (gle_i (by first | rfl | omega) gle_nil))))
      · refine g_aload_0 hC dX5_takeIn_27 (pc' := 28) rfl ?_
        refine g_dup hC dX5_takeIn_28 (pc' := 29) rfl rfl ?_
        refine g_getI hC fl_X5_18 (sh_tally ad) rfl (hm12.2.2) dX5_takeIn_29 (pc' := 32) rfl ?_
        refine g_iconst hC dX5_takeIn_32 (pc' := 33) kc_iconst_1 rfl ?_
        refine g_iload_3 hC dX5_takeIn_33 (pc' := 34) rfl ?_
        refine g_ishl1 hC dX5_takeIn_34 (pc' := 35) rfl (by omega) ?_
        refine g_iorN hC dX5_takeIn_35 (pc' := 36) rfl ?_
        refine g_putI hC fl_X5_18 (sh_tally ad) rfl rfl rfl dX5_takeIn_36 (pc' := 39) rfl ?_
        have hRg : RS (gu X1 39 0 ((nI ((msk (clrB g f) t) ||| (2 ^ t))))) B g := hR.of (fun i h1 h2 _ => (gu_ne i (by omega)).trans (hm12.1 i (by omega) (by omega) (by omega)))
        have hTg : TA (gu X1 39 0 ((nI ((msk (clrB g f) t) ||| (2 ^ t))))) (nC g f t) (cV g f) (cW g f t) := ⟨(gu_id (by decide)).trans hm12.2.1.1, fun c hc => by rw [gu_ne 40 (by decide), gu_ne 41 (by decide)]; exact hm12.2.1.2 c hc⟩
        refine g_aload_0 hC dX5_takeIn_39 (pc' := 40) rfl ?_
        refine g_aload_1 hC dX5_takeIn_40 (pc' := 41) rfl ?_
        refine g_iload_3 hC dX5_takeIn_41 (pc' := 42) rfl ?_
        refine g_iload_2 hC dX5_takeIn_42 (pc' := 43) rfl ?_
        refine g_callV2R hC (c_tValueN hB hRg hI (s := t) (by omega) hf h24) ml_X5_31 (sh_st ad hB) rfl ⟨(Nat.le_of_ble_eq_true rfl), (Nat.le_of_ble_eq_true rfl)⟩ (Nat.le_of_ble_eq_true rfl) dX5_takeIn_43 (pc' := 46) rfl ⟨Nat.zero_le _, Nat.zero_le _⟩ ?_
        refine g_aload_1 hC dX5_takeIn_46 (pc' := 47) rfl ?_
        refine g_iload_3 hC dX5_takeIn_47 (pc' := 48) rfl ?_
        refine g_iload_2 hC dX5_takeIn_48 (pc' := 49) rfl ?_
        refine g_callV2R hC (c_tStrengthN hB hRg hI (s := t) (by omega) hf h24) ml_X5_34 (sh_st ad hB) rfl ⟨(Nat.le_of_ble_eq_true rfl), (Nat.le_of_ble_eq_true rfl)⟩ (Nat.le_of_ble_eq_true rfl) dX5_takeIn_49 (pc' := 52) rfl ⟨Nat.zero_le _, Nat.zero_le _⟩ ?_
        refine g_callV2V hC (c_addVotes (C := nC g f t) (V := cV g f) (W := cW g f t) hTg (by have := nC_le g f t; omega) (vN_lt hI (by omega) hf h24) (by have := pN_lt g t f; omega) (fun c hc => by have z := ix_p (by omega) hc; exact vN_lt hI (by omega) hf (nw_1 z.2.1)) (fun c _ => cW_le g f t c (by omega))) ml_X5_37 (sh_tally ad) rfl ⟨(Nat.le_of_ble_eq_true rfl), (Nat.le_of_ble_eq_true rfl)⟩ (Nat.le_of_ble_eq_true rfl) dX5_takeIn_52 (pc' := 55) rfl ⟨Nat.zero_le _, Nat.zero_le _⟩ (fun X52 q52 => ?_)
        obtain ⟨t52, o52⟩ := q52
        refine g_iinc_3 hC dX5_takeIn_55 (pc' := 58) rfl (Nat.le_of_ble_eq_true rfl) rfl (nI_inc _ _ kc_iinc_1) ?_
        refine g_goto hC dX5_takeIn_58 (tgt := 12) (by decide) ?_
        exact g_weak (ih12 (by omega) _ (by first | exact TI_y (by omega) hm12 h24 t52 o52 | exact TI_n hm12 h24)) (gle_s (gle_s (gle_s (gle_i (by first | rfl | omega) gle_nil))))
  exact g_weak (L12 0 (by exact Nat.zero_le _) _ (by exact ⟨fun i h0 _ _ => (gu_ne i h0).trans (gu_ne i h0), ⟨gu_at, fun c hc => absurd hc (Nat.not_lt_zero c)⟩, (gu_id (by decide)).trans gu_at⟩)) (gle_s (gle_s (gle_s (gle_s gle_nil))))
