def vN (g : Nat → Nat) (s f : Nat) : Nat := own g s f / 20
def pN (g : Nat → Nat) (s f : Nat) : Nat := own g s f / 2 % 10
theorem kind_1 {g : Nat → Nat} {s f : Nat} (h : kind g s f = 1) : ¬ last g s f = 0 := fun z => by unfold kind at h; rw [if_pos z] at h; cases h
theorem valI_1 {g : Nat → Nat} {s f : Nat} (h : kind g s f = 1) : valI g s f = nI (vN g s f) := by unfold valI; rw [if_neg (kind_1 h)]; rfl
theorem strI_1 {g : Nat → Nat} {s f : Nat} (h : kind g s f = 1) : strI g s f = nI (pN g s f) := by unfold strI; rw [if_neg (kind_1 h)]; rfl
theorem own_lt {g : Nat → Nat} (hI : Inv g) {s f : Nat} (hs : s < 5) (hf : f < 10) (h : ¬ last g s f = 0) : own g s f < 20000 := hI.m hs hf (by have := last_le g s f; have := hI.c hs hf; omega)
theorem vN_lt {g : Nat → Nat} (hI : Inv g) {s f : Nat} (hs : s < 5) (hf : f < 10) (h : kind g s f = 1) : vN g s f < 1000 := by have := own_lt hI hs hf (kind_1 h); unfold vN; omega
theorem pN_lt (g : Nat → Nat) (s f : Nat) : pN g s f < 10 := Nat.mod_lt _ (by decide)
theorem pN_pos {g : Nat → Nat} (hI : Inv g) {s f : Nat} (h : kind g s f = 1) : 1 ≤ pN g s f := by
  have h1 := upto_P (kind_1 h)
  unfold rd rdb at h1
  simp only [Bool.and_eq_true, decide_eq_true_eq] at h1
  have := hI.1.1.1
  exact Nat.le_trans this h1.2
def vot (g : Nat → Nat) (f v t : Nat) : Nat := if kind g t f = 1 ∧ vN g t f = v then pN g t f else 0
def vts (g : Nat → Nat) (f v : Nat) : Nat := smN (vot g f v) 5
theorem vot_le (g : Nat → Nat) (f v t : Nat) : vot g f v t ≤ 9 := by have := pN_lt g t f; unfold vot; split <;> omega
theorem vts_le (g : Nat → Nat) (f v : Nat) : vts g f v ≤ 45 := smN_le (vot_le g f v) 5
def told (g : Nat → Nat) (f t u : Nat) : Bool := decide (kind g u f = 1) && decide (vN g u f = vN g t f)
def clrB (g : Nat → Nat) (f t : Nat) : Bool := decide (kind g t f = 1)
/-- leaders, lowest, highest, most votes among the first t sheets -/
def tly (g : Nat → Nat) (f : Nat) : Nat → Nat × Nat × Nat × Nat
  | 0 => (0, 0, 0, 0)
  | t + 1 => if kind g t f = 1 then (if (tly g f t).2.2.2 < vts g f (vN g t f) then (1, vN g t f, vN g t f, vts g f (vN g t f)) else if vts g f (vN g t f) = (tly g f t).2.2.2 ∧ anB (told g f t) t = false then ((tly g f t).1 + 1, min (vN g t f) (tly g f t).2.1, max (vN g t f) (tly g f t).2.2.1, (tly g f t).2.2.2) else tly g f t) else tly g f t
def loI (q : Nat × Nat × Nat × Nat) : Int32 := if q.1 = 0 then -6 else nI q.2.1
def hiI (q : Nat × Nat × Nat × Nat) : Int32 := if q.1 = 0 then -6 else nI q.2.2.1
theorem smN_ge {f : Nat → Nat} : ∀ {n k : Nat}, k < n → f k ≤ smN f n := by
  intro n
  induction n with
  | zero => intro k h; omega
  | succ n ih =>
    intro k h
    unfold smN
    by_cases hk : k = n
    · subst hk; omega
    · have := ih (k := k) (by omega); omega
theorem vts_pos {g : Nat → Nat} (hI : Inv g) {f t : Nat} (ht : t < 5) (h : kind g t f = 1) : 1 ≤ vts g f (vN g t f) := by
  have h1 : vot g f (vN g t f) t ≤ vts g f (vN g t f) := smN_ge ht
  have h2 : vot g f (vN g t f) t = pN g t f := by unfold vot; rw [if_pos ⟨h, rfl⟩]
  have := pN_pos hI h
  omega
theorem tly_b {g : Nat → Nat} (hI : Inv g) {f : Nat} (hf : f < 10) : ∀ t, t ≤ 5 → (tly g f t).1 ≤ t ∧ (tly g f t).2.1 < 1000 ∧ (tly g f t).2.2.1 < 1000 ∧ (tly g f t).2.2.2 ≤ 45 ∧ ((tly g f t).1 = 0 → (tly g f t).2.2.2 = 0) := by
  intro t
  induction t with
  | zero => intro _; exact ⟨Nat.le_refl _, show 0 < 1000 by decide, show 0 < 1000 by decide, show 0 ≤ 45 by decide, fun _ => rfl⟩
  | succ t ih =>
    intro ht
    obtain ⟨h1, h2, h3, h4, h5⟩ := ih (by omega)
    unfold tly
    split
    · rename_i hk
      have hv := vN_lt hI (show t < 5 by omega) hf hk
      have hw := vts_le g f (vN g t f)
      split
      · exact ⟨by show 1 ≤ t + 1; omega, hv, hv, hw, fun z => absurd z Nat.one_ne_zero⟩
      · split
        · refine ⟨?_, ?_, ?_, h4, fun z => ?_⟩
          · show (tly g f t).1 + 1 ≤ t + 1; omega
          · show min _ _ < 1000; omega
          · show max _ _ < 1000; omega
          · exact absurd z (Nat.succ_ne_zero _)
        · exact ⟨by omega, h2, h3, h4, h5⟩
    · exact ⟨by omega, h2, h3, h4, h5⟩
theorem tly_n {g : Nat → Nat} {f t : Nat} (h : ¬ kind g t f = 1) : tly g f (t + 1) = tly g f t := by
  show (if kind g t f = 1 then _ else _) = _
  rw [if_neg h]
theorem tly_gt {g : Nat → Nat} {f t : Nat} (h : kind g t f = 1) (h2 : (tly g f t).2.2.2 < vts g f (vN g t f)) : tly g f (t + 1) = (1, vN g t f, vN g t f, vts g f (vN g t f)) := by
  show (if kind g t f = 1 then _ else _) = _
  rw [if_pos h, if_pos h2]
theorem tly_eq {g : Nat → Nat} {f t : Nat} (h : kind g t f = 1) (h2 : vts g f (vN g t f) = (tly g f t).2.2.2) (h3 : anB (told g f t) t = false) : tly g f (t + 1) = ((tly g f t).1 + 1, min (vN g t f) (tly g f t).2.1, max (vN g t f) (tly g f t).2.2.1, (tly g f t).2.2.2) := by
  show (if kind g t f = 1 then _ else _) = _
  rw [if_pos h, if_neg (by omega), if_pos ⟨h2, h3⟩]
theorem tly_lt {g : Nat → Nat} {f t : Nat} (h : kind g t f = 1) (h2 : vts g f (vN g t f) ≤ (tly g f t).2.2.2) (h3 : ¬ (vts g f (vN g t f) = (tly g f t).2.2.2 ∧ anB (told g f t) t = false)) : tly g f (t + 1) = tly g f t := by
  show (if kind g t f = 1 then _ else _) = _
  rw [if_pos h, if_neg (by omega), if_neg h3]
theorem msk_bit {P : Nat → Bool} : ∀ {n u : Nat}, u < n → (msk P n / 2 ^ u % 2 = 1 ↔ P u = true) := by
  intro n
  induction n with
  | zero => intro u h; omega
  | succ n ih =>
    intro u h
    have hb : ∀ x : Nat, (x / 2 ^ u % 2 = 1 ↔ x.testBit u = true) := fun x => by
      rw [Nat.testBit_eq_decide_div_mod_eq]
      simp
    rw [hb]
    unfold msk
    rw [Nat.testBit_or]
    by_cases hu : u = n
    · subst hu
      rw [Nat.testBit_lt_two_pow (msk_lt P u)]
      cases hp : P u with
      | true => simp [Nat.testBit_two_pow_self]
      | false => simp
    · have := ih (u := u) (by omega)
      rw [hb] at this
      rw [Bool.or_eq_true, this]
      constructor
      · rintro (h1 | h1)
        · exact h1
        · exfalso
          split at h1
          · rw [Nat.testBit_two_pow_of_ne (by omega)] at h1; cases h1
          · simp at h1
      · exact Or.inl
/-- the fields of the model that layTogether leaves -/
def LT (X Y : gX) (q : Nat × Nat × Nat × Nat) (c : Nat) : Prop := (∀ i, i ≠ 201 → Y i = X i) ∧ (∀ j, j < 10 ∨ 14 < j → Y 201 j = X 201 j) ∧ Y 201 10 = nI q.1 ∧ Y 201 11 = loI q ∧ Y 201 12 = hiI q ∧ Y 201 13 = nI q.2.2.2 ∧ Y 201 14 = nI c
theorem LT.r {X Y : gX} {q : Nat × Nat × Nat × Nat} {c : Nat} {g : Nat → Nat} (h : LT X Y q c) (r : RM X g) : RM Y g := r.of (h.1 202 (by decide))

theorem c_lastOf0v {l : Launch} {ad : Nat → Nat} {X : gX} {s f : Nat} {g : Nat → Nat} (hk : kind g s f = 1) (hs : s < 5) (hf : f < 10) (hR : RM X g) (hI : Inv g) : K_X7_lastOf l ad [.ref 201, .int (nI s), .int (nI f), .int (nI 0)] X (pR X (nI (vN g s f))) := by
  have h := c_lastOf0 (l := l) (ad := ad) hs hf hR hI
  rw [valI_1 hk] at h
  exact h
theorem c_lastOf1v {l : Launch} {ad : Nat → Nat} {X : gX} {s f : Nat} {g : Nat → Nat} (hk : kind g s f = 1) (hs : s < 5) (hf : f < 10) (hR : RM X g) (hI : Inv g) : K_X7_lastOf l ad [.ref 201, .int (nI s), .int (nI f), .int (nI 1)] X (pR X (nI (pN g s f))) := by
  have h := c_lastOf1 (l := l) (ad := ad) hs hf hR hI
  rw [strI_1 hk] at h
  exact h
set_option maxHeartbeats 4000000 in
set_option maxRecDepth 100000 in
theorem c_votesFor {l : Launch} {ad : Nat → Nat} {X : gX} {f v : Nat} {g : Nat → Nat} (hf : f < 10) (hv : v < 1000) (hR : RM X g) (hI : Inv g) : K_X7_votesFor l ad [.ref 201, .int (nI f), .int (nI v)] X (pR X (nI (vts g f v))) := by
  refine Ct.of [.ref 201, .int (nI f), .int (nI v), .null, .null] 2 (by decide +kernel) rfl (Nat.le_of_ble_eq_true rfl) (fun F hl hC hRt _ => ?_)
  subst hl
  refine g_iconst hC dX7_votesFor_0 (pc' := 1) kc_iconst_0 rfl ?_
  refine g_istore_3 hC dX7_votesFor_1 (pc' := 2) rfl (Nat.le_of_ble_eq_true rfl) rfl ?_
  refine g_iconst hC dX7_votesFor_2 (pc' := 3) kc_iconst_0 rfl ?_
  refine g_istore_4 hC dX7_votesFor_3 (pc' := 5) rfl (Nat.le_of_ble_eq_true rfl) rfl ?_
  have L5 : ∀ t, t ≤ 5 → G F (S0 ad) (0, 0) X 5 [.ref 201, .int (nI f), .int (nI v), .int (nI (smN (vot g f v) t)), .int (nI t)] [] := by
    refine up_ind _ (fun t hk5 ih5 => ?_)
    refine g_iload_4 hC dX7_votesFor_5 (pc' := 7) rfl ?_
    refine g_iconst hC dX7_votesFor_7 (pc' := 8) kc_iconst_5 rfl ?_
    refine g_icmpN_ge hC dX7_votesFor_8 (pc' := 11) (tgt := 55) (by decide) rfl (by omega) (by omega) (fun h8 => ?_) (fun h8 => ?_)
    · refine g_iload_3 hC dX7_votesFor_55 (pc' := 56) rfl ?_
      refine g_iretR hC hRt rfl dX7_votesFor_56 ?_
      rw [show t = 5 by omega]; rfl
    · refine g_iload_3 hC dX7_votesFor_11 (pc' := 12) rfl ?_
      refine g_aload_0 hC dX7_votesFor_12 (pc' := 13) rfl ?_
      refine g_iload_4 hC dX7_votesFor_13 (pc' := 15) rfl ?_
      refine g_iload_1 hC dX7_votesFor_15 (pc' := 16) rfl ?_
      refine g_callV2R hC (c_stateOf (s := t) (by omega) hf hR hI) ml_X7_114 (sh_M ad) rfl ⟨(Nat.le_of_ble_eq_true rfl), (Nat.le_of_ble_eq_true rfl)⟩ (Nat.le_of_ble_eq_true rfl) dX7_votesFor_16 (pc' := 19) rfl ⟨Nat.zero_le _, Nat.zero_le _⟩ ?_
      have hk2 := kind_le g t f
      refine g_iconst hC dX7_votesFor_19 (pc' := 20) kc_iconst_1 rfl ?_
      refine g_icmpN_ne hC dX7_votesFor_20 (pc' := 23) (tgt := 46) (by decide) rfl (by omega) (by omega) (fun h20 => ?_) (fun h20 => ?_)
      · refine g_iconst hC dX7_votesFor_46 (pc' := 47) kc_iconst_0 rfl ?_
        refine g_iaddN hC dX7_votesFor_47 (pc' := 48) rfl ?_
        refine g_istore_3 hC dX7_votesFor_48 (pc' := 49) rfl (Nat.le_of_ble_eq_true rfl) rfl ?_
        refine g_iinc_4 hC dX7_votesFor_49 (pc' := 52) rfl (Nat.le_of_ble_eq_true rfl) rfl (nI_inc _ _ kc_iinc_1) ?_
        refine g_goto hC dX7_votesFor_52 (tgt := 5) (by decide) ?_
        exact g_weak (ih5 (by omega)) (gle_s (gle_s (gle_s (gle_i (by simp [smN, vot, *]) (gle_i (by first | rfl | omega) gle_nil)))))
      · have hb := vN_lt hI (show t < 5 by omega) hf h20
        refine g_aload_0 hC dX7_votesFor_23 (pc' := 24) rfl ?_
        refine g_iload_4 hC dX7_votesFor_24 (pc' := 26) rfl ?_
        refine g_iload_1 hC dX7_votesFor_26 (pc' := 27) rfl ?_
        refine g_iconst hC dX7_votesFor_27 (pc' := 28) kc_iconst_0 rfl ?_
        refine g_callV3R hC (c_lastOf0v h20 (by omega) hf hR hI) ml_X7_124 (sh_M ad) rfl ⟨(Nat.le_of_ble_eq_true rfl), (Nat.le_of_ble_eq_true rfl)⟩ (Nat.le_of_ble_eq_true rfl) dX7_votesFor_28 (pc' := 31) rfl ⟨Nat.zero_le _, Nat.zero_le _⟩ ?_
        refine g_iload_2 hC dX7_votesFor_31 (pc' := 32) rfl ?_
        refine g_icmpN_ne hC dX7_votesFor_32 (pc' := 35) (tgt := 46) (by decide) rfl (by omega) (by omega) (fun h32 => ?_) (fun h32 => ?_)
        · refine g_iconst hC dX7_votesFor_46 (pc' := 47) kc_iconst_0 rfl ?_
          refine g_iaddN hC dX7_votesFor_47 (pc' := 48) rfl ?_
          refine g_istore_3 hC dX7_votesFor_48 (pc' := 49) rfl (Nat.le_of_ble_eq_true rfl) rfl ?_
          refine g_iinc_4 hC dX7_votesFor_49 (pc' := 52) rfl (Nat.le_of_ble_eq_true rfl) rfl (nI_inc _ _ kc_iinc_1) ?_
          refine g_goto hC dX7_votesFor_52 (tgt := 5) (by decide) ?_
          exact g_weak (ih5 (by omega)) (gle_s (gle_s (gle_s (gle_i (by simp [smN, vot, *]) (gle_i (by first | rfl | omega) gle_nil)))))
        · refine g_aload_0 hC dX7_votesFor_35 (pc' := 36) rfl ?_
          refine g_iload_4 hC dX7_votesFor_36 (pc' := 38) rfl ?_
          refine g_iload_1 hC dX7_votesFor_38 (pc' := 39) rfl ?_
          refine g_iconst hC dX7_votesFor_39 (pc' := 40) kc_iconst_1 rfl ?_
          refine g_callV3R hC (c_lastOf1v h20 (by omega) hf hR hI) ml_X7_124 (sh_M ad) rfl ⟨(Nat.le_of_ble_eq_true rfl), (Nat.le_of_ble_eq_true rfl)⟩ (Nat.le_of_ble_eq_true rfl) dX7_votesFor_40 (pc' := 43) rfl ⟨Nat.zero_le _, Nat.zero_le _⟩ ?_
          refine g_goto hC dX7_votesFor_43 (tgt := 47) (by decide) ?_
          refine g_iaddN hC dX7_votesFor_47 (pc' := 48) rfl ?_
          refine g_istore_3 hC dX7_votesFor_48 (pc' := 49) rfl (Nat.le_of_ble_eq_true rfl) rfl ?_
          refine g_iinc_4 hC dX7_votesFor_49 (pc' := 52) rfl (Nat.le_of_ble_eq_true rfl) rfl (nI_inc _ _ kc_iinc_1) ?_
          refine g_goto hC dX7_votesFor_52 (tgt := 5) (by decide) ?_
          exact g_weak (ih5 (by omega)) (gle_s (gle_s (gle_s (gle_i (by simp [smN, vot, *]) (gle_i (by first | rfl | omega) gle_nil)))))
  exact g_weak (L5 0 (by exact Nat.zero_le _)) (gle_s (gle_s (gle_s (gle_i (by rfl) (gle_s gle_nil)))))

set_option maxHeartbeats 4000000 in
set_option maxRecDepth 100000 in
theorem c_layTogether {l : Launch} {ad : Nat → Nat} {X : gX} {f : Nat} {g : Nat → Nat} (hf : f < 10) (hR : RM X g) (hI : Inv g) : K_X7_layTogether l ad [.ref 201, .int (nI f)] X (fun X' => LT X X' (tly g f 5) (msk (clrB g f) 5)) := by
  refine Ct.of [.ref 201, .int (nI f), .null, .null, .null, .null, .null] 5 (by decide +kernel) rfl (Nat.le_of_ble_eq_true rfl) (fun F hl hC hRt _ => ?_)
  subst hl
  refine g_aload_0 hC dX7_layTogether_0 (pc' := 1) rfl ?_
  refine g_iconst hC dX7_layTogether_1 (pc' := 2) kc_iconst_0 rfl ?_
  refine g_putI hC fl_X7_127 (sh_M ad) rfl rfl rfl dX7_layTogether_2 (pc' := 5) rfl ?_
  refine g_aload_0 hC dX7_layTogether_5 (pc' := 6) rfl ?_
  refine g_bipush hC dX7_layTogether_6 (pc' := 8) kc_bipush_m6 rfl ?_
  refine g_putI hC fl_X7_130 (sh_M ad) rfl rfl rfl dX7_layTogether_8 (pc' := 11) rfl ?_
  refine g_aload_0 hC dX7_layTogether_11 (pc' := 12) rfl ?_
  refine g_bipush hC dX7_layTogether_12 (pc' := 14) kc_bipush_m6 rfl ?_
  refine g_putI hC fl_X7_133 (sh_M ad) rfl rfl rfl dX7_layTogether_14 (pc' := 17) rfl ?_
  refine g_aload_0 hC dX7_layTogether_17 (pc' := 18) rfl ?_
  refine g_iconst hC dX7_layTogether_18 (pc' := 19) kc_iconst_0 rfl ?_
  refine g_putI hC fl_X7_136 (sh_M ad) rfl rfl rfl dX7_layTogether_19 (pc' := 22) rfl ?_
  refine g_aload_0 hC dX7_layTogether_22 (pc' := 23) rfl ?_
  refine g_iconst hC dX7_layTogether_23 (pc' := 24) kc_iconst_0 rfl ?_
  refine g_putI hC fl_X7_139 (sh_M ad) rfl rfl rfl dX7_layTogether_24 (pc' := 27) rfl ?_
  refine g_iconst hC dX7_layTogether_27 (pc' := 28) kc_iconst_0 rfl ?_
  refine g_istore_2 hC dX7_layTogether_28 (pc' := 29) rfl (Nat.le_of_ble_eq_true rfl) rfl ?_
  have L29 : ∀ t, t ≤ 5 → ∀ X1 : gX, LT X X1 (tly g f t) (msk (clrB g f) t) → G F (S0 ad) (0, 0) X1 29 [.ref 201, .int (nI f), .int (nI t), .null, .null, .null, .null] [] := by
    refine up_ind _ (fun t hk29 ih29 => ?_)
    intro X1 hm29
    have hR1 : RM X1 g := hm29.r hR
    have htb := tly_b hI hf t hk29
    refine g_iload_2 hC dX7_layTogether_29 (pc' := 30) rfl ?_
    refine g_iconst hC dX7_layTogether_30 (pc' := 31) kc_iconst_5 rfl ?_
    refine g_icmpN_ge hC dX7_layTogether_31 (pc' := 34) (tgt := 230) (by decide) rfl (by omega) (by omega) (fun h31 => ?_) (fun h31 => ?_)
    · refine g_vretV hC hRt dX7_layTogether_230 ?_
      rw [show t = 5 by omega] at hm29
      exact hm29
    · refine g_aload_0 hC dX7_layTogether_34 (pc' := 35) rfl ?_
      refine g_iload_2 hC dX7_layTogether_35 (pc' := 36) rfl ?_
      refine g_iload_1 hC dX7_layTogether_36 (pc' := 37) rfl ?_
      refine g_callV2R hC (c_stateOf (s := t) (by omega) hf hR1 hI) ml_X7_114 (sh_M ad) rfl ⟨(Nat.le_of_ble_eq_true rfl), (Nat.le_of_ble_eq_true rfl)⟩ (Nat.le_of_ble_eq_true rfl) dX7_layTogether_37 (pc' := 40) rfl ⟨Nat.zero_le _, Nat.zero_le _⟩ ?_
      have hk2 := kind_le g t f
      refine g_iconst hC dX7_layTogether_40 (pc' := 41) kc_iconst_1 rfl ?_
      refine g_icmpN_ne hC dX7_layTogether_41 (pc' := 44) (tgt := 224) (by decide) rfl (by omega) (by omega) (fun h41 => ?_) (fun h41 => ?_)
      · refine g_iinc_2 hC dX7_layTogether_224 (pc' := 227) rfl (Nat.le_of_ble_eq_true rfl) rfl (nI_inc _ _ kc_iinc_1) ?_
        refine g_goto hC dX7_layTogether_227 (tgt := 29) (by decide) ?_
        exact g_weak (ih29 (by omega) _ (by first | (rw [tly_n h41]; exact ⟨hm29.1, hm29.2.1, hm29.2.2.1, hm29.2.2.2.1, hm29.2.2.2.2.1, hm29.2.2.2.2.2.1, by rw [hm29.2.2.2.2.2.2]; simp [msk, clrB, h41]⟩) | (rw [tly_gt h41 h133]; exact ⟨fun i hi => by simp [gu, hi, hm29.1 i hi], fun j hj => by have e := hm29.2.1 j hj; have a0 : j ≠ 10 := (by omega); have a1 : j ≠ 11 := (by omega); have a2 : j ≠ 12 := (by omega); have a3 : j ≠ 13 := (by omega); have a4 : j ≠ 14 := (by omega); simp [gu, upd, a0, a1, a2, a3, a4, e], by simp [gu, upd, hm29.2.2.1], (gu_id (by decide)).trans gu_at, gu_at, by simp [gu, upd, hm29.2.2.2.2.2.1], by simp [gu, upd, msk, clrB, h41]⟩) | (rw [tly_eq h41 h166 h171]; exact ⟨fun i hi => by simp [gu, hi, hm29.1 i hi], fun j hj => by have e := hm29.2.1 j hj; have a0 : j ≠ 10 := (by omega); have a1 : j ≠ 11 := (by omega); have a2 : j ≠ 12 := (by omega); have a3 : j ≠ 13 := (by omega); have a4 : j ≠ 14 := (by omega); simp [gu, upd, a0, a1, a2, a3, a4, e], by simp [gu, upd, hm29.2.2.1], (gu_id (by decide)).trans (gu_at.trans (congrArg nI (show _ = min (vN g t f) (tly g f t).2.1 by omega))), gu_at.trans (congrArg nI (show _ = max (vN g t f) (tly g f t).2.2.1 by omega)), by simp [gu, upd, hm29.2.2.2.2.2.1], by simp [gu, upd, msk, clrB, h41]⟩) | (rw [tly_lt h41 (by omega) (fun w => by rw [w.2] at h171; cases h171)]; exact ⟨fun i hi => by simp [gu, hi, hm29.1 i hi], fun j hj => by have e := hm29.2.1 j hj; have a0 : j ≠ 10 := (by omega); have a1 : j ≠ 11 := (by omega); have a2 : j ≠ 12 := (by omega); have a3 : j ≠ 13 := (by omega); have a4 : j ≠ 14 := (by omega); simp [gu, upd, a0, a1, a2, a3, a4, e], (gu_id (by decide)).trans hm29.2.2.1, (gu_id (by decide)).trans hm29.2.2.2.1, (gu_id (by decide)).trans hm29.2.2.2.2.1, (gu_id (by decide)).trans hm29.2.2.2.2.2.1, by simp [gu, upd, msk, clrB, h41]⟩) | (rw [tly_lt h41 (by omega) (fun w => by omega)]; exact ⟨fun i hi => by simp [gu, hi, hm29.1 i hi], fun j hj => by have e := hm29.2.1 j hj; have a0 : j ≠ 10 := (by omega); have a1 : j ≠ 11 := (by omega); have a2 : j ≠ 12 := (by omega); have a3 : j ≠ 13 := (by omega); have a4 : j ≠ 14 := (by omega); simp [gu, upd, a0, a1, a2, a3, a4, e], (gu_id (by decide)).trans hm29.2.2.1, (gu_id (by decide)).trans hm29.2.2.2.1, (gu_id (by decide)).trans hm29.2.2.2.2.1, (gu_id (by decide)).trans hm29.2.2.2.2.2.1, by simp [gu, upd, msk, clrB, h41]⟩))) (gle_s (gle_s (gle_i (by first | rfl | omega) (gle_u (gle_u (gle_u (gle_u gle_nil)))))))
      · refine g_aload_0 hC dX7_layTogether_44 (pc' := 45) rfl ?_
        refine g_iload_2 hC dX7_layTogether_45 (pc' := 46) rfl ?_
        refine g_iload_1 hC dX7_layTogether_46 (pc' := 47) rfl ?_
        refine g_iconst hC dX7_layTogether_47 (pc' := 48) kc_iconst_0 rfl ?_
        refine g_callV3R hC (c_lastOf0v h41 (by omega) hf hR1 hI) ml_X7_124 (sh_M ad) rfl ⟨(Nat.le_of_ble_eq_true rfl), (Nat.le_of_ble_eq_true rfl)⟩ (Nat.le_of_ble_eq_true rfl) dX7_layTogether_48 (pc' := 51) rfl ⟨Nat.zero_le _, Nat.zero_le _⟩ ?_
        refine g_istore_3 hC dX7_layTogether_51 (pc' := 52) rfl (Nat.le_of_ble_eq_true rfl) rfl ?_
        have hv := vN_lt hI (show t < 5 by omega) hf h41
        have hw := vts_le g f (vN g t f)
        have hcl := Nat.lt_of_lt_of_le (msk_lt (clrB g f) t) (Nat.pow_le_pow_right (show 0 < 2 by decide) (show t ≤ 5 by omega))
        have hcl2 : msk (clrB g f) t < 32 := hcl
        refine g_aload_0 hC dX7_layTogether_52 (pc' := 53) rfl ?_
        refine g_iload_1 hC dX7_layTogether_53 (pc' := 54) rfl ?_
        refine g_iload_3 hC dX7_layTogether_54 (pc' := 55) rfl ?_
        refine g_callV2R hC (c_votesFor hf hv hR1 hI) ml_X7_142 (sh_M ad) rfl ⟨(Nat.le_of_ble_eq_true rfl), (Nat.le_of_ble_eq_true rfl)⟩ (Nat.le_of_ble_eq_true rfl) dX7_layTogether_55 (pc' := 58) rfl ⟨Nat.zero_le _, Nat.zero_le _⟩ ?_
        refine g_istore_4 hC dX7_layTogether_58 (pc' := 60) rfl (Nat.le_of_ble_eq_true rfl) rfl ?_
        refine g_iconst hC dX7_layTogether_60 (pc' := 61) kc_iconst_0 rfl ?_
        refine g_istore_5 hC dX7_layTogether_61 (pc' := 63) rfl (Nat.le_of_ble_eq_true rfl) rfl ?_
        refine g_iconst hC dX7_layTogether_63 (pc' := 64) kc_iconst_0 rfl ?_
        refine g_istore_6 hC dX7_layTogether_64 (pc' := 66) rfl (Nat.le_of_ble_eq_true rfl) rfl ?_
        have L66 : ∀ u, u ≤ t → G F (S0 ad) (0, 0) X1 66 [.ref 201, .int (nI f), .int (nI t), .int (nI (vN g t f)), .int (nI (vts g f (vN g t f))), .int (zI (anB (told g f t) u)), .int (nI u)] [] := by
          refine up_ind _ (fun u hk66 ih66 => ?_)
          refine g_iload_6 hC dX7_layTogether_66 (pc' := 68) rfl ?_
          refine g_iload_2 hC dX7_layTogether_68 (pc' := 69) rfl ?_
          refine g_icmpN_ge hC dX7_layTogether_69 (pc' := 72) (tgt := 115) (by decide) rfl (by omega) (by omega) (fun h69 => ?_) (fun h69 => ?_)
          · refine g_aload_0 hC dX7_layTogether_115 (pc' := 116) rfl ?_
            refine g_dup hC dX7_layTogether_116 (pc' := 117) rfl rfl ?_
            refine g_getI hC fl_X7_139 (sh_M ad) rfl (hm29.2.2.2.2.2.2) dX7_layTogether_117 (pc' := 120) rfl ?_
            refine g_iconst hC dX7_layTogether_120 (pc' := 121) kc_iconst_1 rfl ?_
            refine g_iload_2 hC dX7_layTogether_121 (pc' := 122) rfl ?_
            refine g_ishl1 hC dX7_layTogether_122 (pc' := 123) rfl (by omega) ?_
            refine g_iorN hC dX7_layTogether_123 (pc' := 124) rfl ?_
            refine g_putI hC fl_X7_139 (sh_M ad) rfl rfl rfl dX7_layTogether_124 (pc' := 127) rfl ?_
            refine g_iload_4 hC dX7_layTogether_127 (pc' := 129) rfl ?_
            refine g_aload_0 hC dX7_layTogether_129 (pc' := 130) rfl ?_
            refine g_getI hC fl_X7_136 (sh_M ad) rfl ((gu_id (by decide)).trans hm29.2.2.2.2.2.1) dX7_layTogether_130 (pc' := 133) rfl ?_
            refine g_icmpN_le hC dX7_layTogether_133 (pc' := 136) (tgt := 160) (by decide) rfl (by omega) (by omega) (fun h133 => ?_) (fun h133 => ?_)
            · refine g_iload_4 hC dX7_layTogether_160 (pc' := 162) rfl ?_
              refine g_aload_0 hC dX7_layTogether_162 (pc' := 163) rfl ?_
              refine g_getI hC fl_X7_136 (sh_M ad) rfl ((gu_id (by decide)).trans hm29.2.2.2.2.2.1) dX7_layTogether_163 (pc' := 166) rfl ?_
              refine g_icmpN_ne hC dX7_layTogether_166 (pc' := 169) (tgt := 224) (by decide) rfl (by omega) (by omega) (fun h166 => ?_) (fun h166 => ?_)
              · refine g_iinc_2 hC dX7_layTogether_224 (pc' := 227) rfl (Nat.le_of_ble_eq_true rfl) rfl (nI_inc _ _ kc_iinc_1) ?_
                refine g_goto hC dX7_layTogether_227 (tgt := 29) (by decide) ?_
                exact g_weak (ih29 (by omega) _ (by first | (rw [tly_n h41]; exact ⟨hm29.1, hm29.2.1, hm29.2.2.1, hm29.2.2.2.1, hm29.2.2.2.2.1, hm29.2.2.2.2.2.1, by rw [hm29.2.2.2.2.2.2]; simp [msk, clrB, h41]⟩) | (rw [tly_gt h41 h133]; exact ⟨fun i hi => by simp [gu, hi, hm29.1 i hi], fun j hj => by have e := hm29.2.1 j hj; have a0 : j ≠ 10 := (by omega); have a1 : j ≠ 11 := (by omega); have a2 : j ≠ 12 := (by omega); have a3 : j ≠ 13 := (by omega); have a4 : j ≠ 14 := (by omega); simp [gu, upd, a0, a1, a2, a3, a4, e], by simp [gu, upd, hm29.2.2.1], (gu_id (by decide)).trans gu_at, gu_at, by simp [gu, upd, hm29.2.2.2.2.2.1], by simp [gu, upd, msk, clrB, h41]⟩) | (rw [tly_eq h41 h166 h171]; exact ⟨fun i hi => by simp [gu, hi, hm29.1 i hi], fun j hj => by have e := hm29.2.1 j hj; have a0 : j ≠ 10 := (by omega); have a1 : j ≠ 11 := (by omega); have a2 : j ≠ 12 := (by omega); have a3 : j ≠ 13 := (by omega); have a4 : j ≠ 14 := (by omega); simp [gu, upd, a0, a1, a2, a3, a4, e], by simp [gu, upd, hm29.2.2.1], (gu_id (by decide)).trans (gu_at.trans (congrArg nI (show _ = min (vN g t f) (tly g f t).2.1 by omega))), gu_at.trans (congrArg nI (show _ = max (vN g t f) (tly g f t).2.2.1 by omega)), by simp [gu, upd, hm29.2.2.2.2.2.1], by simp [gu, upd, msk, clrB, h41]⟩) | (rw [tly_lt h41 (by omega) (fun w => by rw [w.2] at h171; cases h171)]; exact ⟨fun i hi => by simp [gu, hi, hm29.1 i hi], fun j hj => by have e := hm29.2.1 j hj; have a0 : j ≠ 10 := (by omega); have a1 : j ≠ 11 := (by omega); have a2 : j ≠ 12 := (by omega); have a3 : j ≠ 13 := (by omega); have a4 : j ≠ 14 := (by omega); simp [gu, upd, a0, a1, a2, a3, a4, e], (gu_id (by decide)).trans hm29.2.2.1, (gu_id (by decide)).trans hm29.2.2.2.1, (gu_id (by decide)).trans hm29.2.2.2.2.1, (gu_id (by decide)).trans hm29.2.2.2.2.2.1, by simp [gu, upd, msk, clrB, h41]⟩) | (rw [tly_lt h41 (by omega) (fun w => by omega)]; exact ⟨fun i hi => by simp [gu, hi, hm29.1 i hi], fun j hj => by have e := hm29.2.1 j hj; have a0 : j ≠ 10 := (by omega); have a1 : j ≠ 11 := (by omega); have a2 : j ≠ 12 := (by omega); have a3 : j ≠ 13 := (by omega); have a4 : j ≠ 14 := (by omega); simp [gu, upd, a0, a1, a2, a3, a4, e], (gu_id (by decide)).trans hm29.2.2.1, (gu_id (by decide)).trans hm29.2.2.2.1, (gu_id (by decide)).trans hm29.2.2.2.2.1, (gu_id (by decide)).trans hm29.2.2.2.2.2.1, by simp [gu, upd, msk, clrB, h41]⟩))) (gle_s (gle_s (gle_i (by first | rfl | omega) (gle_u (gle_u (gle_u (gle_u gle_nil)))))))
              · refine g_iload_5 hC dX7_layTogether_169 (pc' := 171) rfl ?_
                refine g_ifZ_ne hC dX7_layTogether_171 (pc' := 174) (tgt := 224) (by decide) rfl (fun h171 => ?_) (fun h171 => ?_)
                · rw [show u = t by omega] at h171
                  refine g_iinc_2 hC dX7_layTogether_224 (pc' := 227) rfl (Nat.le_of_ble_eq_true rfl) rfl (nI_inc _ _ kc_iinc_1) ?_
                  refine g_goto hC dX7_layTogether_227 (tgt := 29) (by decide) ?_
                  exact g_weak (ih29 (by omega) _ (by first | (rw [tly_n h41]; exact ⟨hm29.1, hm29.2.1, hm29.2.2.1, hm29.2.2.2.1, hm29.2.2.2.2.1, hm29.2.2.2.2.2.1, by rw [hm29.2.2.2.2.2.2]; simp [msk, clrB, h41]⟩) | (rw [tly_gt h41 h133]; exact ⟨fun i hi => by simp [gu, hi, hm29.1 i hi], fun j hj => by have e := hm29.2.1 j hj; have a0 : j ≠ 10 := (by omega); have a1 : j ≠ 11 := (by omega); have a2 : j ≠ 12 := (by omega); have a3 : j ≠ 13 := (by omega); have a4 : j ≠ 14 := (by omega); simp [gu, upd, a0, a1, a2, a3, a4, e], by simp [gu, upd, hm29.2.2.1], (gu_id (by decide)).trans gu_at, gu_at, by simp [gu, upd, hm29.2.2.2.2.2.1], by simp [gu, upd, msk, clrB, h41]⟩) | (rw [tly_eq h41 h166 h171]; exact ⟨fun i hi => by simp [gu, hi, hm29.1 i hi], fun j hj => by have e := hm29.2.1 j hj; have a0 : j ≠ 10 := (by omega); have a1 : j ≠ 11 := (by omega); have a2 : j ≠ 12 := (by omega); have a3 : j ≠ 13 := (by omega); have a4 : j ≠ 14 := (by omega); simp [gu, upd, a0, a1, a2, a3, a4, e], by simp [gu, upd, hm29.2.2.1], (gu_id (by decide)).trans (gu_at.trans (congrArg nI (show _ = min (vN g t f) (tly g f t).2.1 by omega))), gu_at.trans (congrArg nI (show _ = max (vN g t f) (tly g f t).2.2.1 by omega)), by simp [gu, upd, hm29.2.2.2.2.2.1], by simp [gu, upd, msk, clrB, h41]⟩) | (rw [tly_lt h41 (by omega) (fun w => by rw [w.2] at h171; cases h171)]; exact ⟨fun i hi => by simp [gu, hi, hm29.1 i hi], fun j hj => by have e := hm29.2.1 j hj; have a0 : j ≠ 10 := (by omega); have a1 : j ≠ 11 := (by omega); have a2 : j ≠ 12 := (by omega); have a3 : j ≠ 13 := (by omega); have a4 : j ≠ 14 := (by omega); simp [gu, upd, a0, a1, a2, a3, a4, e], (gu_id (by decide)).trans hm29.2.2.1, (gu_id (by decide)).trans hm29.2.2.2.1, (gu_id (by decide)).trans hm29.2.2.2.2.1, (gu_id (by decide)).trans hm29.2.2.2.2.2.1, by simp [gu, upd, msk, clrB, h41]⟩) | (rw [tly_lt h41 (by omega) (fun w => by omega)]; exact ⟨fun i hi => by simp [gu, hi, hm29.1 i hi], fun j hj => by have e := hm29.2.1 j hj; have a0 : j ≠ 10 := (by omega); have a1 : j ≠ 11 := (by omega); have a2 : j ≠ 12 := (by omega); have a3 : j ≠ 13 := (by omega); have a4 : j ≠ 14 := (by omega); simp [gu, upd, a0, a1, a2, a3, a4, e], (gu_id (by decide)).trans hm29.2.2.1, (gu_id (by decide)).trans hm29.2.2.2.1, (gu_id (by decide)).trans hm29.2.2.2.2.1, (gu_id (by decide)).trans hm29.2.2.2.2.2.1, by simp [gu, upd, msk, clrB, h41]⟩))) (gle_s (gle_s (gle_i (by first | rfl | omega) (gle_u (gle_u (gle_u (gle_u gle_nil)))))))
                · have hq0 : ¬ (tly g f t).1 = 0 := fun z => by have := htb.2.2.2.2 z; have := vts_pos hI (show t < 5 by omega) h41; omega
                  rw [show u = t by omega] at h171
                  refine g_aload_0 hC dX7_layTogether_174 (pc' := 175) rfl ?_
                  refine g_dup hC dX7_layTogether_175 (pc' := 176) rfl rfl ?_
                  refine g_getI hC fl_X7_127 (sh_M ad) rfl ((gu_id (by decide)).trans hm29.2.2.1) dX7_layTogether_176 (pc' := 179) rfl ?_
                  refine g_iconst hC dX7_layTogether_179 (pc' := 180) kc_iconst_1 rfl ?_
                  refine g_iaddN hC dX7_layTogether_180 (pc' := 181) rfl ?_
                  refine g_putI hC fl_X7_127 (sh_M ad) rfl rfl rfl dX7_layTogether_181 (pc' := 184) rfl ?_
                  refine g_aload_0 hC dX7_layTogether_184 (pc' := 185) rfl ?_
                  refine g_iload_3 hC dX7_layTogether_185 (pc' := 186) rfl ?_
                  refine g_aload_0 hC dX7_layTogether_186 (pc' := 187) rfl ?_
                  refine g_getI hC fl_X7_130 (sh_M ad) rfl ((gu_id (by decide)).trans ((gu_id (by decide)).trans (hm29.2.2.2.1.trans (if_neg hq0)))) dX7_layTogether_187 (pc' := 190) rfl ?_
                  refine g_icmpN_ge hC dX7_layTogether_190 (pc' := 193) (tgt := 197) (by decide) rfl (by omega) (by omega) (fun h190 => ?_) (fun h190 => ?_)
                  · refine g_aload_0 hC dX7_layTogether_197 (pc' := 198) rfl ?_
                    refine g_getI hC fl_X7_130 (sh_M ad) rfl ((gu_id (by decide)).trans ((gu_id (by decide)).trans (hm29.2.2.2.1.trans (if_neg hq0)))) dX7_layTogether_198 (pc' := 201) rfl ?_
                    refine g_putI hC fl_X7_130 (sh_M ad) rfl rfl rfl dX7_layTogether_201 (pc' := 204) rfl ?_
                    refine g_aload_0 hC dX7_layTogether_204 (pc' := 205) rfl ?_
                    refine g_iload_3 hC dX7_layTogether_205 (pc' := 206) rfl ?_
                    refine g_aload_0 hC dX7_layTogether_206 (pc' := 207) rfl ?_
                    refine g_getI hC fl_X7_133 (sh_M ad) rfl ((gu_id (by decide)).trans ((gu_id (by decide)).trans ((gu_id (by decide)).trans (hm29.2.2.2.2.1.trans (if_neg hq0))))) dX7_layTogether_207 (pc' := 210) rfl ?_
                    refine g_icmpN_le hC dX7_layTogether_210 (pc' := 213) (tgt := 217) (by decide) rfl (by omega) (by omega) (fun h210 => ?_) (fun h210 => ?_)
                    · refine g_aload_0 hC dX7_layTogether_217 (pc' := 218) rfl ?_
                      refine g_getI hC fl_X7_133 (sh_M ad) rfl ((gu_id (by decide)).trans ((gu_id (by decide)).trans ((gu_id (by decide)).trans (hm29.2.2.2.2.1.trans (if_neg hq0))))) dX7_layTogether_218 (pc' := 221) rfl ?_
                      refine g_putI hC fl_X7_133 (sh_M ad) rfl rfl rfl dX7_layTogether_221 (pc' := 224) rfl ?_
                      refine g_iinc_2 hC dX7_layTogether_224 (pc' := 227) rfl (Nat.le_of_ble_eq_true rfl) rfl (nI_inc _ _ kc_iinc_1) ?_
                      refine g_goto hC dX7_layTogether_227 (tgt := 29) (by decide) ?_
                      exact g_weak (ih29 (by omega) _ (by first | (rw [tly_n h41]; exact ⟨hm29.1, hm29.2.1, hm29.2.2.1, hm29.2.2.2.1, hm29.2.2.2.2.1, hm29.2.2.2.2.2.1, by rw [hm29.2.2.2.2.2.2]; simp [msk, clrB, h41]⟩) | (rw [tly_gt h41 h133]; exact ⟨fun i hi => by simp [gu, hi, hm29.1 i hi], fun j hj => by have e := hm29.2.1 j hj; have a0 : j ≠ 10 := (by omega); have a1 : j ≠ 11 := (by omega); have a2 : j ≠ 12 := (by omega); have a3 : j ≠ 13 := (by omega); have a4 : j ≠ 14 := (by omega); simp [gu, upd, a0, a1, a2, a3, a4, e], by simp [gu, upd, hm29.2.2.1], (gu_id (by decide)).trans gu_at, gu_at, by simp [gu, upd, hm29.2.2.2.2.2.1], by simp [gu, upd, msk, clrB, h41]⟩) | (rw [tly_eq h41 h166 h171]; exact ⟨fun i hi => by simp [gu, hi, hm29.1 i hi], fun j hj => by have e := hm29.2.1 j hj; have a0 : j ≠ 10 := (by omega); have a1 : j ≠ 11 := (by omega); have a2 : j ≠ 12 := (by omega); have a3 : j ≠ 13 := (by omega); have a4 : j ≠ 14 := (by omega); simp [gu, upd, a0, a1, a2, a3, a4, e], by simp [gu, upd, hm29.2.2.1], (gu_id (by decide)).trans (gu_at.trans (congrArg nI (show _ = min (vN g t f) (tly g f t).2.1 by omega))), gu_at.trans (congrArg nI (show _ = max (vN g t f) (tly g f t).2.2.1 by omega)), by simp [gu, upd, hm29.2.2.2.2.2.1], by simp [gu, upd, msk, clrB, h41]⟩) | (rw [tly_lt h41 (by omega) (fun w => by rw [w.2] at h171; cases h171)]; exact ⟨fun i hi => by simp [gu, hi, hm29.1 i hi], fun j hj => by have e := hm29.2.1 j hj; have a0 : j ≠ 10 := (by omega); have a1 : j ≠ 11 := (by omega); have a2 : j ≠ 12 := (by omega); have a3 : j ≠ 13 := (by omega); have a4 : j ≠ 14 := (by omega); simp [gu, upd, a0, a1, a2, a3, a4, e], (gu_id (by decide)).trans hm29.2.2.1, (gu_id (by decide)).trans hm29.2.2.2.1, (gu_id (by decide)).trans hm29.2.2.2.2.1, (gu_id (by decide)).trans hm29.2.2.2.2.2.1, by simp [gu, upd, msk, clrB, h41]⟩) | (rw [tly_lt h41 (by omega) (fun w => by omega)]; exact ⟨fun i hi => by simp [gu, hi, hm29.1 i hi], fun j hj => by have e := hm29.2.1 j hj; have a0 : j ≠ 10 := (by omega); have a1 : j ≠ 11 := (by omega); have a2 : j ≠ 12 := (by omega); have a3 : j ≠ 13 := (by omega); have a4 : j ≠ 14 := (by omega); simp [gu, upd, a0, a1, a2, a3, a4, e], (gu_id (by decide)).trans hm29.2.2.1, (gu_id (by decide)).trans hm29.2.2.2.1, (gu_id (by decide)).trans hm29.2.2.2.2.1, (gu_id (by decide)).trans hm29.2.2.2.2.2.1, by simp [gu, upd, msk, clrB, h41]⟩))) (gle_s (gle_s (gle_i (by first | rfl | omega) (gle_u (gle_u (gle_u (gle_u gle_nil)))))))
                    · refine g_iload_3 hC dX7_layTogether_213 (pc' := 214) rfl ?_
                      refine g_goto hC dX7_layTogether_214 (tgt := 221) (by decide) ?_
                      refine g_putI hC fl_X7_133 (sh_M ad) rfl rfl rfl dX7_layTogether_221 (pc' := 224) rfl ?_
                      refine g_iinc_2 hC dX7_layTogether_224 (pc' := 227) rfl (Nat.le_of_ble_eq_true rfl) rfl (nI_inc _ _ kc_iinc_1) ?_
                      refine g_goto hC dX7_layTogether_227 (tgt := 29) (by decide) ?_
                      exact g_weak (ih29 (by omega) _ (by first | (rw [tly_n h41]; exact ⟨hm29.1, hm29.2.1, hm29.2.2.1, hm29.2.2.2.1, hm29.2.2.2.2.1, hm29.2.2.2.2.2.1, by rw [hm29.2.2.2.2.2.2]; simp [msk, clrB, h41]⟩) | (rw [tly_gt h41 h133]; exact ⟨fun i hi => by simp [gu, hi, hm29.1 i hi], fun j hj => by have e := hm29.2.1 j hj; have a0 : j ≠ 10 := (by omega); have a1 : j ≠ 11 := (by omega); have a2 : j ≠ 12 := (by omega); have a3 : j ≠ 13 := (by omega); have a4 : j ≠ 14 := (by omega); simp [gu, upd, a0, a1, a2, a3, a4, e], by simp [gu, upd, hm29.2.2.1], (gu_id (by decide)).trans gu_at, gu_at, by simp [gu, upd, hm29.2.2.2.2.2.1], by simp [gu, upd, msk, clrB, h41]⟩) | (rw [tly_eq h41 h166 h171]; exact ⟨fun i hi => by simp [gu, hi, hm29.1 i hi], fun j hj => by have e := hm29.2.1 j hj; have a0 : j ≠ 10 := (by omega); have a1 : j ≠ 11 := (by omega); have a2 : j ≠ 12 := (by omega); have a3 : j ≠ 13 := (by omega); have a4 : j ≠ 14 := (by omega); simp [gu, upd, a0, a1, a2, a3, a4, e], by simp [gu, upd, hm29.2.2.1], (gu_id (by decide)).trans (gu_at.trans (congrArg nI (show _ = min (vN g t f) (tly g f t).2.1 by omega))), gu_at.trans (congrArg nI (show _ = max (vN g t f) (tly g f t).2.2.1 by omega)), by simp [gu, upd, hm29.2.2.2.2.2.1], by simp [gu, upd, msk, clrB, h41]⟩) | (rw [tly_lt h41 (by omega) (fun w => by rw [w.2] at h171; cases h171)]; exact ⟨fun i hi => by simp [gu, hi, hm29.1 i hi], fun j hj => by have e := hm29.2.1 j hj; have a0 : j ≠ 10 := (by omega); have a1 : j ≠ 11 := (by omega); have a2 : j ≠ 12 := (by omega); have a3 : j ≠ 13 := (by omega); have a4 : j ≠ 14 := (by omega); simp [gu, upd, a0, a1, a2, a3, a4, e], (gu_id (by decide)).trans hm29.2.2.1, (gu_id (by decide)).trans hm29.2.2.2.1, (gu_id (by decide)).trans hm29.2.2.2.2.1, (gu_id (by decide)).trans hm29.2.2.2.2.2.1, by simp [gu, upd, msk, clrB, h41]⟩) | (rw [tly_lt h41 (by omega) (fun w => by omega)]; exact ⟨fun i hi => by simp [gu, hi, hm29.1 i hi], fun j hj => by have e := hm29.2.1 j hj; have a0 : j ≠ 10 := (by omega); have a1 : j ≠ 11 := (by omega); have a2 : j ≠ 12 := (by omega); have a3 : j ≠ 13 := (by omega); have a4 : j ≠ 14 := (by omega); simp [gu, upd, a0, a1, a2, a3, a4, e], (gu_id (by decide)).trans hm29.2.2.1, (gu_id (by decide)).trans hm29.2.2.2.1, (gu_id (by decide)).trans hm29.2.2.2.2.1, (gu_id (by decide)).trans hm29.2.2.2.2.2.1, by simp [gu, upd, msk, clrB, h41]⟩))) (gle_s (gle_s (gle_i (by first | rfl | omega) (gle_u (gle_u (gle_u (gle_u gle_nil)))))))
                  · refine g_iload_3 hC dX7_layTogether_193 (pc' := 194) rfl ?_
                    refine g_goto hC dX7_layTogether_194 (tgt := 201) (by decide) ?_
                    refine g_putI hC fl_X7_130 (sh_M ad) rfl rfl rfl dX7_layTogether_201 (pc' := 204) rfl ?_
                    refine g_aload_0 hC dX7_layTogether_204 (pc' := 205) rfl ?_
                    refine g_iload_3 hC dX7_layTogether_205 (pc' := 206) rfl ?_
                    refine g_aload_0 hC dX7_layTogether_206 (pc' := 207) rfl ?_
                    refine g_getI hC fl_X7_133 (sh_M ad) rfl ((gu_id (by decide)).trans ((gu_id (by decide)).trans ((gu_id (by decide)).trans (hm29.2.2.2.2.1.trans (if_neg hq0))))) dX7_layTogether_207 (pc' := 210) rfl ?_
                    refine g_icmpN_le hC dX7_layTogether_210 (pc' := 213) (tgt := 217) (by decide) rfl (by omega) (by omega) (fun h210 => ?_) (fun h210 => ?_)
                    · refine g_aload_0 hC dX7_layTogether_217 (pc' := 218) rfl ?_
                      refine g_getI hC fl_X7_133 (sh_M ad) rfl ((gu_id (by decide)).trans ((gu_id (by decide)).trans ((gu_id (by decide)).trans (hm29.2.2.2.2.1.trans (if_neg hq0))))) dX7_layTogether_218 (pc' := 221) rfl ?_
                      refine g_putI hC fl_X7_133 (sh_M ad) rfl rfl rfl dX7_layTogether_221 (pc' := 224) rfl ?_
                      refine g_iinc_2 hC dX7_layTogether_224 (pc' := 227) rfl (Nat.le_of_ble_eq_true rfl) rfl (nI_inc _ _ kc_iinc_1) ?_
                      refine g_goto hC dX7_layTogether_227 (tgt := 29) (by decide) ?_
                      exact g_weak (ih29 (by omega) _ (by first | (rw [tly_n h41]; exact ⟨hm29.1, hm29.2.1, hm29.2.2.1, hm29.2.2.2.1, hm29.2.2.2.2.1, hm29.2.2.2.2.2.1, by rw [hm29.2.2.2.2.2.2]; simp [msk, clrB, h41]⟩) | (rw [tly_gt h41 h133]; exact ⟨fun i hi => by simp [gu, hi, hm29.1 i hi], fun j hj => by have e := hm29.2.1 j hj; have a0 : j ≠ 10 := (by omega); have a1 : j ≠ 11 := (by omega); have a2 : j ≠ 12 := (by omega); have a3 : j ≠ 13 := (by omega); have a4 : j ≠ 14 := (by omega); simp [gu, upd, a0, a1, a2, a3, a4, e], by simp [gu, upd, hm29.2.2.1], (gu_id (by decide)).trans gu_at, gu_at, by simp [gu, upd, hm29.2.2.2.2.2.1], by simp [gu, upd, msk, clrB, h41]⟩) | (rw [tly_eq h41 h166 h171]; exact ⟨fun i hi => by simp [gu, hi, hm29.1 i hi], fun j hj => by have e := hm29.2.1 j hj; have a0 : j ≠ 10 := (by omega); have a1 : j ≠ 11 := (by omega); have a2 : j ≠ 12 := (by omega); have a3 : j ≠ 13 := (by omega); have a4 : j ≠ 14 := (by omega); simp [gu, upd, a0, a1, a2, a3, a4, e], by simp [gu, upd, hm29.2.2.1], (gu_id (by decide)).trans (gu_at.trans (congrArg nI (show _ = min (vN g t f) (tly g f t).2.1 by omega))), gu_at.trans (congrArg nI (show _ = max (vN g t f) (tly g f t).2.2.1 by omega)), by simp [gu, upd, hm29.2.2.2.2.2.1], by simp [gu, upd, msk, clrB, h41]⟩) | (rw [tly_lt h41 (by omega) (fun w => by rw [w.2] at h171; cases h171)]; exact ⟨fun i hi => by simp [gu, hi, hm29.1 i hi], fun j hj => by have e := hm29.2.1 j hj; have a0 : j ≠ 10 := (by omega); have a1 : j ≠ 11 := (by omega); have a2 : j ≠ 12 := (by omega); have a3 : j ≠ 13 := (by omega); have a4 : j ≠ 14 := (by omega); simp [gu, upd, a0, a1, a2, a3, a4, e], (gu_id (by decide)).trans hm29.2.2.1, (gu_id (by decide)).trans hm29.2.2.2.1, (gu_id (by decide)).trans hm29.2.2.2.2.1, (gu_id (by decide)).trans hm29.2.2.2.2.2.1, by simp [gu, upd, msk, clrB, h41]⟩) | (rw [tly_lt h41 (by omega) (fun w => by omega)]; exact ⟨fun i hi => by simp [gu, hi, hm29.1 i hi], fun j hj => by have e := hm29.2.1 j hj; have a0 : j ≠ 10 := (by omega); have a1 : j ≠ 11 := (by omega); have a2 : j ≠ 12 := (by omega); have a3 : j ≠ 13 := (by omega); have a4 : j ≠ 14 := (by omega); simp [gu, upd, a0, a1, a2, a3, a4, e], (gu_id (by decide)).trans hm29.2.2.1, (gu_id (by decide)).trans hm29.2.2.2.1, (gu_id (by decide)).trans hm29.2.2.2.2.1, (gu_id (by decide)).trans hm29.2.2.2.2.2.1, by simp [gu, upd, msk, clrB, h41]⟩))) (gle_s (gle_s (gle_i (by first | rfl | omega) (gle_u (gle_u (gle_u (gle_u gle_nil)))))))
                    · refine g_iload_3 hC dX7_layTogether_213 (pc' := 214) rfl ?_
                      refine g_goto hC dX7_layTogether_214 (tgt := 221) (by decide) ?_
                      refine g_putI hC fl_X7_133 (sh_M ad) rfl rfl rfl dX7_layTogether_221 (pc' := 224) rfl ?_
                      refine g_iinc_2 hC dX7_layTogether_224 (pc' := 227) rfl (Nat.le_of_ble_eq_true rfl) rfl (nI_inc _ _ kc_iinc_1) ?_
                      refine g_goto hC dX7_layTogether_227 (tgt := 29) (by decide) ?_
                      exact g_weak (ih29 (by omega) _ (by first | (rw [tly_n h41]; exact ⟨hm29.1, hm29.2.1, hm29.2.2.1, hm29.2.2.2.1, hm29.2.2.2.2.1, hm29.2.2.2.2.2.1, by rw [hm29.2.2.2.2.2.2]; simp [msk, clrB, h41]⟩) | (rw [tly_gt h41 h133]; exact ⟨fun i hi => by simp [gu, hi, hm29.1 i hi], fun j hj => by have e := hm29.2.1 j hj; have a0 : j ≠ 10 := (by omega); have a1 : j ≠ 11 := (by omega); have a2 : j ≠ 12 := (by omega); have a3 : j ≠ 13 := (by omega); have a4 : j ≠ 14 := (by omega); simp [gu, upd, a0, a1, a2, a3, a4, e], by simp [gu, upd, hm29.2.2.1], (gu_id (by decide)).trans gu_at, gu_at, by simp [gu, upd, hm29.2.2.2.2.2.1], by simp [gu, upd, msk, clrB, h41]⟩) | (rw [tly_eq h41 h166 h171]; exact ⟨fun i hi => by simp [gu, hi, hm29.1 i hi], fun j hj => by have e := hm29.2.1 j hj; have a0 : j ≠ 10 := (by omega); have a1 : j ≠ 11 := (by omega); have a2 : j ≠ 12 := (by omega); have a3 : j ≠ 13 := (by omega); have a4 : j ≠ 14 := (by omega); simp [gu, upd, a0, a1, a2, a3, a4, e], by simp [gu, upd, hm29.2.2.1], (gu_id (by decide)).trans (gu_at.trans (congrArg nI (show _ = min (vN g t f) (tly g f t).2.1 by omega))), gu_at.trans (congrArg nI (show _ = max (vN g t f) (tly g f t).2.2.1 by omega)), by simp [gu, upd, hm29.2.2.2.2.2.1], by simp [gu, upd, msk, clrB, h41]⟩) | (rw [tly_lt h41 (by omega) (fun w => by rw [w.2] at h171; cases h171)]; exact ⟨fun i hi => by simp [gu, hi, hm29.1 i hi], fun j hj => by have e := hm29.2.1 j hj; have a0 : j ≠ 10 := (by omega); have a1 : j ≠ 11 := (by omega); have a2 : j ≠ 12 := (by omega); have a3 : j ≠ 13 := (by omega); have a4 : j ≠ 14 := (by omega); simp [gu, upd, a0, a1, a2, a3, a4, e], (gu_id (by decide)).trans hm29.2.2.1, (gu_id (by decide)).trans hm29.2.2.2.1, (gu_id (by decide)).trans hm29.2.2.2.2.1, (gu_id (by decide)).trans hm29.2.2.2.2.2.1, by simp [gu, upd, msk, clrB, h41]⟩) | (rw [tly_lt h41 (by omega) (fun w => by omega)]; exact ⟨fun i hi => by simp [gu, hi, hm29.1 i hi], fun j hj => by have e := hm29.2.1 j hj; have a0 : j ≠ 10 := (by omega); have a1 : j ≠ 11 := (by omega); have a2 : j ≠ 12 := (by omega); have a3 : j ≠ 13 := (by omega); have a4 : j ≠ 14 := (by omega); simp [gu, upd, a0, a1, a2, a3, a4, e], (gu_id (by decide)).trans hm29.2.2.1, (gu_id (by decide)).trans hm29.2.2.2.1, (gu_id (by decide)).trans hm29.2.2.2.2.1, (gu_id (by decide)).trans hm29.2.2.2.2.2.1, by simp [gu, upd, msk, clrB, h41]⟩))) (gle_s (gle_s (gle_i (by first | rfl | omega) (gle_u (gle_u (gle_u (gle_u gle_nil)))))))
            · refine g_aload_0 hC dX7_layTogether_136 (pc' := 137) rfl ?_
              refine g_iload_4 hC dX7_layTogether_137 (pc' := 139) rfl ?_
              refine g_putI hC fl_X7_136 (sh_M ad) rfl rfl rfl dX7_layTogether_139 (pc' := 142) rfl ?_
              refine g_aload_0 hC dX7_layTogether_142 (pc' := 143) rfl ?_
              refine g_iconst hC dX7_layTogether_143 (pc' := 144) kc_iconst_1 rfl ?_
              refine g_putI hC fl_X7_127 (sh_M ad) rfl rfl rfl dX7_layTogether_144 (pc' := 147) rfl ?_
              refine g_aload_0 hC dX7_layTogether_147 (pc' := 148) rfl ?_
              refine g_iload_3 hC dX7_layTogether_148 (pc' := 149) rfl ?_
              refine g_putI hC fl_X7_130 (sh_M ad) rfl rfl rfl dX7_layTogether_149 (pc' := 152) rfl ?_
              refine g_aload_0 hC dX7_layTogether_152 (pc' := 153) rfl ?_
              refine g_iload_3 hC dX7_layTogether_153 (pc' := 154) rfl ?_
              refine g_putI hC fl_X7_133 (sh_M ad) rfl rfl rfl dX7_layTogether_154 (pc' := 157) rfl ?_
              refine g_goto hC dX7_layTogether_157 (tgt := 224) (by decide) ?_
              refine g_iinc_2 hC dX7_layTogether_224 (pc' := 227) rfl (Nat.le_of_ble_eq_true rfl) rfl (nI_inc _ _ kc_iinc_1) ?_
              refine g_goto hC dX7_layTogether_227 (tgt := 29) (by decide) ?_
              exact g_weak (ih29 (by omega) _ (by first | (rw [tly_n h41]; exact ⟨hm29.1, hm29.2.1, hm29.2.2.1, hm29.2.2.2.1, hm29.2.2.2.2.1, hm29.2.2.2.2.2.1, by rw [hm29.2.2.2.2.2.2]; simp [msk, clrB, h41]⟩) | (rw [tly_gt h41 h133]; exact ⟨fun i hi => by simp [gu, hi, hm29.1 i hi], fun j hj => by have e := hm29.2.1 j hj; have a0 : j ≠ 10 := (by omega); have a1 : j ≠ 11 := (by omega); have a2 : j ≠ 12 := (by omega); have a3 : j ≠ 13 := (by omega); have a4 : j ≠ 14 := (by omega); simp [gu, upd, a0, a1, a2, a3, a4, e], by simp [gu, upd, hm29.2.2.1], (gu_id (by decide)).trans gu_at, gu_at, by simp [gu, upd, hm29.2.2.2.2.2.1], by simp [gu, upd, msk, clrB, h41]⟩) | (rw [tly_eq h41 h166 h171]; exact ⟨fun i hi => by simp [gu, hi, hm29.1 i hi], fun j hj => by have e := hm29.2.1 j hj; have a0 : j ≠ 10 := (by omega); have a1 : j ≠ 11 := (by omega); have a2 : j ≠ 12 := (by omega); have a3 : j ≠ 13 := (by omega); have a4 : j ≠ 14 := (by omega); simp [gu, upd, a0, a1, a2, a3, a4, e], by simp [gu, upd, hm29.2.2.1], (gu_id (by decide)).trans (gu_at.trans (congrArg nI (show _ = min (vN g t f) (tly g f t).2.1 by omega))), gu_at.trans (congrArg nI (show _ = max (vN g t f) (tly g f t).2.2.1 by omega)), by simp [gu, upd, hm29.2.2.2.2.2.1], by simp [gu, upd, msk, clrB, h41]⟩) | (rw [tly_lt h41 (by omega) (fun w => by rw [w.2] at h171; cases h171)]; exact ⟨fun i hi => by simp [gu, hi, hm29.1 i hi], fun j hj => by have e := hm29.2.1 j hj; have a0 : j ≠ 10 := (by omega); have a1 : j ≠ 11 := (by omega); have a2 : j ≠ 12 := (by omega); have a3 : j ≠ 13 := (by omega); have a4 : j ≠ 14 := (by omega); simp [gu, upd, a0, a1, a2, a3, a4, e], (gu_id (by decide)).trans hm29.2.2.1, (gu_id (by decide)).trans hm29.2.2.2.1, (gu_id (by decide)).trans hm29.2.2.2.2.1, (gu_id (by decide)).trans hm29.2.2.2.2.2.1, by simp [gu, upd, msk, clrB, h41]⟩) | (rw [tly_lt h41 (by omega) (fun w => by omega)]; exact ⟨fun i hi => by simp [gu, hi, hm29.1 i hi], fun j hj => by have e := hm29.2.1 j hj; have a0 : j ≠ 10 := (by omega); have a1 : j ≠ 11 := (by omega); have a2 : j ≠ 12 := (by omega); have a3 : j ≠ 13 := (by omega); have a4 : j ≠ 14 := (by omega); simp [gu, upd, a0, a1, a2, a3, a4, e], (gu_id (by decide)).trans hm29.2.2.1, (gu_id (by decide)).trans hm29.2.2.2.1, (gu_id (by decide)).trans hm29.2.2.2.2.1, (gu_id (by decide)).trans hm29.2.2.2.2.2.1, by simp [gu, upd, msk, clrB, h41]⟩))) (gle_s (gle_s (gle_i (by first | rfl | omega) (gle_u (gle_u (gle_u (gle_u gle_nil)))))))
          · refine g_iload_5 hC dX7_layTogether_72 (pc' := 74) rfl ?_
            refine g_ifZ_ne hC dX7_layTogether_74 (pc' := 77) (tgt := 102) (by decide) rfl (fun h74 => ?_) (fun h74 => ?_)
            · refine g_iconst hC dX7_layTogether_102 (pc' := 103) kc_iconst_1 rfl ?_
              refine g_goto hC dX7_layTogether_103 (tgt := 107) (by decide) ?_
              refine g_istore_5 hC dX7_layTogether_107 (pc' := 109) rfl (Nat.le_of_ble_eq_true rfl) rfl ?_
              refine g_iinc_6 hC dX7_layTogether_109 (pc' := 112) rfl (Nat.le_of_ble_eq_true rfl) rfl (nI_inc _ _ kc_iinc_1) ?_
              refine g_goto hC dX7_layTogether_112 (tgt := 66) (by decide) ?_
              exact g_weak (ih66 (by omega)) (gle_s (gle_s (gle_s (gle_s (gle_s (gle_i (by first | exact (nI1_z (by simp [anB, told, *])).symm | exact (nI0_z (by simp [anB, told, *])).symm) (gle_i (by first | rfl | omega) gle_nil)))))))
            · refine g_aload_0 hC dX7_layTogether_77 (pc' := 78) rfl ?_
              refine g_getI hC fl_X7_139 (sh_M ad) rfl (hm29.2.2.2.2.2.2) dX7_layTogether_78 (pc' := 81) rfl ?_
              refine g_iload_6 hC dX7_layTogether_81 (pc' := 83) rfl ?_
              refine g_ishrN hC dX7_layTogether_83 (pc' := 84) rfl (by omega) (by omega) ?_
              refine g_iconst hC dX7_layTogether_84 (pc' := 85) kc_iconst_1 rfl ?_
              refine g_iand1 hC dX7_layTogether_85 (pc' := 86) rfl ?_
              refine g_iconst hC dX7_layTogether_86 (pc' := 87) kc_iconst_1 rfl ?_
              refine g_icmpN_ne hC dX7_layTogether_87 (pc' := 90) (tgt := 106) (by decide) rfl (by omega) (by omega) (fun h87 => ?_) (fun h87 => ?_)
              · have hku : ¬ kind g u f = 1 := fun z => h87 ((msk_bit (P := clrB g f) (show u < t by omega)).mpr (decide_eq_true z))
                refine g_iconst hC dX7_layTogether_106 (pc' := 107) kc_iconst_0 rfl ?_
                refine g_istore_5 hC dX7_layTogether_107 (pc' := 109) rfl (Nat.le_of_ble_eq_true rfl) rfl ?_
                refine g_iinc_6 hC dX7_layTogether_109 (pc' := 112) rfl (Nat.le_of_ble_eq_true rfl) rfl (nI_inc _ _ kc_iinc_1) ?_
                refine g_goto hC dX7_layTogether_112 (tgt := 66) (by decide) ?_
                exact g_weak (ih66 (by omega)) (gle_s (gle_s (gle_s (gle_s (gle_s (gle_i (by first | exact (nI1_z (by simp [anB, told, *])).symm | exact (nI0_z (by simp [anB, told, *])).symm) (gle_i (by first | rfl | omega) gle_nil)))))))
              · have hku : kind g u f = 1 := by have := (msk_bit (P := clrB g f) (show u < t by omega)).mp h87; exact of_decide_eq_true this
                have hvu := vN_lt hI (show u < 5 by omega) hf hku
                refine g_aload_0 hC dX7_layTogether_90 (pc' := 91) rfl ?_
                refine g_iload_6 hC dX7_layTogether_91 (pc' := 93) rfl ?_
                refine g_iload_1 hC dX7_layTogether_93 (pc' := 94) rfl ?_
                refine g_iconst hC dX7_layTogether_94 (pc' := 95) kc_iconst_0 rfl ?_
                refine g_callV3R hC (c_lastOf0v hku (by omega) hf hR1 hI) ml_X7_124 (sh_M ad) rfl ⟨(Nat.le_of_ble_eq_true rfl), (Nat.le_of_ble_eq_true rfl)⟩ (Nat.le_of_ble_eq_true rfl) dX7_layTogether_95 (pc' := 98) rfl ⟨Nat.zero_le _, Nat.zero_le _⟩ ?_
                refine g_iload_3 hC dX7_layTogether_98 (pc' := 99) rfl ?_
                refine g_icmpN_ne hC dX7_layTogether_99 (pc' := 102) (tgt := 106) (by decide) rfl (by omega) (by omega) (fun h99 => ?_) (fun h99 => ?_)
                · refine g_iconst hC dX7_layTogether_106 (pc' := 107) kc_iconst_0 rfl ?_
                  refine g_istore_5 hC dX7_layTogether_107 (pc' := 109) rfl (Nat.le_of_ble_eq_true rfl) rfl ?_
                  refine g_iinc_6 hC dX7_layTogether_109 (pc' := 112) rfl (Nat.le_of_ble_eq_true rfl) rfl (nI_inc _ _ kc_iinc_1) ?_
                  refine g_goto hC dX7_layTogether_112 (tgt := 66) (by decide) ?_
                  exact g_weak (ih66 (by omega)) (gle_s (gle_s (gle_s (gle_s (gle_s (gle_i (by first | exact (nI1_z (by simp [anB, told, *])).symm | exact (nI0_z (by simp [anB, told, *])).symm) (gle_i (by first | rfl | omega) gle_nil)))))))
                · refine g_iconst hC dX7_layTogether_102 (pc' := 103) kc_iconst_1 rfl ?_
                  refine g_goto hC dX7_layTogether_103 (tgt := 107) (by decide) ?_
                  refine g_istore_5 hC dX7_layTogether_107 (pc' := 109) rfl (Nat.le_of_ble_eq_true rfl) rfl ?_
                  refine g_iinc_6 hC dX7_layTogether_109 (pc' := 112) rfl (Nat.le_of_ble_eq_true rfl) rfl (nI_inc _ _ kc_iinc_1) ?_
                  refine g_goto hC dX7_layTogether_112 (tgt := 66) (by decide) ?_
                  exact g_weak (ih66 (by omega)) (gle_s (gle_s (gle_s (gle_s (gle_s (gle_i (by first | exact (nI1_z (by simp [anB, told, *])).symm | exact (nI0_z (by simp [anB, told, *])).symm) (gle_i (by first | rfl | omega) gle_nil)))))))
        exact g_weak (L66 0 (by exact Nat.zero_le _)) (gle_s (gle_s (gle_s (gle_s (gle_s (gle_i (by rfl) (gle_s gle_nil)))))))
  exact g_weak (L29 0 (by exact Nat.zero_le _) _ (by exact ⟨fun i hi => by simp [gu, hi], fun j hj => by have a0 : j ≠ 10 := (by omega); have a1 : j ≠ 11 := (by omega); have a2 : j ≠ 12 := (by omega); have a3 : j ≠ 13 := (by omega); have a4 : j ≠ 14 := (by omega); simp [gu, upd, a0, a1, a2, a3, a4], by simp [gu, upd, tly], by simp [gu, upd, tly, loI], by simp [gu, upd, tly, hiI], by simp [gu, upd, tly], by simp [gu, upd, msk]⟩)) (gle_s (gle_s (gle_s (gle_u (gle_u (gle_u (gle_u gle_nil)))))))
