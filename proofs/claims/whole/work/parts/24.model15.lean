theorem Inv_sm {g g' : Nat → Nat} (hI : Inv g) (h0 : (1 ≤ g' 0 ∧ g' 0 ≤ 9) ∧ g' 1 ≤ 5 ∧ g' 2 ≤ g' 3 ∧ g' 3 ≤ 5) (h1 : ∀ t, t < 5 → g' (4 + t) ≤ 4 ∧ g' (9 + t) ≤ 300 ∧ g' (14 + t) < 1024) (e : ∀ j, 20 ≤ j → g' j = g j) : Inv g' := by
  refine ⟨h0, h1, fun s f a b => ?_, fun s f k a b c => ?_, fun s f k a b c => ?_⟩
  · have := hI.c a b; unfold cnt at *; rw [e _ (by omega)]; exact this
  · have := hI.m a b c; unfold mk at *; rw [e _ (by omega)]; exact this
  · unfold cnt at c; rw [e _ (by omega)] at c; have := hI.p a b c; unfold mk at *; rw [e _ (by omega)]; exact this
theorem Inv_tear {g : Nat → Nat} {a : Int32} (hI : Inv g) (h : g 2 < g 3) : Inv (gTear g a) := by
  have h0 := hI.1
  unfold gTear
  split
  · refine Inv_sm hI ?_ (fun t ht => ?_) (fun j hj => by unfold updN; rw [if_neg (by omega)])
    · simp [updN]; omega
    · have := hI.t ht; simp only [updN]; rw [if_neg (by omega), if_neg (by omega), if_neg (by omega)]; exact this
  · refine Inv_sm hI ?_ (fun t ht => ?_) (fun j hj => by unfold updN; rw [if_neg (by omega)])
    · simp [updN]; omega
    · have := hI.t ht; simp only [updN]; rw [if_neg (by omega), if_neg (by omega), if_neg (by omega)]; exact this
def FT (pad : Nat → Nat) (len : Nat) (r : Int32) : Prop := (∃ P, r = nI P ∧ P ≤ len ∧ (stuck pad len P ∨ stuck7 pad len P)) ∨ (r = -6 ∧ ∃ q, rn pad len = some q ∧ q.1 = 7)
def is7 (pad : Nat → Nat) (j : Nat) : Bool := match rn pad j with
  | some q => decide (q.1 = 7)
  | none => false
theorem is7_t {pad : Nat → Nat} {j : Nat} {q : PSt} (h : rn pad j = some q) (h7 : q.1 = 7) : is7 pad j = true := by unfold is7; rw [h]; exact decide_eq_true h7
theorem is7_f {pad : Nat → Nat} {j : Nat} (h : ∀ q, rn pad j = some q → q.1 ≠ 7) : is7 pad j = false := by
  unfold is7
  split
  · rename_i q hq; exact decide_eq_false (h q hq)
  · rfl
theorem is7_q {pad : Nat → Nat} {j : Nat} (h : is7 pad j = true) : ∃ q, rn pad j = some q ∧ q.1 = 7 := by
  unfold is7 at h
  split at h
  · rename_i q hq; exact ⟨q, hq, of_decide_eq_true h⟩
  · cases h
def c7 (pad : Nat → Nat) (i : Nat) : Nat := cnB (fun j => is7 pad (j + 1)) i
theorem c7_nos {pad : Nat → Nat} {a : Nat} : ∀ {b : Nat}, nos pad a b → a ≤ b → c7 pad b = c7 pad a := by
  intro b
  induction b with
  | zero => intro _ h; rw [show a = 0 by omega]
  | succ b ih =>
    intro hn h
    by_cases hz : a = b + 1
    · rw [hz]
    · show cnB _ b + (if is7 pad (b + 1) = true then 1 else 0) = _
      rw [is7_f (fun q hq => hn b (by omega) (by omega) q hq)]
      exact ih (fun j h1 h2 => hn j h1 (by omega)) (by omega)
theorem c7_t {pad : Nat → Nat} {i : Nat} (h : is7 pad (i + 1) = true) : c7 pad (i + 1) = c7 pad i + 1 := cnB_t h
theorem c7_f {pad : Nat → Nat} {i : Nat} (h : is7 pad (i + 1) = false) : c7 pad (i + 1) = c7 pad i := cnB_f h
theorem c7_le {pad : Nat → Nat} {i : Nat} : ∀ {j : Nat}, i ≤ j → c7 pad i ≤ c7 pad j := by
  intro j
  induction j with
  | zero => intro h; rw [show i = 0 by omega]; exact Nat.le_refl _
  | succ j ih =>
    intro h
    by_cases hz : i = j + 1
    · rw [hz]; exact Nat.le_refl _
    · have := ih (by omega)
      have : c7 pad (j + 1) = c7 pad j + (if is7 pad (j + 1) = true then 1 else 0) := rfl
      split at this <;> omega
theorem c7_lt {pad : Nat → Nat} {i j : Nat} (h : i < j) (h7 : is7 pad (i + 1) = true) : c7 pad i < c7 pad j := by
  have := c7_le (pad := pad) (show i + 1 ≤ j from h)
  rw [c7_t h7] at this
  omega
/-- there is a next order -/
theorem c7_next {pad : Nat → Nat} {a : Nat} : ∀ {b : Nat}, a ≤ b → c7 pad a < c7 pad b → ∃ j, a ≤ j ∧ j < b ∧ is7 pad (j + 1) = true ∧ ∀ i, a ≤ i → i < j → is7 pad (i + 1) = false := by
  intro b
  induction b with
  | zero => intro h h2; rw [show a = 0 by omega] at h2; omega
  | succ b ih =>
    intro h h2
    by_cases hz : a = b + 1
    · rw [hz] at h2; omega
    · by_cases hc : c7 pad a < c7 pad b
      · obtain ⟨j, h3, h4, h5, h6⟩ := ih (by omega) hc
        exact ⟨j, h3, by omega, h5, h6⟩
      · have hle := c7_le (pad := pad) (show a ≤ b by omega)
        have e : c7 pad (b + 1) = c7 pad b + (if is7 pad (b + 1) = true then 1 else 0) := rfl
        have h7 : is7 pad (b + 1) = true := by
          cases hh : is7 pad (b + 1) with
          | true => rfl
          | false => rw [hh, if_neg (by decide)] at e; omega
        refine ⟨b, by omega, by omega, h7, fun i h3 h4 => ?_⟩
        cases hh : is7 pad (i + 1) with
        | false => rfl
        | true =>
          have := c7_lt h4 hh
          have := c7_le (pad := pad) h3
          omega
theorem c7_eq0 {pad : Nat → Nat} {a b : Nat} (h : a ≤ b) (hc : c7 pad a = c7 pad b) : ∀ i, a ≤ i → i < b → is7 pad (i + 1) = false := fun i h3 h4 => by
  cases hh : is7 pad (i + 1) with
  | false => rfl
  | true =>
    have := c7_lt h4 hh
    have := c7_le (pad := pad) h3
    omega
def OrdsM (X : gX) (pad : Nat → Nat) (P : Nat) : Prop := ∀ j k f v p, j < P → rn pad (j + 1) = some (7, k, f, v, p) → OrdM X (c7 pad j) k f v p
theorem OrdM.c {X Y : gX} {r k f v p : Nat} (h : OrdM X r k f v p) (e : ∀ j, j < 4 * (r + 1) → Y 209 j = X 209 j) : OrdM Y r k f v p := by
  unfold OrdM at *
  rw [e (4 * r) (by omega), e (4 * r + 1) (by omega), e (4 * r + 2) (by omega), e (4 * r + 3) (by omega)]
  exact h
theorem OrdsM.c {X Y : gX} {pad : Nat → Nat} {P : Nat} (h : OrdsM X pad P) (e : ∀ j, j < 4 * c7 pad P → Y 209 j = X 209 j) : OrdsM Y pad P := fun j k f v p hj hr => (h j k f v p hj hr).c (fun i hi => e i (by
  have := c7_lt hj (is7_t hr rfl)
  omega))
theorem stp7 {q : PSt} (h : q.1 = 7) : stp q 59 = some (0, q.2) := by obtain ⟨e, r⟩ := q; cases h; rfl
theorem stp7n {q : PSt} {c : Nat} (h : q.1 = 7) (hc : ¬ c = 59) : stp q c = none := by obtain ⟨e, r⟩ := q; cases h; simp [stp, hc]
theorem stuck7_of {pad : Nat → Nat} {len P : Nat} {q : PSt} (hl : P < len) (hr : rn pad P = some q) (h7 : q.1 = 7) (hc : ¬ sgn pad len P = 59) : stuck7 pad len P := ⟨hl, q, hr, by
  have e : sgn pad len P = pad P := by unfold sgn; rw [if_pos hl]
  rw [← e]
  exact stp7n h7 hc⟩
theorem nI_ne6 {n : Nat} (h : n < 1073741824) : nI n ≠ -6 := fun z => by
  have := nI_toInt (n := n) (by omega)
  rw [z] at this
  have h6 : (-6 : Int32).toInt = -6 := by decide
  omega
theorem FT.uniq {pad : Nat → Nat} {len : Nat} {r r' : Int32} (h : FT pad len r) (h' : FT pad len r') : r = r' := by
  have key : ∀ P, P ≤ len → (stuck pad len P ∨ stuck7 pad len P) → ∀ Q, P < Q → rn pad Q = none ∨ len < Q := fun P hP hs Q => by
    induction Q with
    | zero => intro h; omega
    | succ Q ih =>
      intro hPQ
      by_cases hz : P = Q
      · subst hz
        by_cases hl : P < len
        · left
          rcases hs with ⟨-, q, hq, -, hn⟩ | ⟨-, q, hq, hn⟩
          · rw [rn_s hq]; exact hn hl
          · rw [rn_s hq]; exact hn
        · right; omega
      · rcases ih (by omega) with h | h
        · left
          show (rn pad Q).bind _ = none
          rw [h]; rfl
        · right; omega
  have some' : ∀ P, (stuck pad len P ∨ stuck7 pad len P) → ∃ q, rn pad P = some q := fun P hs => by
    rcases hs with ⟨-, q, hq, -, -⟩ | ⟨-, q, hq, -⟩
    · exact ⟨q, hq⟩
    · exact ⟨q, hq⟩
  have no : ∀ P, P ≤ len → (stuck pad len P ∨ stuck7 pad len P) → ∀ q, rn pad len = some q → q.1 ≠ 7 := fun P hP hs q hq h7 => by
    by_cases hz : P = len
    · subst hz
      rcases hs with ⟨-, q', hq', h7', -⟩ | ⟨hl, -⟩
      · rw [hq'] at hq; cases hq; exact h7' h7
      · omega
    · rcases key P hP hs len (by omega) with h | h
      · rw [h] at hq; cases hq
      · omega
  rcases h with ⟨P, rfl, hP, hs⟩ | ⟨rfl, q, hq, h7⟩
  · rcases h' with ⟨P', rfl, hP', hs'⟩ | ⟨rfl, q, hq, h7⟩
    · have : P = P' := by
        obtain ⟨q, hq⟩ := some' P hs
        obtain ⟨q', hq'⟩ := some' P' hs'
        rcases Nat.lt_trichotomy P P' with h | h | h
        · rcases key P hP hs P' h with h1 | h1
          · rw [h1] at hq'; cases hq'
          · omega
        · exact h
        · rcases key P' hP' hs' P h with h1 | h1
          · rw [h1] at hq; cases hq
          · omega
      rw [this]
    · exact absurd h7 (no P hP hs q hq)
  · rcases h' with ⟨P', rfl, hP', hs'⟩ | ⟨rfl, q', hq', h7'⟩
    · exact absurd h7 (no P' hP' hs' q hq)
    · rfl
/-- the loop of faultOf -/
def FL (pad : Nat → Nat) (len : Nat) (X : gX) (i : Nat) (Y : gX) : Prop := fR 0 X Y ∧ ∃ P w, PS Y P w ∧ P ≤ len ∧ (w = true → stuck pad len P ∨ stuck7 pad len P) ∧ (w = false → i ≤ P ∧ ∃ q r, rn pad P = some q ∧ q.1 = 7 ∧ Y 201 16 = nI r ∧ r = c7 pad P ∧ 2 * r ≤ P + 1 ∧ OrdsM Y pad P)
theorem FL.one {pad : Nat → Nat} {len P r i : Nat} {X Y Y' : gX} (hf : fR 0 X Y) (h : OneP pad len P r Y Y') (hr : r = c7 pad P) (h2 : 2 * r ≤ P) (hO : OrdsM Y pad P) (hP : P ≤ len) (hi : i ≤ P + 1) : FL pad len X i Y' := by
  obtain ⟨h1, ⟨P', hs, hst⟩ | ⟨P', k, f, v, p, hs, hlt, hle, hrn, h16, hom, hn⟩⟩ := h
  · exact ⟨hf.tr h1 (Nat.zero_le _), P', true, hs, hst.1, fun _ => Or.inl hst, fun z => absurd z (by decide)⟩
  · have e7 : is7 pad P' = true := is7_t hrn rfl
    obtain ⟨Q, rfl⟩ : ∃ Q, P' = Q + 1 := ⟨P' - 1, by omega⟩
    rw [Nat.add_sub_cancel] at hn
    have ec : c7 pad (Q + 1) = r + 1 := by rw [c7_t e7, c7_nos hn (by omega), hr]
    have ecQ : c7 pad Q = r := by rw [c7_nos hn (by omega), hr]
    refine ⟨hf.tr h1 (Nat.zero_le _), Q + 1, false, hs, hle, fun z => absurd z (by decide), fun _ => ⟨by omega, _, r + 1, hrn, rfl, h16, ec.symm, by omega, ?_⟩⟩
    · intro j k' f' v' p' hj hr'
      by_cases hjQ : j = Q
      · subst hjQ
        rw [hrn] at hr'
        cases hr'
        rw [ecQ]
        exact hom
      · by_cases hjP : j < P
        · refine (hO j k' f' v' p' hjP hr').c (fun i hi => h1.2.2 i ?_)
          have := c7_lt hjP (is7_t hr' rfl)
          omega
        · exact absurd rfl (hn j (by omega) (by omega) _ hr')

set_option maxHeartbeats 4000000 in
set_option maxRecDepth 100000 in
theorem c_faultOf {l : Launch} {ad : Nat → Nat} {X : gX} {pad : Nat → Nat} {len : Nat} (hd : PD X pad len) : K_X7_faultOf l ad [.ref 201] X (fun rr X' => FT pad len rr ∧ fR 0 X X' ∧ (rr = -6 → X' 201 16 = nI (c7 pad len) ∧ OrdsM X' pad len)) := by
  refine Ct.of [.ref 201] 0 (by decide +kernel) rfl (Nat.le_of_ble_eq_true rfl) (fun F hl hC hRt _ => ?_)
  subst hl
  have hl80 := hd.2.1
  refine g_aload_0 hC dX7_faultOf_0 (pc' := 1) rfl ?_
  refine g_iconst hC dX7_faultOf_1 (pc' := 2) kc_iconst_0 rfl ?_
  refine g_putI hC fl_X7_168 (sh_M ad) rfl rfl rfl dX7_faultOf_2 (pc' := 5) rfl ?_
  refine g_aload_0 hC dX7_faultOf_5 (pc' := 6) rfl ?_
  refine g_iconst hC dX7_faultOf_6 (pc' := 7) kc_iconst_0 rfl ?_
  refine g_putI hC fl_X7_180 (sh_M ad) rfl rfl rfl dX7_faultOf_7 (pc' := 10) rfl ?_
  refine g_aload_0 hC dX7_faultOf_10 (pc' := 11) rfl ?_
  refine g_iconst hC dX7_faultOf_11 (pc' := 12) kc_iconst_0 rfl ?_
  refine g_putI hC fl_X7_174 (sh_M ad) rfl (by decide +kernel) (by decide +kernel) dX7_faultOf_12 (pc' := 15) rfl ?_
  have f3 : fR 0 X (gu (gu (gu X 201 17 ((nI 0))) 201 16 ((nI 0))) 201 18 ((nI 0))) := ((fR.rf.f (by decide)).f (by decide)).f (by decide)
  refine g_aload_0 hC dX7_faultOf_15 (pc' := 16) rfl ?_
  refine g_callV0V hC (c_readOne (pad := pad) (len := len) (P := 0) (r := 0) (q0 := (0, 0, 0, 0, 0)) (hd.r f3) ⟨(gu_id (by decide)).trans ((gu_id (by decide)).trans gu_at), gu_at⟩ (Nat.zero_le _) rfl rfl ((gu_id (by decide)).trans gu_at) (Nat.zero_le _)) ml_X7_189 (sh_M ad) rfl ⟨(Nat.le_of_ble_eq_true rfl), (Nat.le_of_ble_eq_true rfl)⟩ (Nat.le_of_ble_eq_true rfl) dX7_faultOf_16 (pc' := 19) rfl ⟨Nat.zero_le _, Nat.zero_le _⟩ (fun X16 q16 => ?_)
  have FL0 : FL pad len X 0 X16 := FL.one f3 q16 rfl (Nat.zero_le _) (fun j k f v p hj _ => absurd hj (Nat.not_lt_zero j)) (Nat.zero_le _) (Nat.zero_le _)
  have L19 : ∀ i, i ≤ len + 1 → ∀ Y : gX, FL pad len X i Y → G F (S0 ad) (0, 0) Y 19 [.ref 201] [] := by
    refine up_ind _ (fun i hk19 ih19 => ?_)
    intro Y hm19
    obtain ⟨fX, P, w, sX, hP, hw1, hw0⟩ := hm19
    refine g_aload_0 hC dX7_faultOf_19 (pc' := 20) rfl ?_
    refine g_getI hC fl_X7_174 (sh_M ad) rfl (sX.2) dX7_faultOf_20 (pc' := 23) rfl ?_
    refine g_ifZ_ne hC dX7_faultOf_23 (pc' := 26) (tgt := 79) (by decide) rfl (fun h23 => ?_) (fun h23 => ?_)
    · refine g_aload_0 hC dX7_faultOf_79 (pc' := 80) rfl ?_
      refine g_getI hC fl_X7_174 (sh_M ad) rfl (sX.2) dX7_faultOf_80 (pc' := 83) rfl ?_
      refine g_ifZ_eq hC dX7_faultOf_83 (pc' := 86) (tgt := 93) (by decide) rfl (fun h83 => by rw [h23] at h83; cases h83) (fun h83 => ?_)
      refine g_aload_0 hC dX7_faultOf_86 (pc' := 87) rfl ?_
      refine g_getI hC fl_X7_168 (sh_M ad) rfl (sX.1) dX7_faultOf_87 (pc' := 90) rfl ?_
      refine g_goto hC dX7_faultOf_90 (tgt := 95) (by decide) ?_
      refine g_iretI hC hRt rfl dX7_faultOf_95 ?_
      exact ⟨Or.inl ⟨P, rfl, hP, hw1 h23⟩, fX, fun z => absurd z (nI_ne6 (by omega))⟩
    · have hsl126 := sgn_le (P := P) (hd.r fX)
      obtain ⟨hiP, q, r, hrn, hq7, h16, hrc, h2r, hO⟩ := hw0 h23
      refine g_aload_0 hC dX7_faultOf_26 (pc' := 27) rfl ?_
      refine g_getI hC fl_X7_168 (sh_M ad) rfl (sX.1) dX7_faultOf_27 (pc' := 30) rfl ?_
      refine g_aload_0 hC dX7_faultOf_30 (pc' := 31) rfl ?_
      refine g_getI hC fl_X7_156 (sh_M ad) rfl ((hd.r fX).1) dX7_faultOf_31 (pc' := 34) rfl ?_
      refine g_icmpN_ge hC dX7_faultOf_34 (pc' := 37) (tgt := 79) (by decide) rfl (by omega) (by omega) (fun h34 => ?_) (fun h34 => ?_)
      · refine g_aload_0 hC dX7_faultOf_79 (pc' := 80) rfl ?_
        refine g_getI hC fl_X7_174 (sh_M ad) rfl (sX.2) dX7_faultOf_80 (pc' := 83) rfl ?_
        refine g_ifZ_eq hC dX7_faultOf_83 (pc' := 86) (tgt := 93) (by decide) rfl (fun h83 => ?_) (fun h83 => by rw [h23] at h83; cases h83)
        refine g_bipush hC dX7_faultOf_93 (pc' := 95) kc_bipush_m6 rfl ?_
        refine g_iretI hC hRt rfl dX7_faultOf_95 ?_
        have hPe : P = len := by omega
        subst hPe
        exact ⟨Or.inr ⟨rfl, q, hrn, hq7⟩, fX, fun _ => ⟨h16.trans (congrArg nI hrc), hO⟩⟩
      · refine g_aload_0 hC dX7_faultOf_37 (pc' := 38) rfl ?_
        refine g_aload_0 hC dX7_faultOf_38 (pc' := 39) rfl ?_
        refine g_callV0R hC (c_sign (hd.r fX) sX (by omega)) ml_X7_171 (sh_M ad) rfl ⟨(Nat.le_of_ble_eq_true rfl), (Nat.le_of_ble_eq_true rfl)⟩ (Nat.le_of_ble_eq_true rfl) dX7_faultOf_39 (pc' := 42) rfl ⟨Nat.zero_le _, Nat.zero_le _⟩ ?_
        refine g_bipush hC dX7_faultOf_42 (pc' := 44) kc_bipush_59 rfl ?_
        refine g_icmpN_eq hC dX7_faultOf_44 (pc' := 47) (tgt := 51) (by decide) rfl (by omega) (by omega) (fun h44 => ?_) (fun h44 => ?_)
        · have hne : sgn pad len P ≠ 0 := by omega
          obtain ⟨hPl, hsp⟩ := sgn_lt hne
          have hr1 : rn pad (P + 1) = some (0, q.2) := (rn_s hrn).trans (by rw [← hsp, h44]; exact stp7 hq7)
          have hc1 : c7 pad (P + 1) = c7 pad P := c7_f (is7_f (fun q hq => by rw [hr1] at hq; cases hq; exact (show (0 : Nat) ≠ 7 by decide)))
          refine g_iconst hC dX7_faultOf_51 (pc' := 52) kc_iconst_0 rfl ?_
          refine g_putI hC fl_X7_174 (sh_M ad) rfl (by decide +kernel) (by decide +kernel) dX7_faultOf_52 (pc' := 55) rfl ?_
          refine g_aload_0 hC dX7_faultOf_55 (pc' := 56) rfl ?_
          refine g_getI hC fl_X7_174 (sh_M ad) rfl (gu_at) dX7_faultOf_56 (pc' := 59) rfl ?_
          refine g_ifN_ne hC dX7_faultOf_59 (pc' := 62) (tgt := 19) (by decide) rfl (by omega) (fun h59 => by omega) (fun h59 => ?_)
          refine g_aload_0 hC dX7_faultOf_62 (pc' := 63) rfl ?_
          refine g_dup hC dX7_faultOf_63 (pc' := 64) rfl rfl ?_
          refine g_getI hC fl_X7_168 (sh_M ad) rfl ((gu_id (by decide)).trans sX.1) dX7_faultOf_64 (pc' := 67) rfl ?_
          refine g_iconst hC dX7_faultOf_67 (pc' := 68) kc_iconst_1 rfl ?_
          refine g_iaddN hC dX7_faultOf_68 (pc' := 69) rfl ?_
          refine g_putI hC fl_X7_168 (sh_M ad) rfl rfl rfl dX7_faultOf_69 (pc' := 72) rfl ?_
          have sY : PS (gu (gu Y 201 18 ((nI 0))) 201 17 ((nI (P + 1)))) (P + 1) false := ⟨gu_at, (gu_id (by decide)).trans gu_at⟩
          have fY : fR 0 X (gu (gu Y 201 18 ((nI 0))) 201 17 ((nI (P + 1)))) := (fX.f (by decide)).f (by decide)
          have hOY : OrdsM (gu (gu Y 201 18 ((nI 0))) 201 17 ((nI (P + 1)))) pad (P + 1) := fun j k f v p hj hr => by
            by_cases hjP : j < P
            · exact (hO j k f v p hjP hr).c (fun i _ => (congrFun (gu_ne 209 (by decide)) i).trans (congrFun (gu_ne 209 (by decide)) i))
            · rw [show j = P by omega] at hr
              rw [hr1] at hr
              cases hr
          refine g_aload_0 hC dX7_faultOf_72 (pc' := 73) rfl ?_
          refine g_callV0V hC (c_readOne (pad := pad) (len := len) (P := P + 1) (r := r) (q0 := (0, q.2)) (hd.r fY) sY hPl hr1 rfl ((gu_id (by decide)).trans ((gu_id (by decide)).trans h16)) (by omega)) ml_X7_189 (sh_M ad) rfl ⟨(Nat.le_of_ble_eq_true rfl), (Nat.le_of_ble_eq_true rfl)⟩ (Nat.le_of_ble_eq_true rfl) dX7_faultOf_73 (pc' := 76) rfl ⟨Nat.zero_le _, Nat.zero_le _⟩ (fun X73 q73 => ?_)
          have FL1 : FL pad len X (i + 1) X73 := FL.one fY q73 (hrc.trans hc1.symm) (by omega) hOY hPl (by omega)
          refine g_goto hC dX7_faultOf_76 (tgt := 19) (by decide) ?_
          exact g_weak (ih19 (by first | omega | (have := h34; omega)) _ (by first | exact FL1 | exact ⟨fX.f (by decide), P, true, ⟨(gu_id (by decide)).trans sX.1, gu_at⟩, hP, fun _ => Or.inr hs7, fun z => absurd z (by decide)⟩)) (gle_s gle_nil)
        · have hs7 : stuck7 pad len P := stuck7_of h34 hrn hq7 h44
          refine g_iconst hC dX7_faultOf_47 (pc' := 48) kc_iconst_1 rfl ?_
          refine g_goto hC dX7_faultOf_48 (tgt := 52) (by decide) ?_
          refine g_putI hC fl_X7_174 (sh_M ad) rfl (by decide +kernel) (by decide +kernel) dX7_faultOf_52 (pc' := 55) rfl ?_
          refine g_aload_0 hC dX7_faultOf_55 (pc' := 56) rfl ?_
          refine g_getI hC fl_X7_174 (sh_M ad) rfl (gu_at) dX7_faultOf_56 (pc' := 59) rfl ?_
          refine g_ifN_ne hC dX7_faultOf_59 (pc' := 62) (tgt := 19) (by decide) rfl (by omega) (fun h59 => ?_) (fun h59 => by omega)
          exact g_weak (ih19 (by first | omega | (have := h34; omega)) _ (by first | exact FL1 | exact ⟨fX.f (by decide), P, true, ⟨(gu_id (by decide)).trans sX.1, gu_at⟩, hP, fun _ => Or.inr hs7, fun z => absurd z (by decide)⟩)) (gle_s gle_nil)
  exact g_weak (L19 0 (by exact Nat.zero_le _) _ (by exact FL0)) (gle_s gle_nil)

set_option maxHeartbeats 4000000 in
set_option maxRecDepth 100000 in
theorem c_fault {l : Launch} {ad : Nat → Nat} {X : gX} {pad : Nat → Nat} {len : Nat} (hd : PD X pad len) : K_X7_fault l ad [.ref 201] X (fun rr X' => FT pad len rr ∧ fR 0 X X' ∧ (rr = -6 → X' 201 16 = nI (c7 pad len) ∧ OrdsM X' pad len)) := by
  refine Ct.of [.ref 201] 0 (by decide +kernel) rfl (Nat.le_of_ble_eq_true rfl) (fun F hl hC hRt _ => ?_)
  subst hl
  refine g_aload_0 hC dX7_fault_0 (pc' := 1) rfl ?_
  refine g_callV0I hC (c_faultOf hd) ml_X7_194 (sh_M ad) rfl ⟨(Nat.le_of_ble_eq_true rfl), (Nat.le_of_ble_eq_true rfl)⟩ (Nat.le_of_ble_eq_true rfl) dX7_fault_1 (pc' := 4) rfl ⟨Nat.zero_le _, Nat.zero_le _⟩ (fun v1 X1 q1 => ?_)
  refine g_iretI hC hRt rfl dX7_fault_4 ?_
  exact q1

def okO (g : Nat → Nat) (k f v p : Nat) : Bool := if k = 119 then okWrt g (nI f) (nI v) (nI p) else if k = 115 then okStr g (nI f) (nI p) else okTear g (nI (if k = 116 then 0 else 1))
def gO (g : Nat → Nat) (k f v p : Nat) : Nat → Nat := if k = 119 then wrt g (cl (nI f)) (cl (nI v)) (cl (nI p)) else if k = 115 then str g (cl (nI f)) (cl (nI p)) else gTear g (nI (if k = 116 then 0 else 1))
theorem okStr_iff {g : Nat → Nat} {a p : Int32} (h : okStr g a p = true) : ∃ f q, a = nI f ∧ p = nI q ∧ f ≤ 9 ∧ 1 ≤ q ∧ q ≤ 9 ∧ g 2 < g 3 := by
  simp only [okStr, Bool.and_eq_true, decide_eq_true_eq] at h
  obtain ⟨h1, h3, h4⟩ := h
  obtain ⟨f, rfl, -, hf⟩ := inB_N (by decide) h1 (by decide)
  obtain ⟨q, rfl, hq1, hq⟩ := inB_N (by decide) h3 (by decide)
  exact ⟨f, q, rfl, rfl, hf, hq1, hq, h4⟩
theorem okTear_iff {g : Nat → Nat} {a : Int32} (h : okTear g a = true) : ∃ d, a = nI d ∧ d ≤ 1 ∧ g 2 < g 3 := by
  simp only [okTear, Bool.and_eq_true, decide_eq_true_eq] at h
  obtain ⟨h1, h4⟩ := h
  obtain ⟨f, rfl, -, hf⟩ := inB_N (by decide) h1 (by decide)
  exact ⟨f, rfl, hf, h4⟩
theorem Inv_wrtI {g : Nat → Nat} {a v p : Int32} (hI : Inv g) (h : okWrt g a v p = true) : Inv (wrt g (cl a) (cl v) (cl p)) := by
  obtain ⟨f, w, q, rfl, rfl, rfl, hf, hw, hq1, hq, hst, hfl, -⟩ := okWrt_iff h
  rw [cl_nI (by omega), cl_nI (by omega), cl_nI (by omega)]
  exact Inv_wrt hI ⟨hq1, hq⟩ (by omega) hw hfl
theorem Inv_strI {g : Nat → Nat} {a p : Int32} (hI : Inv g) (h : okStr g a p = true) : Inv (str g (cl a) (cl p)) := by
  obtain ⟨f, q, rfl, rfl, hf, hq1, hq, hst⟩ := okStr_iff h
  rw [cl_nI (by omega), cl_nI (by omega)]
  exact Inv_str hI ⟨hq1, hq⟩ (by omega)
theorem Inv_tearI {g : Nat → Nat} {a : Int32} (hI : Inv g) (h : okTear g a = true) : Inv (gTear g a) := Inv_tear hI (by obtain ⟨d, rfl, hd, h4⟩ := okTear_iff h; exact h4)
theorem Inv_gO {g : Nat → Nat} {k f v p : Nat} (hI : Inv g) (h : okO g k f v p = true) : Inv (gO g k f v p) := by
  unfold okO at h
  unfold gO
  by_cases h1 : k = 119
  · rw [if_pos h1] at h ⊢; exact Inv_wrtI hI h
  · rw [if_neg h1] at h ⊢
    by_cases h2 : k = 115
    · rw [if_pos h2] at h ⊢; exact Inv_strI hI h
    · rw [if_neg h2] at h ⊢; exact Inv_tearI hI h
theorem nI_ge0 {n : Nat} (h : n < 1073741824) : ¬ nI n < 0 := by
  rw [Int32.lt_iff_toInt_lt, nI_toInt (by omega)]
  have : (0 : Int32).toInt = 0 := by decide
  omega
theorem rWrt_ge {g : Nat → Nat} {a v p : Int32} : rWrt g a v p < 0 ↔ okWrt g a v p = false := by
  unfold rWrt
  cases h : okWrt g a v p with
  | true =>
    rw [if_pos rfl]
    have : reach g (cl p) ≤ 5 := cnB_le _ _
    exact ⟨fun z => absurd z (nI_ge0 (by omega)), fun z => by cases z⟩
  | false => rw [if_neg (by decide)]; exact ⟨fun _ => rfl, fun _ => bar_neg h⟩
theorem strN_le {g : Nat → Nat} {f p : Nat} (hI : Inv g) (hf : f < 10) : strN g f p ≤ 40 := by
  refine smN_leB (b := 8) 5 (fun t ht => ?_)
  have := hI.c ht hf
  split
  · exact Nat.le_trans (cnB_le _ _) this
  · omega
theorem rStr_ge {g : Nat → Nat} {a p : Int32} (hI : Inv g) : rStr g a p < 0 ↔ okStr g a p = false := by
  unfold rStr okStr
  cases h1 : inB a (nI 0) (nI 9) with
  | false => first | (simp; done) | (simp; decide)
  | true =>
    cases h2 : inB p (nI 1) (nI 9) with
    | false => first | (simp; done) | (simp; decide)
    | true =>
      by_cases h3 : g 2 < g 3
      · simp only [h3, if_true, Bool.true_and, decide_true, Bool.true_eq_false, iff_false]
        refine nI_ge0 ?_
        obtain ⟨f, rfl, -, hf⟩ := inB_N (by decide) h1 (by decide)
        rw [cl_nI (by omega)]
        exact Nat.lt_of_le_of_lt (strN_le hI (show f < 10 by omega)) (by decide)
      · first | (simp [h3]; done) | (simp [h3]; decide)
theorem rTear_ge {g : Nat → Nat} {a : Int32} (hI : Inv g) : rTear g a < 0 ↔ okTear g a = false := by
  have h0 := hI.1
  unfold rTear okTear
  cases h1 : inB a (nI 0) (nI 1) with
  | false => first | (simp; done) | (simp; decide)
  | true =>
    by_cases h3 : g 2 < g 3
    · simp only [h3, if_true, Bool.true_and, decide_true, Bool.true_eq_false, iff_false]
      split
      · exact nI_ge0 (by omega)
      · rw [lI_pos (by omega)]; exact nI_ge0 (by omega)
    · first | (simp [h3]; done) | (simp [h3]; decide)
/-- the orders up to a place carried out -/
def cst (pad : Nat → Nat) (g : Nat → Nat) : Nat → (Nat → Nat) × Nat × Bool
  | 0 => (g, 0, false)
  | i + 1 => if (cst pad g i).2.2 = true then cst pad g i else match rn pad (i + 1) with
    | some (7, k, f, v, p) => if okO (cst pad g i).1 k f v p = true then (gO (cst pad g i).1 k f v p, (cst pad g i).2.1 + 1, false) else ((cst pad g i).1, (cst pad g i).2.1, true)
    | _ => cst pad g i
theorem cst_st {pad : Nat → Nat} {g : Nat → Nat} {a : Nat} (h : (cst pad g a).2.2 = true) : ∀ {b : Nat}, a ≤ b → cst pad g b = cst pad g a := by
  intro b
  induction b with
  | zero => intro hb; rw [show a = 0 by omega]
  | succ b ih =>
    intro hb
    by_cases hz : a = b + 1
    · rw [hz]
    · have e := ih (by omega)
      show (if (cst pad g b).2.2 = true then cst pad g b else _) = _
      rw [if_pos (by rw [e]; exact h), e]
theorem cst_n {pad : Nat → Nat} {g : Nat → Nat} {i : Nat} (h : is7 pad (i + 1) = false) : cst pad g (i + 1) = cst pad g i := by
  show (if (cst pad g i).2.2 = true then cst pad g i else _) = _
  by_cases hs : (cst pad g i).2.2 = true
  · rw [if_pos hs]
  · rw [if_neg hs]
    split
    · rename_i k f v p hr
      rw [is7_t hr rfl] at h
      cases h
    · rfl
theorem cst_ns {pad : Nat → Nat} {g : Nat → Nat} {a : Nat} : ∀ {b : Nat}, a ≤ b → (∀ i, a ≤ i → i < b → is7 pad (i + 1) = false) → cst pad g b = cst pad g a := by
  intro b
  induction b with
  | zero => intro hb _; rw [show a = 0 by omega]
  | succ b ih =>
    intro hb h
    by_cases hz : a = b + 1
    · rw [hz]
    · rw [cst_n (h b (by omega) (by omega))]
      exact ih (by omega) (fun i h1 h2 => h i h1 (by omega))
theorem cst_o {pad : Nat → Nat} {g : Nat → Nat} {i k f v p : Nat} (hs : (cst pad g i).2.2 = false) (hr : rn pad (i + 1) = some (7, k, f, v, p)) : cst pad g (i + 1) = if okO (cst pad g i).1 k f v p = true then (gO (cst pad g i).1 k f v p, (cst pad g i).2.1 + 1, false) else ((cst pad g i).1, (cst pad g i).2.1, true) := by
  show (if (cst pad g i).2.2 = true then cst pad g i else _) = _
  rw [if_neg (by rw [hs]; decide), hr]
  rfl
theorem Inv_cst {pad : Nat → Nat} {g : Nat → Nat} (hI : Inv g) : ∀ i, Inv (cst pad g i).1 := by
  intro i
  induction i with
  | zero => exact hI
  | succ i ih =>
    show Inv (if (cst pad g i).2.2 = true then cst pad g i else _).1
    split
    · exact ih
    · split
      · split
        · exact Inv_gO ih ‹_›
        · exact ih
      · exact ih
theorem cst_le {pad : Nat → Nat} {g : Nat → Nat} : ∀ i, (cst pad g i).2.1 ≤ i := by
  intro i
  induction i with
  | zero => exact Nat.le_refl _
  | succ i ih =>
    show (if (cst pad g i).2.2 = true then cst pad g i else _).2.1 ≤ _
    split
    · omega
    · split
      · split
        · show (cst pad g i).2.1 + 1 ≤ _; omega
        · show (cst pad g i).2.1 ≤ _; omega
      · omega

set_option maxHeartbeats 4000000 in
set_option maxRecDepth 100000 in
theorem c_carry119 {l : Launch} {ad : Nat → Nat} {X : gX} {n : Nat} {h : Nat → Nat → Nat} {g : Nat → Nat} {r f v p : Nat} (hm : MR X g n h true) (hI : Inv g) (hO : OrdM X r 119 f v p) (hr : r ≤ 79) : K_X7_carry l ad [.ref 201, .int (nI (4 * r))] X (fun rr X' => (rr < 0 ↔ okO g 119 f v p = false) ∧ MRc X' (okO g 119 f v p) g (gO g 119 f v p) n h true ∧ fW X X') := by
  refine Ct.of [.ref 201, .int (nI (4 * r))] 0 (by decide +kernel) rfl (Nat.le_of_ble_eq_true rfl) (fun F hl hC hRt _ => ?_)
  subst hl
  obtain ⟨o0, oW, -, -⟩ := hO
  obtain ⟨o1, o2, o3⟩ := oW rfl
  refine g_aload_0 hC dX7_carry_0 (pc' := 1) rfl ?_
  refine g_getR hC fl_X7_32 (sh_M ad) rfl dX7_carry_1 (pc' := 4) rfl ?_
  refine g_iload_1 hC dX7_carry_4 (pc' := 5) rfl ?_
  refine g_iald hC (sh_morders ad) (Nat.le_of_ble_eq_true rfl) (by omega) (o0) dX7_carry_5 (pc' := 6) rfl ?_
  refine g_lookN hC dX7_carry_6 (by decide) (by decide) (off := 26) (by decide) (tgt := 32) (by decide) ?_
  refine g_aload_0 hC dX7_carry_32 (pc' := 33) rfl ?_
  refine g_aload_0 hC dX7_carry_33 (pc' := 34) rfl ?_
  refine g_getR hC fl_X7_32 (sh_M ad) rfl dX7_carry_34 (pc' := 37) rfl ?_
  refine g_iload_1 hC dX7_carry_37 (pc' := 38) rfl ?_
  refine g_iconst hC dX7_carry_38 (pc' := 39) kc_iconst_1 rfl ?_
  refine g_iaddN hC dX7_carry_39 (pc' := 40) rfl ?_
  refine g_iald hC (sh_morders ad) (Nat.le_of_ble_eq_true rfl) (by omega) (o1) dX7_carry_40 (pc' := 41) rfl ?_
  refine g_aload_0 hC dX7_carry_41 (pc' := 42) rfl ?_
  refine g_getR hC fl_X7_32 (sh_M ad) rfl dX7_carry_42 (pc' := 45) rfl ?_
  refine g_iload_1 hC dX7_carry_45 (pc' := 46) rfl ?_
  refine g_iconst hC dX7_carry_46 (pc' := 47) kc_iconst_2 rfl ?_
  refine g_iaddN hC dX7_carry_47 (pc' := 48) rfl ?_
  refine g_iald hC (sh_morders ad) (Nat.le_of_ble_eq_true rfl) (by omega) (o2) dX7_carry_48 (pc' := 49) rfl ?_
  refine g_aload_0 hC dX7_carry_49 (pc' := 50) rfl ?_
  refine g_getR hC fl_X7_32 (sh_M ad) rfl dX7_carry_50 (pc' := 53) rfl ?_
  refine g_iload_1 hC dX7_carry_53 (pc' := 54) rfl ?_
  refine g_iconst hC dX7_carry_54 (pc' := 55) kc_iconst_3 rfl ?_
  refine g_iaddN hC dX7_carry_55 (pc' := 56) rfl ?_
  refine g_iald hC (sh_morders ad) (Nat.le_of_ble_eq_true rfl) (by omega) (o3) dX7_carry_56 (pc' := 57) rfl ?_
  refine g_callV3I hC (c_write hm hI) ml_X7_197 (sh_M ad) rfl ⟨(Nat.le_of_ble_eq_true rfl), (Nat.le_of_ble_eq_true rfl)⟩ (Nat.le_of_ble_eq_true rfl) dX7_carry_57 (pc' := 60) rfl ⟨Nat.zero_le _, Nat.zero_le _⟩ (fun v57 X57 q57 => ?_)
  refine g_iretI hC hRt rfl dX7_carry_60 ?_
  obtain ⟨rfl, m57, f57⟩ := q57
  exact ⟨rWrt_ge, m57, f57⟩

set_option maxHeartbeats 4000000 in
set_option maxRecDepth 100000 in
theorem c_carry115 {l : Launch} {ad : Nat → Nat} {X : gX} {n : Nat} {h : Nat → Nat → Nat} {g : Nat → Nat} {r f v p : Nat} (hm : MR X g n h true) (hI : Inv g) (hO : OrdM X r 115 f v p) (hr : r ≤ 79) : K_X7_carry l ad [.ref 201, .int (nI (4 * r))] X (fun rr X' => (rr < 0 ↔ okO g 115 f v p = false) ∧ MRc X' (okO g 115 f v p) g (gO g 115 f v p) n h true ∧ fW X X') := by
  refine Ct.of [.ref 201, .int (nI (4 * r))] 0 (by decide +kernel) rfl (Nat.le_of_ble_eq_true rfl) (fun F hl hC hRt _ => ?_)
  subst hl
  obtain ⟨o0, -, oS, -⟩ := hO
  obtain ⟨o1, o3⟩ := oS rfl
  refine g_aload_0 hC dX7_carry_0 (pc' := 1) rfl ?_
  refine g_getR hC fl_X7_32 (sh_M ad) rfl dX7_carry_1 (pc' := 4) rfl ?_
  refine g_iload_1 hC dX7_carry_4 (pc' := 5) rfl ?_
  refine g_iald hC (sh_morders ad) (Nat.le_of_ble_eq_true rfl) (by omega) (o0) dX7_carry_5 (pc' := 6) rfl ?_
  refine g_lookN hC dX7_carry_6 (by decide) (by decide) (off := 55) (by decide) (tgt := 61) (by decide) ?_
  refine g_aload_0 hC dX7_carry_61 (pc' := 62) rfl ?_
  refine g_aload_0 hC dX7_carry_62 (pc' := 63) rfl ?_
  refine g_getR hC fl_X7_32 (sh_M ad) rfl dX7_carry_63 (pc' := 66) rfl ?_
  refine g_iload_1 hC dX7_carry_66 (pc' := 67) rfl ?_
  refine g_iconst hC dX7_carry_67 (pc' := 68) kc_iconst_1 rfl ?_
  refine g_iaddN hC dX7_carry_68 (pc' := 69) rfl ?_
  refine g_iald hC (sh_morders ad) (Nat.le_of_ble_eq_true rfl) (by omega) (o1) dX7_carry_69 (pc' := 70) rfl ?_
  refine g_aload_0 hC dX7_carry_70 (pc' := 71) rfl ?_
  refine g_getR hC fl_X7_32 (sh_M ad) rfl dX7_carry_71 (pc' := 74) rfl ?_
  refine g_iload_1 hC dX7_carry_74 (pc' := 75) rfl ?_
  refine g_iconst hC dX7_carry_75 (pc' := 76) kc_iconst_3 rfl ?_
  refine g_iaddN hC dX7_carry_76 (pc' := 77) rfl ?_
  refine g_iald hC (sh_morders ad) (Nat.le_of_ble_eq_true rfl) (by omega) (o3) dX7_carry_77 (pc' := 78) rfl ?_
  refine g_callV2I hC (c_strike hm hI) ml_X7_200 (sh_M ad) rfl ⟨(Nat.le_of_ble_eq_true rfl), (Nat.le_of_ble_eq_true rfl)⟩ (Nat.le_of_ble_eq_true rfl) dX7_carry_78 (pc' := 81) rfl ⟨Nat.zero_le _, Nat.zero_le _⟩ (fun v78 X78 q78 => ?_)
  refine g_iretI hC hRt rfl dX7_carry_81 ?_
  obtain ⟨rfl, m78, f78⟩ := q78
  exact ⟨rStr_ge hI, m78, f78⟩

set_option maxHeartbeats 4000000 in
set_option maxRecDepth 100000 in
theorem c_carry116 {l : Launch} {ad : Nat → Nat} {X : gX} {n : Nat} {h : Nat → Nat → Nat} {g : Nat → Nat} {r f v p : Nat} (hm : MR X g n h true) (hI : Inv g) (hO : OrdM X r 116 f v p) (hr : r ≤ 79) : K_X7_carry l ad [.ref 201, .int (nI (4 * r))] X (fun rr X' => (rr < 0 ↔ okO g 116 f v p = false) ∧ MRc X' (okO g 116 f v p) g (gO g 116 f v p) n h true ∧ fW X X') := by
  refine Ct.of [.ref 201, .int (nI (4 * r))] 0 (by decide +kernel) rfl (Nat.le_of_ble_eq_true rfl) (fun F hl hC hRt _ => ?_)
  subst hl
  obtain ⟨o0, -, -, -⟩ := hO
  refine g_aload_0 hC dX7_carry_0 (pc' := 1) rfl ?_
  refine g_getR hC fl_X7_32 (sh_M ad) rfl dX7_carry_1 (pc' := 4) rfl ?_
  refine g_iload_1 hC dX7_carry_4 (pc' := 5) rfl ?_
  refine g_iald hC (sh_morders ad) (Nat.le_of_ble_eq_true rfl) (by omega) (o0) dX7_carry_5 (pc' := 6) rfl ?_
  refine g_lookN hC dX7_carry_6 (by decide) (by decide) (off := 76) (by decide) (tgt := 82) (by decide) ?_
  refine g_aload_0 hC dX7_carry_82 (pc' := 83) rfl ?_
  refine g_aload_0 hC dX7_carry_83 (pc' := 84) rfl ?_
  refine g_getR hC fl_X7_32 (sh_M ad) rfl dX7_carry_84 (pc' := 87) rfl ?_
  refine g_iload_1 hC dX7_carry_87 (pc' := 88) rfl ?_
  refine g_iald hC (sh_morders ad) (Nat.le_of_ble_eq_true rfl) (by omega) (o0) dX7_carry_88 (pc' := 89) rfl ?_
  refine g_bipush hC dX7_carry_89 (pc' := 91) kc_bipush_116 rfl ?_
  refine g_icmpN_ne hC dX7_carry_91 (pc' := 94) (tgt := 98) (by decide) rfl (by omega) (by omega) (fun h91 => by omega) (fun h91 => ?_)
  refine g_iconst hC dX7_carry_94 (pc' := 95) kc_iconst_0 rfl ?_
  refine g_goto hC dX7_carry_95 (tgt := 99) (by decide) ?_
  refine g_callV1I hC (c_tear hm hI) ml_X7_203 (sh_M ad) rfl ⟨(Nat.le_of_ble_eq_true rfl), (Nat.le_of_ble_eq_true rfl)⟩ (Nat.le_of_ble_eq_true rfl) dX7_carry_99 (pc' := 102) rfl ⟨Nat.zero_le _, Nat.zero_le _⟩ (fun v99 X99 q99 => ?_)
  refine g_iretI hC hRt rfl dX7_carry_102 ?_
  obtain ⟨rfl, m99, f99⟩ := q99
  exact ⟨rTear_ge hI, m99, f99⟩

set_option maxHeartbeats 4000000 in
set_option maxRecDepth 100000 in
theorem c_carry98 {l : Launch} {ad : Nat → Nat} {X : gX} {n : Nat} {h : Nat → Nat → Nat} {g : Nat → Nat} {r f v p : Nat} (hm : MR X g n h true) (hI : Inv g) (hO : OrdM X r 98 f v p) (hr : r ≤ 79) : K_X7_carry l ad [.ref 201, .int (nI (4 * r))] X (fun rr X' => (rr < 0 ↔ okO g 98 f v p = false) ∧ MRc X' (okO g 98 f v p) g (gO g 98 f v p) n h true ∧ fW X X') := by
  refine Ct.of [.ref 201, .int (nI (4 * r))] 0 (by decide +kernel) rfl (Nat.le_of_ble_eq_true rfl) (fun F hl hC hRt _ => ?_)
  subst hl
  obtain ⟨o0, -, -, -⟩ := hO
  refine g_aload_0 hC dX7_carry_0 (pc' := 1) rfl ?_
  refine g_getR hC fl_X7_32 (sh_M ad) rfl dX7_carry_1 (pc' := 4) rfl ?_
  refine g_iload_1 hC dX7_carry_4 (pc' := 5) rfl ?_
  refine g_iald hC (sh_morders ad) (Nat.le_of_ble_eq_true rfl) (by omega) (o0) dX7_carry_5 (pc' := 6) rfl ?_
  refine g_lookN hC dX7_carry_6 (by decide) (by decide) (off := 76) (by decide) (tgt := 82) (by decide) ?_
  refine g_aload_0 hC dX7_carry_82 (pc' := 83) rfl ?_
  refine g_aload_0 hC dX7_carry_83 (pc' := 84) rfl ?_
  refine g_getR hC fl_X7_32 (sh_M ad) rfl dX7_carry_84 (pc' := 87) rfl ?_
  refine g_iload_1 hC dX7_carry_87 (pc' := 88) rfl ?_
  refine g_iald hC (sh_morders ad) (Nat.le_of_ble_eq_true rfl) (by omega) (o0) dX7_carry_88 (pc' := 89) rfl ?_
  refine g_bipush hC dX7_carry_89 (pc' := 91) kc_bipush_116 rfl ?_
  refine g_icmpN_ne hC dX7_carry_91 (pc' := 94) (tgt := 98) (by decide) rfl (by omega) (by omega) (fun h91 => ?_) (fun h91 => by omega)
  refine g_iconst hC dX7_carry_98 (pc' := 99) kc_iconst_1 rfl ?_
  refine g_callV1I hC (c_tear hm hI) ml_X7_203 (sh_M ad) rfl ⟨(Nat.le_of_ble_eq_true rfl), (Nat.le_of_ble_eq_true rfl)⟩ (Nat.le_of_ble_eq_true rfl) dX7_carry_99 (pc' := 102) rfl ⟨Nat.zero_le _, Nat.zero_le _⟩ (fun v99 X99 q99 => ?_)
  refine g_iretI hC hRt rfl dX7_carry_102 ?_
  obtain ⟨rfl, m99, f99⟩ := q99
  exact ⟨rTear_ge hI, m99, f99⟩

theorem c_carry {l : Launch} {ad : Nat → Nat} {X : gX} {n : Nat} {h : Nat → Nat → Nat} {g : Nat → Nat} {r k f v p : Nat} (hm : MR X g n h true) (hI : Inv g) (hO : OrdM X r k f v p) (hr : r ≤ 79) : K_X7_carry l ad [.ref 201, .int (nI (4 * r))] X (fun rr X' => (rr < 0 ↔ okO g k f v p = false) ∧ MRc X' (okO g k f v p) g (gO g k f v p) n h true ∧ fW X X') := by
  rcases hO.2.2.2 with rfl | rfl | rfl | rfl
  · exact c_carry119 hm hI hO hr
  · exact c_carry115 hm hI hO hr
  · exact c_carry116 hm hI hO hr
  · exact c_carry98 hm hI hO hr

def fC (X X' : gX) : Prop := ∀ i, i ≠ 201 → i ≠ 202 → i ≠ 204 → i ≠ 208 → i ≠ 209 → X' i = X i
theorem fC.r {r : Nat} {X Y : gX} (h : fR r X Y) : fC X Y := fun i a _ _ _ e => h.1 i a e
theorem fC.w {X Y : gX} (h : fW X Y) : fC X Y := fun i a b c d _ => h.1 i a b c d
theorem fC.tr {X Y W : gX} (h : fC X Y) (h2 : fC Y W) : fC X W := fun i a b c d e => (h2 i a b c d e).trans (h i a b c d e)
theorem fC.f {X Y : gX} {j : Nat} {v : Int32} (h : fC X Y) : fC X (gu Y 201 j v) := fun i a b c d e => (gu_ne i a).trans (h i a b c d e)
theorem MR.r {X Y : gX} {g : Nat → Nat} {n r : Nat} {h : Nat → Nat → Nat} {b : Bool} (m : MR X g n h b) (f : fR r X Y) : MR Y g n h b :=
  ⟨m.1.of (f.1 202 (by decide) (by decide)), (f.2.1 3 (by decide)).trans m.2.1, m.2.2.1, fun i j hi hj => by rw [f.1 204 (by decide) (by decide)]; exact m.2.2.2.1 i j hi hj, (f.2.1 8 (by decide)).trans m.2.2.2.2⟩
theorem MR.f {X : gX} {g : Nat → Nat} {n : Nat} {h : Nat → Nat → Nat} {b : Bool} (m : MR X g n h b) {j : Nat} {v : Int32} (h3 : j ≠ 3) (h8 : j ≠ 8) : MR (gu X 201 j v) g n h b :=
  ⟨m.1.of (gu_ne 202 (by decide)), (gu_id (fun z => h3 z.symm)).trans m.2.1, m.2.2.1, fun i j hi hj => by rw [gu_ne 204 (by decide)]; exact m.2.2.2.1 i j hi hj, (gu_id (fun z => h8 z.symm)).trans m.2.2.2.2⟩
theorem MR.b {X : gX} {g : Nat → Nat} {n : Nat} {h : Nat → Nat → Nat} {b b' : Bool} {v : Int32} (m : MR X g n h b) (hv : v = zI b') : MR (gu X 201 8 v) g n h b' :=
  ⟨m.1.of (gu_ne 202 (by decide)), (gu_id (by decide)).trans m.2.1, m.2.2.1, fun i j hi hj => by rw [gu_ne 204 (by decide)]; exact m.2.2.2.1 i j hi hj, gu_at.trans hv⟩
def rCO (pad : Nat → Nat) (len : Nat) (g : Nat → Nat) : Int32 := if is7 pad len = true then nI (cst pad g len).2.1 else -3
/-- the loop of carryOut: i orders are behind it, at P -/
def CL (pad : Nat → Nat) (len : Nat) (g : Nat → Nat) (X : gX) (n : Nat) (h : Nat → Nat → Nat) (i : Nat) (Y : gX) : Prop := fC X Y ∧ OrdsM Y pad len ∧ Y 201 16 = nI (c7 pad len) ∧ ∃ P, P ≤ len ∧ c7 pad P = i ∧ (cst pad g P).2.2 = false ∧ (cst pad g P).2.1 = i ∧ MR Y (cst pad g P).1 n h true
theorem OrdsM.w {X Y : gX} {pad : Nat → Nat} {P : Nat} (h : OrdsM X pad P) (f : fW X Y) : OrdsM Y pad P := h.c (fun i _ => by rw [f.1 209 (by decide) (by decide) (by decide) (by decide)])

set_option maxHeartbeats 4000000 in
set_option maxRecDepth 100000 in
theorem c_carryOut {l : Launch} {ad : Nat → Nat} {X : gX} {n len : Nat} {pad : Nat → Nat} {h : Nat → Nat → Nat} {g : Nat → Nat} (hd : PD X pad len) (hm : MR X g n h false) (hI : Inv g) : K_X7_carryOut l ad [.ref 201] X (fun rr X' => rr = rCO pad len g ∧ MRc X' (is7 pad len) g (cst pad g len).1 n h false ∧ PD X' pad (if is7 pad len = true then 0 else len) ∧ fC X X') := by
  refine Ct.of [.ref 201, .null] 1 (by decide +kernel) rfl (Nat.le_of_ble_eq_true rfl) (fun F hl hC hRt _ => ?_)
  subst hl
  have hl80 := hd.2.1
  have hc81 : c7 pad len ≤ len := cnB_le _ _
  have hc80 : c7 pad len ≤ 80 := Nat.le_trans (cnB_le _ _) hl80
  refine g_aload_0 hC dX7_carryOut_0 (pc' := 1) rfl ?_
  refine g_callV0I hC (c_faultOf hd) ml_X7_194 (sh_M ad) rfl ⟨(Nat.le_of_ble_eq_true rfl), (Nat.le_of_ble_eq_true rfl)⟩ (Nat.le_of_ble_eq_true rfl) dX7_carryOut_1 (pc' := 4) rfl ⟨Nat.zero_le _, Nat.zero_le _⟩ (fun v1 X1 q1 => ?_)
  obtain ⟨t1, f1, o1⟩ := q1
  have m1 := hm.r f1
  refine g_bipush hC dX7_carryOut_4 (pc' := 6) kc_bipush_m6 rfl ?_
  refine g_icmp_eq hC dX7_carryOut_6 (pc' := 9) (tgt := 12) (by decide) rfl (fun h6 => ?_) (fun h6 => ?_)
  · obtain ⟨h16, hO1⟩ := o1 h6
    have h7 : is7 pad len = true := by
      rcases t1 with ⟨P, rfl, hP, -⟩ | ⟨-, q, hq, hq7⟩
      · exact absurd h6 (nI_ne6 (by omega))
      · exact is7_t hq hq7
    refine g_aload_0 hC dX7_carryOut_12 (pc' := 13) rfl ?_
    refine g_callV0V hC (c_record m1 hI) ml_X7_47 (sh_M ad) rfl ⟨(Nat.le_of_ble_eq_true rfl), (Nat.le_of_ble_eq_true rfl)⟩ (Nat.le_of_ble_eq_true rfl) dX7_carryOut_13 (pc' := 16) rfl ⟨Nat.zero_le _, Nat.zero_le _⟩ (fun X13 q13 => ?_)
    obtain ⟨m13, f13⟩ := q13
    refine g_aload_0 hC dX7_carryOut_16 (pc' := 17) rfl ?_
    refine g_iconst hC dX7_carryOut_17 (pc' := 18) kc_iconst_1 rfl ?_
    refine g_putI hC fl_X7_35 (sh_M ad) rfl (by decide +kernel) (by decide +kernel) dX7_carryOut_18 (pc' := 21) rfl ?_
    refine g_iconst hC dX7_carryOut_21 (pc' := 22) kc_iconst_0 rfl ?_
    refine g_istore_1 hC dX7_carryOut_22 (pc' := 23) rfl (Nat.le_of_ble_eq_true rfl) rfl ?_
    have L23 : ∀ i, i ≤ len → ∀ Y : gX, CL pad len g X (recN false n) (recH false h n g) i Y → G F (S0 ad) (0, 0) Y 23 [.ref 201, .int (nI i)] [] := by
      refine up_ind _ (fun i hk23 ih23 => ?_)
      intro Y hm23
      obtain ⟨fc, hO, h16Y, P, hPl, hci, hsP, hnP, hmP⟩ := hm23
      refine g_iload_1 hC dX7_carryOut_23 (pc' := 24) rfl ?_
      refine g_aload_0 hC dX7_carryOut_24 (pc' := 25) rfl ?_
      refine g_getI hC fl_X7_180 (sh_M ad) rfl (h16Y) dX7_carryOut_25 (pc' := 28) rfl ?_
      refine g_icmpN_ge hC dX7_carryOut_28 (pc' := 31) (tgt := 47) (by decide) rfl (by omega) (by omega) (fun h28 => ?_) (fun h28 => ?_)
      · have hc7 : c7 pad P = c7 pad len := by have := c7_le (pad := pad) hPl; omega
        have he : cst pad g len = cst pad g P := cst_ns hPl (c7_eq0 hPl hc7)
        refine g_aload_0 hC dX7_carryOut_47 (pc' := 48) rfl ?_
        refine g_iconst hC dX7_carryOut_48 (pc' := 49) kc_iconst_0 rfl ?_
        refine g_putI hC fl_X7_35 (sh_M ad) rfl (by decide +kernel) (by decide +kernel) dX7_carryOut_49 (pc' := 52) rfl ?_
        refine g_aload_0 hC dX7_carryOut_52 (pc' := 53) rfl ?_
        refine g_iconst hC dX7_carryOut_53 (pc' := 54) kc_iconst_0 rfl ?_
        refine g_putI hC fl_X7_156 (sh_M ad) rfl rfl rfl dX7_carryOut_54 (pc' := 57) rfl ?_
        refine g_iload_1 hC dX7_carryOut_57 (pc' := 58) rfl ?_
        refine g_iretI hC hRt rfl dX7_carryOut_58 ?_
        exact ⟨by rw [rCO, h7, if_pos rfl, he, hnP], MRc_t h7 (by rw [he]; exact MR.f (j := 7) (hmP.b zI_f.symm) (by decide) (by decide)), by rw [h7]; exact ⟨gu_at, Nat.zero_le _, fun i hi => absurd hi (Nat.not_lt_zero i)⟩, fc.f.f⟩
      · obtain ⟨j, hPj, hjl, h7j, hnj⟩ := c7_next hPl (show c7 pad P < c7 pad len by omega)
        have hcj : c7 pad j = i := by rw [← hci]; exact (cnB_rest hPj hnj)
        have hej : cst pad g j = cst pad g P := cst_ns hPj hnj
        obtain ⟨⟨q0, k, f, v, p⟩, hrj, hq7⟩ := is7_q h7j
        have hq7 : q0 = 7 := hq7
        subst hq7
        have mZ : MR Y (cst pad g j).1 (recN false n) (recH false h n g) true := by rw [hej]; exact hmP
        rw [← hcj]
        refine g_aload_0 hC dX7_carryOut_31 (pc' := 32) rfl ?_
        refine g_iconst hC dX7_carryOut_32 (pc' := 33) kc_iconst_4 rfl ?_
        refine g_iload_1 hC dX7_carryOut_33 (pc' := 34) rfl ?_
        refine g_imulN hC dX7_carryOut_34 (pc' := 35) rfl ?_
        refine g_callV1I hC (c_carry mZ (Inv_cst hI j) (hO j k f v p hjl hrj) (by rw [hcj]; omega)) ml_X7_206 (sh_M ad) rfl ⟨(Nat.le_of_ble_eq_true rfl), (Nat.le_of_ble_eq_true rfl)⟩ (Nat.le_of_ble_eq_true rfl) dX7_carryOut_35 (pc' := 38) rfl ⟨Nat.zero_le _, Nat.zero_le _⟩ (fun v35 X35 q35 => ?_)
        obtain ⟨t35, m35, f35⟩ := q35
        refine g_if_lt hC dX7_carryOut_38 (pc' := 41) (tgt := 47) (by decide) rfl (fun h38 => ?_) (fun h38 => ?_)
        · have hno := t35.mp h38
          have ec := cst_o (g := g) (by rw [hej]; exact hsP) hrj
          rw [if_neg (by rw [hno]; decide)] at ec
          have he := cst_st (g := g) (by rw [ec]) (show j + 1 ≤ len from hjl)
          rw [ec] at he
          unfold MRc at m35
          rw [if_neg (by rw [hno]; decide)] at m35
          refine g_aload_0 hC dX7_carryOut_47 (pc' := 48) rfl ?_
          refine g_iconst hC dX7_carryOut_48 (pc' := 49) kc_iconst_0 rfl ?_
          refine g_putI hC fl_X7_35 (sh_M ad) rfl (by decide +kernel) (by decide +kernel) dX7_carryOut_49 (pc' := 52) rfl ?_
          refine g_aload_0 hC dX7_carryOut_52 (pc' := 53) rfl ?_
          refine g_iconst hC dX7_carryOut_53 (pc' := 54) kc_iconst_0 rfl ?_
          refine g_putI hC fl_X7_156 (sh_M ad) rfl rfl rfl dX7_carryOut_54 (pc' := 57) rfl ?_
          refine g_iload_1 hC dX7_carryOut_57 (pc' := 58) rfl ?_
          refine g_iretI hC hRt rfl dX7_carryOut_58 ?_
          exact ⟨by rw [rCO, h7, if_pos rfl, he]; show _ = nI (cst pad g j).2.1; rw [hej, hnP, ← hcj], MRc_t h7 (by rw [he]; exact MR.f (j := 7) (m35.b zI_f.symm) (by decide) (by decide)), by rw [h7]; exact ⟨gu_at, Nat.zero_le _, fun i hi => absurd hi (Nat.not_lt_zero i)⟩, (fc.tr (fC.w f35)).f.f⟩
        · have hok : okO (cst pad g j).1 k f v p = true := by
            cases hz : okO (cst pad g j).1 k f v p with
            | true => rfl
            | false => exact absurd (t35.mpr hz) h38
          have ec := cst_o (g := g) (by rw [hej]; exact hsP) hrj
          rw [if_pos hok] at ec
          have CLs : CL pad len g X (recN false n) (recH false h n g) (c7 pad j + 1) X35 := ⟨fc.tr (fC.w f35), hO.w f35, (f35.2 16 (by decide)).trans h16Y, j + 1, hjl, c7_t h7j, by rw [ec], by rw [ec, hej, hnP, ← hcj], by rw [ec]; unfold MRc at m35; rw [if_pos hok] at m35; exact m35⟩
          refine g_iinc_1 hC dX7_carryOut_41 (pc' := 44) rfl (Nat.le_of_ble_eq_true rfl) rfl (nI_inc _ _ kc_iinc_1) ?_
          refine g_goto hC dX7_carryOut_44 (tgt := 23) (by decide) ?_
          exact g_weak (ih23 (by omega) _ (by exact (by first | exact CLs | (rw [hcj] at CLs; exact CLs)))) (gle_s (gle_i (by first | rfl | rw [hcj]) gle_nil))
    exact g_weak (L23 0 (by exact Nat.zero_le _) _ (by exact ⟨((fC.r f1).tr (fC.w f13)).f, (hO1.w f13).c (fun i _ => by rw [gu_ne 209 (by decide)]), (gu_id (by decide)).trans ((f13.2 16 (by decide)).trans h16), 0, Nat.zero_le _, rfl, rfl, rfl, m13.b rfl⟩)) (gle_s (gle_s gle_nil))
  · have h7 : is7 pad len = false := by
      refine is7_f (fun q hq hq7 => ?_)
      exact h6 (FT.uniq t1 (Or.inr ⟨rfl, q, hq, hq7⟩))
    refine g_bipush hC dX7_carryOut_9 (pc' := 11) kc_bipush_m3 rfl ?_
    refine g_iretI hC hRt rfl dX7_carryOut_11 ?_
    exact ⟨by rw [rCO, h7]; rfl, by rw [h7]; exact m1, by rw [h7]; exact hd.r f1, fC.r f1⟩
