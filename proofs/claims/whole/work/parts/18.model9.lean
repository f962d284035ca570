/-- only scratch is touched -/
def fS (X X' : gX) : Prop := (∀ i, i ≠ 201 → i ≠ 202 → i ≠ 203 → i ≠ 208 → X' i = X i) ∧ ∀ j, j < 10 ∨ 14 < j → X' 201 j = X 201 j
theorem fS.rf {X : gX} : fS X X := ⟨fun _ _ _ _ _ => rfl, fun _ _ => rfl⟩
theorem fS.tr {X Y W : gX} (h : fS X Y) (h2 : fS Y W) : fS X W := ⟨fun i a b c d => (h2.1 i a b c d).trans (h.1 i a b c d), fun j hj => (h2.2 j hj).trans (h.2 j hj)⟩
theorem fS.lt {X Y : gX} {q : Nat × Nat × Nat × Nat} {c : Nat} (h : LT X Y q c) : fS X Y := ⟨fun i a _ _ _ => h.1 i a, fun j hj => h.2.1 j hj⟩
theorem fS.c {X Y : gX} (h : ∀ i, i ≠ 208 → Y i = X i) : fS X Y := ⟨fun i _ _ _ d => h i d, fun j _ => by rw [h 201 (by decide)]⟩
theorem fS.n {X Y : gX} (h : ∀ i, i ≠ 202 → Y i = X i) : fS X Y := ⟨fun i _ d _ _ => h i d, fun j _ => by rw [h 201 (by decide)]⟩
theorem fS.k {X Y : gX} (h : ∀ i, i ≠ 203 → Y i = X i) : fS X Y := ⟨fun i _ _ d _ => h i d, fun j _ => by rw [h 201 (by decide)]⟩
theorem MR.s {X Y : gX} {g g' : Nat → Nat} {n : Nat} {h : Nat → Nat → Nat} {b : Bool} (m : MR X g n h b) (r : RM Y g') (e : fS X Y) : MR Y g' n h b :=
  ⟨r, by rw [e.2 3 (by decide)]; exact m.2.1, m.2.2.1, fun i j hi hj => by rw [e.1 204 (by decide) (by decide) (by decide) (by decide)]; exact m.2.2.2.1 i j hi hj, by rw [e.2 8 (by decide)]; exact m.2.2.2.2⟩
theorem fS.fN {X Y : gX} (h : fN X Y) : fS X Y := ⟨fun i _ b _ d => h i b d, fun j _ => by rw [h 201 (by decide) (by decide)]⟩
def vTog (g : Nat → Nat) (a w : Int32) : Int32 := if inB a (nI 0) (nI 9) = true then (if w = nI 0 then nI (tly g (cl a) 5).1 else if w = nI 1 then loI (tly g (cl a) 5) else if w = nI 2 then hiI (tly g (cl a) 5) else if w = nI 3 then nI (tly g (cl a) 5).2.2.2 else if w = nI 4 then nI (msk (clrB g (cl a)) 5) else -2) else -1
def oneB (g : Nat → Nat) (b : Bool) (f : Nat) : Bool := if b = true then decide ((tly g f 5).1 = 1) else decide (1 < (tly g f 5).1)
def allM (g : Nat → Nat) : Nat := smN (fun t => marks g t false) 5
def vCount (g : Nat → Nat) (n len : Nat) (w : Int32) : Int32 := if w = nI 0 then (if g 2 < g 3 then nI (g 2) else -6) else if w = nI 1 then (if g 2 < g 3 then lI (g 3) else -6) else if w = nI 2 then nI (msk (inS g) 5) else if w = nI 3 then nI (allM g) else if w = nI 4 then nI (msk (oneB g true) 10) else if w = nI 5 then nI (msk (oneB g false) 10) else if w = nI 6 then nI len else if w = nI 7 then nI n else if w = nI 8 then nI (g 0) else if w = nI 9 then nI (g 1) else -2
def difB (g : Nat → Nat) (s t f : Nat) : Bool := !(decide (kind g s f = kind g t f) && (!decide (kind g s f = 1) || decide (vN g s f = vN g t f)))
def vDiff (g : Nat → Nat) (a c : Int32) : Int32 := if inB a (nI 0) (nI 4) = true then (if inB c (nI 0) (nI 4) = true then nI (msk (difB g (cl a) (cl c)) 10) else -1) else -1
/-- the least of p .. 9, 0 if there is none -/
def lea (P : Nat → Bool) : Nat → Nat → Nat
  | 0, _ => 0
  | n + 1, p => if P p = true then p else lea P n (p + 1)
def lfr (P : Nat → Bool) (p : Nat) : Nat := lea P (10 - p) p
theorem lfr_t {P : Nat → Bool} {p : Nat} (hp : p < 10) (h : P p = true) : lfr P p = p := by
  unfold lfr
  rw [show 10 - p = (9 - p) + 1 by omega]
  show (if P p = true then p else _) = _
  rw [if_pos h]
theorem lfr_f {P : Nat → Bool} {p : Nat} (hp : p < 10) (h : P p = false) : lfr P p = lfr P (p + 1) := by
  unfold lfr
  rw [show 10 - p = (9 - p) + 1 by omega, show 10 - (p + 1) = 9 - p by omega]
  show (if P p = true then p else _) = _
  rw [h]
  rfl
theorem lfr_10 {P : Nat → Bool} : lfr P 10 = 0 := rfl
def zn (n : Nat) : Int32 := if n = 0 then -6 else nI n
def enB (g : Nat → Nat) (s p : Nat) : Bool := decide (g 0 ≤ arv g p s)
def vEnough (g : Nat → Nat) (a : Int32) : Int32 := if inB a (nI 0) (nI 4) = true then zn (lfr (enB g (cl a)) 1) else -1
def seen (g : Nat → Nat) (f t : Nat) : Bool := inS g t && !decide (last g t f = 0)
def emp (g : Nat → Nat) (f : Nat) : Bool := !anB (seen g f) 5
def sfB (g : Nat → Nat) (f p : Nat) : Bool := emp (str g f p) f
def vStrF (g : Nat → Nat) (a : Int32) : Int32 := if inB a (nI 0) (nI 9) = true then (if g 2 < g 3 then zn (lfr (sfB g (cl a)) 1) else -6) else -1
def thk (g : Nat → Nat) : Nat → Nat
  | 0 => 0
  | t + 1 => if g 2 ≤ t ∧ t + 1 < g 3 then thk g t + g (4 + t) else thk g t
def mst (g : Nat → Nat) (p : Nat) : Nat → Nat
  | 0 => 1000
  | t + 1 => if g 2 ≤ t ∧ t + 1 < g 3 then (if p ≤ thk g (t + 1) then 0 else min (mst g p t) (g (9 + t))) else mst g p t
def vLasts (g : Nat → Nat) (a : Int32) : Int32 := if inB a (nI 1) (nI 9) = true then (if g 2 < g 3 then nI (mst g (cl a) 5) else -5) else -2
def vIfW (g : Nat → Nat) (a v p : Int32) : Int32 := if okWrt g a v p = true then (if (tly (wrt g (cl a) (cl v) (cl p)) (cl a) 5).1 = 1 then nI (tly (wrt g (cl a) (cl v) (cl p)) (cl a) 5).2.1 else -6) else barI g a v p
theorem thk_s {g : Nat → Nat} {t : Nat} (h : g 2 ≤ t ∧ t + 1 < g 3) : thk g (t + 1) = thk g t + g (4 + t) := by
  show (if _ then _ else _) = _
  rw [if_pos h]
theorem mst_s {g : Nat → Nat} {p t : Nat} (h : g 2 ≤ t ∧ t + 1 < g 3) : mst g p (t + 1) = if p ≤ thk g (t + 1) then 0 else min (mst g p t) (g (9 + t)) := by
  show (if _ then _ else _) = _
  rw [if_pos h]
theorem thk_lo {g : Nat → Nat} : ∀ t, t ≤ g 2 → thk g t = 0 := by
  intro t
  induction t with
  | zero => intro _; rfl
  | succ t ih => intro h; unfold thk; rw [if_neg (by omega)]; exact ih (by omega)
theorem mst_lo {g : Nat → Nat} {p : Nat} : ∀ t, t ≤ g 2 → mst g p t = 1000 := by
  intro t
  induction t with
  | zero => intro _; rfl
  | succ t ih => intro h; unfold mst; rw [if_neg (by omega)]; exact ih (by omega)
theorem mst_hi {g : Nat → Nat} {p t : Nat} (h : g 3 ≤ t + 1) : ∀ u, t ≤ u → mst g p u = mst g p t := by
  intro u
  induction u with
  | zero => intro hu; rw [show t = 0 by omega]
  | succ u ih =>
    intro hu
    by_cases hz : t = u + 1
    · rw [hz]
    · show (if _ then _ else _) = _
      rw [if_neg (by omega)]
      exact ih (by omega)
theorem mst_le {g : Nat → Nat} {p : Nat} : ∀ t, mst g p t ≤ 1000 := by
  intro t
  induction t with
  | zero => exact Nat.le_refl _
  | succ t ih => unfold mst; split
                 · split <;> omega
                 · exact ih
theorem thk_le {g : Nat → Nat} (hI : Inv g) : ∀ t, t ≤ 5 → thk g t ≤ 4 * t := by
  intro t
  induction t with
  | zero => intro _; exact Nat.le_refl _
  | succ t ih => intro h; have := ih (by omega); have := (hI.t (show t < 5 by omega)).1; unfold thk; split <;> omega
theorem nI_subsub (a b c : Nat) : nI a - nI b - nI c = nI a - nI (b + c) := by
  rw [← nI_add]
  simp [Int32.sub_eq_add_neg, Int32.neg_add, Int32.add_assoc]
theorem nI_sub_gt {a b : Nat} (ha : a < 1073741824) (hb : b < 1073741824) : 0 < nI a - nI b ↔ b < a := by
  have ht := pk_sub_toInt (a := a) (b := b) (by omega) (by omega)
  rw [Int32.lt_iff_toInt_lt, ht]
  have : (0 : Int32).toInt = 0 := by decide
  rw [this]
  omega
theorem seen_lo {g : Nat → Nat} {f : Nat} : anB (seen g f) (g 2) = false := by
  cases h : anB (seen g f) (g 2) with
  | false => rfl
  | true =>
    obtain ⟨k, hk, h2⟩ := anB_iff.mp h
    simp only [seen, inS, Bool.and_eq_true, decide_eq_true_eq] at h2
    omega
theorem seen_hi {g : Nat → Nat} {f : Nat} (h3 : g 3 ≤ 5) : anB (seen g f) (g 3) = anB (seen g f) 5 := by
  rw [Bool.eq_iff_iff, anB_iff, anB_iff]
  constructor
  · rintro ⟨k, hk, h2⟩; exact ⟨k, by omega, h2⟩
  · rintro ⟨k, hk, h2⟩
    refine ⟨k, ?_, h2⟩
    simp only [seen, inS, Bool.and_eq_true, decide_eq_true_eq] at h2
    omega
theorem Inv_str {g : Nat → Nat} {f p : Nat} (hI : Inv g) (hp : 1 ≤ p ∧ p ≤ 9) (hf : f < 10) : Inv (str g f p) := by
  have h := sco_inv hI hf hp 5
  have e : ∀ j, j < 470 → sco f (upt (arv g p) (g 2 + 5)) (wear g p) j = str g f p j := fun j hj => sco_congr hj (fun t ht => by unfold upt; rw [if_pos (by omega)])
  refine ⟨?_, ?_, ?_, ?_, ?_⟩
  · rw [← e 0 (by decide), ← e 1 (by decide), ← e 2 (by decide), ← e 3 (by decide)]; exact h.1
  · intro t ht
    rw [← e (4 + t) (by omega), ← e (9 + t) (by omega), ← e (14 + t) (by omega)]; exact h.2.1 t ht
  · intro s f' hs hf'
    have := h.c hs hf'
    unfold cnt at *
    rw [← e _ (by omega)]; exact this
  · intro s f' k hs hf' hk
    have := h.m hs hf' hk
    unfold mk at *
    rw [← e _ (by omega)]; exact this
  · intro s f' k hs hf' hk
    have h8 := h.c hs hf'
    unfold cnt at hk
    rw [← e _ (by omega)] at hk
    have := h.p hs hf' hk
    have hk8 : k < 8 := Nat.lt_of_lt_of_le hk h8
    unfold mk at *
    rw [← e _ (by omega)]; exact this
theorem lay_cnt2 {f v s f' : Nat} {A : Nat → Nat} {g : Nat → Nat} (hs : s < 5) (hf' : f' < 10) : cnt (lay f v A g) s f' = if f' = f ∧ 0 < A s then cnt g s f' + 1 else cnt g s f' := by
  unfold cnt lay
  have e1 : (20 + (10 * s + f') - 20) / 10 = s := by omega
  have e2 : (20 + (10 * s + f') - 20) % 10 = f' := by omega
  rw [e1, e2, if_pos (by omega)]
theorem lay_mk2 {f v s f' k : Nat} {A : Nat → Nat} {g : Nat → Nat} (hs : s < 5) (hf' : f' < 10) (hk : k < 8) : mk (lay f v A g) s f' k = if f' = f ∧ 0 < A s ∧ k = cnt g s f then 20 * v + 2 * A s else mk g s f' k := by
  unfold mk lay
  have e1 : (70 + 8 * (10 * s + f') + k - 70) / 80 = s := by omega
  have e2 : (70 + 8 * (10 * s + f') + k - 70) / 8 % 10 = f' := by omega
  have e3 : (70 + 8 * (10 * s + f') + k - 70) % 8 = k := by omega
  rw [e1, e2, e3, if_neg (by omega), if_pos (by omega)]
theorem Inv_wrt {g : Nat → Nat} {f v p : Nat} (hI : Inv g) (hp : 1 ≤ p ∧ p ≤ 9) (hf : f < 10) (hv : v ≤ 999) (hfl : full g f p = false) : Inv (wrt g f v p) := by
  unfold wrt
  have hA := fun t => arv_le g p t
  have hc : ∀ s, s < 5 → 0 < arv g p s → cnt (wear g p) s f < 8 := fun s hs h => not_full hfl hs h
  refine ⟨?_, ?_, ?_, ?_, ?_⟩
  · rw [lay_small (by decide), lay_small (by decide), lay_small (by decide), lay_small (by decide), wear_hi (by omega), wear_hi (by omega), wear_hi (by omega), wear_hi (by omega)]
    exact hI.1
  · intro t ht
    rw [lay_small (by omega), lay_small (by omega), lay_small (by omega), wear_hi (show 4 + t < 9 ∨ 14 ≤ 4 + t by omega), wear_hi (show 14 + t < 9 ∨ 14 ≤ 14 + t by omega)]
    have := wear_le g p (9 + t)
    have := hI.t ht
    exact ⟨this.1, by omega, this.2.2⟩
  · intro s f' hs hf'
    rw [lay_cnt2 hs hf']
    have h8 := wear_c (p := p) hI hs hf'
    split
    · rename_i hh
      obtain ⟨rfl, hh⟩ := hh
      have := hc s hs hh
      omega
    · exact h8
  · intro s f' k hs hf' hk
    rw [lay_mk2 hs hf' hk]
    split
    · have := hA s; omega
    · rw [wear_mk]; exact hI.m hs hf' hk
  · intro s f' k hs hf' hk
    rw [lay_cnt2 hs hf'] at hk
    have h8 := wear_c (p := p) hI hs hf'
    have hk8 : k < 8 := by
      split at hk
      · rename_i hh
        obtain ⟨rfl, hh⟩ := hh
        have := hc s hs hh
        omega
      · omega
    rw [lay_mk2 hs hf' hk8]
    split
    · rename_i hh
      have := hA s
      omega
    · rename_i hh
      rw [wear_mk]
      refine hI.p hs hf' ?_
      rw [wear_cnt hs hf'] at hk
      split at hk
      · rename_i h2
        obtain ⟨rfl, h2⟩ := h2
        rw [wear_cnt hs hf'] at hh
        have : k ≠ cnt g s f' := fun z => hh ⟨rfl, h2, z⟩
        omega
      · exact hk
theorem kc_step {X X1 : gX} {d s k : Nat} (h : (∀ i, i ≠ d → X1 i = X i) ∧ ∀ j, j < k → X1 d j = X s j) : (∀ i, i ≠ d → gu X1 d k (X s k) i = X i) ∧ ∀ j, j < k + 1 → gu X1 d k (X s k) d j = X s j := by
  refine ⟨fun i hi => (gu_ne i hi).trans (h.1 i hi), fun j hj => ?_⟩
  by_cases hz : j = k
  · subst hz; exact gu_at
  · rw [gu_id hz]; exact h.2 j (by omega)

set_option maxHeartbeats 4000000 in
set_option maxRecDepth 100000 in
theorem c_together {l : Launch} {ad : Nat → Nat} {X : gX} {a w : Int32} {g : Nat → Nat} (hR : RM X g) (hI : Inv g) : K_X7_together l ad [.ref 201, .int (a), .int (w)] X (fun rr X' => rr = vTog g a w ∧ RM X' g ∧ fS X X') := by
  refine Ct.of [.ref 201, .int (a), .int (w)] 0 (by decide +kernel) rfl (Nat.le_of_ble_eq_true rfl) (fun F hl hC hRt _ => ?_)
  subst hl
  refine g_iload_1 hC dX7_together_0 (pc' := 1) rfl ?_
  refine g_callS1R hC (c_isField) ml_X7_75 ⟨(Nat.le_of_ble_eq_true rfl), (Nat.le_of_ble_eq_true rfl)⟩ (Nat.le_of_ble_eq_true rfl) dX7_together_1 (pc' := 4) rfl ⟨Nat.zero_le _, Nat.zero_le _⟩ ?_
  refine g_ifZ_ne hC dX7_together_4 (pc' := 7) (tgt := 9) (by decide) rfl (fun h4 => ?_) (fun h4 => ?_)
  · obtain ⟨f, rfl, -, hf⟩ := inB_N (by decide) h4 (by decide)
    have cf : cl (nI f) = f := cl_nI (by omega)
    refine g_aload_0 hC dX7_together_9 (pc' := 10) rfl ?_
    refine g_iload_1 hC dX7_together_10 (pc' := 11) rfl ?_
    refine g_callV1V hC (c_layTogether (f := f) (by omega) hR hI) ml_X7_145 (sh_M ad) rfl ⟨(Nat.le_of_ble_eq_true rfl), (Nat.le_of_ble_eq_true rfl)⟩ (Nat.le_of_ble_eq_true rfl) dX7_together_11 (pc' := 14) rfl ⟨Nat.zero_le _, Nat.zero_le _⟩ (fun X11 q11 => ?_)
    have hL := q11
    refine g_iload_2 hC dX7_together_14 (pc' := 15) rfl ?_
    by_cases s15_0 : (w) = nI 0
    · refine g_tabI hC 0 dX7_together_15 s15_0 (by decide) (by decide) (by decide) (off := 29) rfl (tgt := 44) (by decide) ?_
      subst s15_0
      refine g_aload_0 hC dX7_together_44 (pc' := 45) rfl ?_
      refine g_getI hC fl_X7_127 (sh_M ad) rfl (hL.2.2.1) dX7_together_45 (pc' := 48) rfl ?_
      refine g_iretI hC hRt rfl dX7_together_48 ?_
      refine ⟨?_, hL.r hR, fS.lt hL⟩
      simp only [vTog, cl_nI, h4, cf, ↓reduceIte, Bool.false_eq_true]
    by_cases s15_1 : (w) = nI 1
    · refine g_tabI hC 1 dX7_together_15 s15_1 (by decide) (by decide) (by decide) (off := 34) rfl (tgt := 49) (by decide) ?_
      subst s15_1
      refine g_aload_0 hC dX7_together_49 (pc' := 50) rfl ?_
      refine g_getI hC fl_X7_130 (sh_M ad) rfl (hL.2.2.2.1) dX7_together_50 (pc' := 53) rfl ?_
      refine g_iretI hC hRt rfl dX7_together_53 ?_
      refine ⟨?_, hL.r hR, fS.lt hL⟩
      simp only [vTog, cl_nI, h4, cf, eq_false s15_0, ↓reduceIte, Bool.false_eq_true]
    by_cases s15_2 : (w) = nI 2
    · refine g_tabI hC 2 dX7_together_15 s15_2 (by decide) (by decide) (by decide) (off := 39) rfl (tgt := 54) (by decide) ?_
      subst s15_2
      refine g_aload_0 hC dX7_together_54 (pc' := 55) rfl ?_
      refine g_getI hC fl_X7_133 (sh_M ad) rfl (hL.2.2.2.2.1) dX7_together_55 (pc' := 58) rfl ?_
      refine g_iretI hC hRt rfl dX7_together_58 ?_
      refine ⟨?_, hL.r hR, fS.lt hL⟩
      simp only [vTog, cl_nI, h4, cf, eq_false s15_0, eq_false s15_1, ↓reduceIte, Bool.false_eq_true]
    by_cases s15_3 : (w) = nI 3
    · refine g_tabI hC 3 dX7_together_15 s15_3 (by decide) (by decide) (by decide) (off := 44) rfl (tgt := 59) (by decide) ?_
      subst s15_3
      refine g_aload_0 hC dX7_together_59 (pc' := 60) rfl ?_
      refine g_getI hC fl_X7_136 (sh_M ad) rfl (hL.2.2.2.2.2.1) dX7_together_60 (pc' := 63) rfl ?_
      refine g_iretI hC hRt rfl dX7_together_63 ?_
      refine ⟨?_, hL.r hR, fS.lt hL⟩
      simp only [vTog, cl_nI, h4, cf, eq_false s15_0, eq_false s15_1, eq_false s15_2, ↓reduceIte, Bool.false_eq_true]
    refine g_tabO hC dX7_together_15 (fun j hj => by
      have : j ≤ 3 := by omega
      match j, this with
      | 0, _ => exact s15_0
      | 1, _ => exact s15_1
      | 2, _ => exact s15_2
      | 3, _ => exact s15_3
      | j + 4, h => exact absurd h (by omega)) (tgt := 64) (by decide) ?_
    refine g_iload_2 hC dX7_together_64 (pc' := 65) rfl ?_
    refine g_iconst hC dX7_together_65 (pc' := 66) kc_iconst_4 rfl ?_
    refine g_icmp_ne hC dX7_together_66 (pc' := 69) (tgt := 76) (by decide) rfl (fun h66 => ?_) (fun h66 => ?_)
    · refine g_bipush hC dX7_together_76 (pc' := 78) kc_bipush_m2 rfl ?_
      refine g_iretI hC hRt rfl dX7_together_78 ?_
      refine ⟨?_, hL.r hR, fS.lt hL⟩
      simp only [vTog, cl_nI, h4, cf, eq_false s15_0, eq_false s15_1, eq_false s15_2, eq_false s15_3, eq_false h66, ↓reduceIte, Bool.false_eq_true]
    · refine g_aload_0 hC dX7_together_69 (pc' := 70) rfl ?_
      refine g_getI hC fl_X7_139 (sh_M ad) rfl (hL.2.2.2.2.2.2) dX7_together_70 (pc' := 73) rfl ?_
      refine g_goto hC dX7_together_73 (tgt := 78) (by decide) ?_
      refine g_iretI hC hRt rfl dX7_together_78 ?_
      refine ⟨?_, hL.r hR, fS.lt hL⟩
      simp only [vTog, cl_nI, h4, cf, eq_false s15_0, eq_false s15_1, eq_false s15_2, eq_false s15_3, eq_true h66, ↓reduceIte, Bool.false_eq_true]
  · refine g_iconst hC dX7_together_7 (pc' := 8) kc_iconst_m1 rfl ?_
    refine g_iretI hC hRt rfl dX7_together_8 ?_
    refine ⟨?_, hR, fS.rf⟩
    simp only [vTog, cl_nI, h4, ↓reduceIte, Bool.false_eq_true]

set_option maxHeartbeats 4000000 in
set_option maxRecDepth 100000 in
theorem c_fieldsWith {l : Launch} {ad : Nat → Nat} {X : gX} {b : Bool} {g : Nat → Nat} (hR : RM X g) (hI : Inv g) : K_X7_fieldsWith l ad [.ref 201, .int (zI (b))] X (fun rr X' => rr = nI (msk (oneB g b) 10) ∧ RM X' g ∧ fS X X') := by
  refine Ct.of [.ref 201, .int (zI (b)), .null, .null] 2 (by decide +kernel) rfl (Nat.le_of_ble_eq_true rfl) (fun F hl hC hRt _ => ?_)
  subst hl
  refine g_iconst hC dX7_fieldsWith_0 (pc' := 1) kc_iconst_0 rfl ?_
  refine g_istore_2 hC dX7_fieldsWith_1 (pc' := 2) rfl (Nat.le_of_ble_eq_true rfl) rfl ?_
  refine g_iconst hC dX7_fieldsWith_2 (pc' := 3) kc_iconst_0 rfl ?_
  refine g_istore_3 hC dX7_fieldsWith_3 (pc' := 4) rfl (Nat.le_of_ble_eq_true rfl) rfl ?_
  have L4 : ∀ f, f ≤ 10 → ∀ X1 : gX, (RM X1 g ∧ fS X X1) → G F (S0 ad) (0, 0) X1 4 [.ref 201, .int (zI (b)), .int (nI (msk (oneB g b) f)), .int (nI f)] [] := by
    refine up_ind _ (fun f hk4 ih4 => ?_)
    intro X1 hm4
    refine g_iload_3 hC dX7_fieldsWith_4 (pc' := 5) rfl ?_
    refine g_bipush hC dX7_fieldsWith_5 (pc' := 7) kc_bipush_10 rfl ?_
    refine g_icmpN_ge hC dX7_fieldsWith_7 (pc' := 10) (tgt := 61) (by decide) rfl (by omega) (by omega) (fun h7 => ?_) (fun h7 => ?_)
    · refine g_iload_2 hC dX7_fieldsWith_61 (pc' := 62) rfl ?_
      refine g_iretI hC hRt rfl dX7_fieldsWith_62 ?_
      rw [show f = 10 by omega]
      exact ⟨rfl, hm4⟩
    · refine g_aload_0 hC dX7_fieldsWith_10 (pc' := 11) rfl ?_
      refine g_iload_3 hC dX7_fieldsWith_11 (pc' := 12) rfl ?_
      refine g_callV1V hC (c_layTogether (f := f) (by omega) hm4.1 hI) ml_X7_145 (sh_M ad) rfl ⟨(Nat.le_of_ble_eq_true rfl), (Nat.le_of_ble_eq_true rfl)⟩ (Nat.le_of_ble_eq_true rfl) dX7_fieldsWith_12 (pc' := 15) rfl ⟨Nat.zero_le _, Nat.zero_le _⟩ (fun X12 q12 => ?_)
      have hL := q12
      have htb := tly_b hI (show f < 10 by omega) 5 (by decide)
      refine g_iload_2 hC dX7_fieldsWith_15 (pc' := 16) rfl ?_
      refine g_iload_1 hC dX7_fieldsWith_16 (pc' := 17) rfl ?_
      refine g_ifZ_eq hC dX7_fieldsWith_17 (pc' := 20) (tgt := 38) (by decide) rfl (fun h17 => ?_) (fun h17 => ?_)
      · refine g_aload_0 hC dX7_fieldsWith_38 (pc' := 39) rfl ?_
        refine g_getI hC fl_X7_127 (sh_M ad) rfl (hL.2.2.1) dX7_fieldsWith_39 (pc' := 42) rfl ?_
        refine g_iconst hC dX7_fieldsWith_42 (pc' := 43) kc_iconst_1 rfl ?_
        refine g_icmpN_le hC dX7_fieldsWith_43 (pc' := 46) (tgt := 52) (by decide) rfl (by omega) (by omega) (fun h43 => ?_) (fun h43 => ?_)
        · have h43b : ¬ 1 < (tly g f 5).1 := by omega
          refine g_iconst hC dX7_fieldsWith_52 (pc' := 53) kc_iconst_0 rfl ?_
          refine g_iorN hC dX7_fieldsWith_53 (pc' := 54) rfl ?_
          refine g_istore_2 hC dX7_fieldsWith_54 (pc' := 55) rfl (Nat.le_of_ble_eq_true rfl) rfl ?_
          refine g_iinc_3 hC dX7_fieldsWith_55 (pc' := 58) rfl (Nat.le_of_ble_eq_true rfl) rfl (nI_inc _ _ kc_iinc_1) ?_
          refine g_goto hC dX7_fieldsWith_58 (tgt := 4) (by decide) ?_
          exact g_weak (ih4 (by omega) _ (by exact ⟨hL.r hm4.1, hm4.2.tr (fS.lt hL)⟩)) (gle_s (gle_s (gle_i (by simp [msk, oneB, *]) (gle_i (by first | rfl | omega) gle_nil))))
        · refine g_iconst hC dX7_fieldsWith_46 (pc' := 47) kc_iconst_1 rfl ?_
          refine g_iload_3 hC dX7_fieldsWith_47 (pc' := 48) rfl ?_
          refine g_ishl1 hC dX7_fieldsWith_48 (pc' := 49) rfl (by omega) ?_
          refine g_goto hC dX7_fieldsWith_49 (tgt := 53) (by decide) ?_
          refine g_iorN hC dX7_fieldsWith_53 (pc' := 54) rfl ?_
          refine g_istore_2 hC dX7_fieldsWith_54 (pc' := 55) rfl (Nat.le_of_ble_eq_true rfl) rfl ?_
          refine g_iinc_3 hC dX7_fieldsWith_55 (pc' := 58) rfl (Nat.le_of_ble_eq_true rfl) rfl (nI_inc _ _ kc_iinc_1) ?_
          refine g_goto hC dX7_fieldsWith_58 (tgt := 4) (by decide) ?_
          exact g_weak (ih4 (by omega) _ (by exact ⟨hL.r hm4.1, hm4.2.tr (fS.lt hL)⟩)) (gle_s (gle_s (gle_i (by simp [msk, oneB, *]) (gle_i (by first | rfl | omega) gle_nil))))
      · refine g_aload_0 hC dX7_fieldsWith_20 (pc' := 21) rfl ?_
        refine g_getI hC fl_X7_127 (sh_M ad) rfl (hL.2.2.1) dX7_fieldsWith_21 (pc' := 24) rfl ?_
        refine g_iconst hC dX7_fieldsWith_24 (pc' := 25) kc_iconst_1 rfl ?_
        refine g_icmpN_ne hC dX7_fieldsWith_25 (pc' := 28) (tgt := 34) (by decide) rfl (by omega) (by omega) (fun h25 => ?_) (fun h25 => ?_)
        · refine g_iconst hC dX7_fieldsWith_34 (pc' := 35) kc_iconst_0 rfl ?_
          refine g_goto hC dX7_fieldsWith_35 (tgt := 53) (by decide) ?_
          refine g_iorN hC dX7_fieldsWith_53 (pc' := 54) rfl ?_
          refine g_istore_2 hC dX7_fieldsWith_54 (pc' := 55) rfl (Nat.le_of_ble_eq_true rfl) rfl ?_
          refine g_iinc_3 hC dX7_fieldsWith_55 (pc' := 58) rfl (Nat.le_of_ble_eq_true rfl) rfl (nI_inc _ _ kc_iinc_1) ?_
          refine g_goto hC dX7_fieldsWith_58 (tgt := 4) (by decide) ?_
          exact g_weak (ih4 (by omega) _ (by exact ⟨hL.r hm4.1, hm4.2.tr (fS.lt hL)⟩)) (gle_s (gle_s (gle_i (by simp [msk, oneB, *]) (gle_i (by first | rfl | omega) gle_nil))))
        · refine g_iconst hC dX7_fieldsWith_28 (pc' := 29) kc_iconst_1 rfl ?_
          refine g_iload_3 hC dX7_fieldsWith_29 (pc' := 30) rfl ?_
          refine g_ishl1 hC dX7_fieldsWith_30 (pc' := 31) rfl (by omega) ?_
          refine g_goto hC dX7_fieldsWith_31 (tgt := 53) (by decide) ?_
          refine g_iorN hC dX7_fieldsWith_53 (pc' := 54) rfl ?_
          refine g_istore_2 hC dX7_fieldsWith_54 (pc' := 55) rfl (Nat.le_of_ble_eq_true rfl) rfl ?_
          refine g_iinc_3 hC dX7_fieldsWith_55 (pc' := 58) rfl (Nat.le_of_ble_eq_true rfl) rfl (nI_inc _ _ kc_iinc_1) ?_
          refine g_goto hC dX7_fieldsWith_58 (tgt := 4) (by decide) ?_
          exact g_weak (ih4 (by omega) _ (by exact ⟨hL.r hm4.1, hm4.2.tr (fS.lt hL)⟩)) (gle_s (gle_s (gle_i (by simp [msk, oneB, *]) (gle_i (by first | rfl | omega) gle_nil))))
  exact g_weak (L4 0 (by exact Nat.zero_le _) _ (by exact ⟨hR, fS.rf⟩)) (gle_s (gle_s (gle_i (by rfl) (gle_s gle_nil))))

set_option maxHeartbeats 4000000 in
set_option maxRecDepth 100000 in
theorem c_stack {l : Launch} {ad : Nat → Nat} {X : gX} {g : Nat → Nat} (hR : RM X g) (hI : Inv g) : K_X7_stack l ad [.ref 201] X (pR X (nI (msk (inS g) 5))) := by
  refine Ct.of [.ref 201, .null, .null] 2 (by decide +kernel) rfl (Nat.le_of_ble_eq_true rfl) (fun F hl hC hRt _ => ?_)
  subst hl
  refine g_iconst hC dX7_stack_0 (pc' := 1) kc_iconst_0 rfl ?_
  refine g_istore_1 hC dX7_stack_1 (pc' := 2) rfl (Nat.le_of_ble_eq_true rfl) rfl ?_
  refine g_iconst hC dX7_stack_2 (pc' := 3) kc_iconst_0 rfl ?_
  refine g_istore_2 hC dX7_stack_3 (pc' := 4) rfl (Nat.le_of_ble_eq_true rfl) rfl ?_
  have L4 : ∀ t, t ≤ 5 → G F (S0 ad) (0, 0) X 4 [.ref 201, .int (nI (msk (inS g) t)), .int (nI t)] [] := by
    refine up_ind _ (fun t hk4 ih4 => ?_)
    refine g_iload_2 hC dX7_stack_4 (pc' := 5) rfl ?_
    refine g_iconst hC dX7_stack_5 (pc' := 6) kc_iconst_5 rfl ?_
    refine g_icmpN_ge hC dX7_stack_6 (pc' := 9) (tgt := 33) (by decide) rfl (by omega) (by omega) (fun h6 => ?_) (fun h6 => ?_)
    · refine g_iload_1 hC dX7_stack_33 (pc' := 34) rfl ?_
      refine g_iretR hC hRt rfl dX7_stack_34 ?_
      rw [show t = 5 by omega]
    · refine g_iload_1 hC dX7_stack_9 (pc' := 10) rfl ?_
      refine g_aload_0 hC dX7_stack_10 (pc' := 11) rfl ?_
      refine g_iload_2 hC dX7_stack_11 (pc' := 12) rfl ?_
      refine g_callV1R hC (c_isInStack (s := t) (by omega) hR hI) ml_X7_54 (sh_M ad) rfl ⟨(Nat.le_of_ble_eq_true rfl), (Nat.le_of_ble_eq_true rfl)⟩ (Nat.le_of_ble_eq_true rfl) dX7_stack_12 (pc' := 15) rfl ⟨Nat.zero_le _, Nat.zero_le _⟩ ?_
      refine g_ifZ_eq hC dX7_stack_15 (pc' := 18) (tgt := 24) (by decide) rfl (fun h15 => ?_) (fun h15 => ?_)
      · refine g_iconst hC dX7_stack_24 (pc' := 25) kc_iconst_0 rfl ?_
        refine g_iorN hC dX7_stack_25 (pc' := 26) rfl ?_
        refine g_istore_1 hC dX7_stack_26 (pc' := 27) rfl (Nat.le_of_ble_eq_true rfl) rfl ?_
        refine g_iinc_2 hC dX7_stack_27 (pc' := 30) rfl (Nat.le_of_ble_eq_true rfl) rfl (nI_inc _ _ kc_iinc_1) ?_
        refine g_goto hC dX7_stack_30 (tgt := 4) (by decide) ?_
        exact g_weak (ih4 (by omega)) (gle_s (gle_i (by simp [msk, h15]) (gle_i (by first | rfl | omega) gle_nil)))
      · refine g_iconst hC dX7_stack_18 (pc' := 19) kc_iconst_1 rfl ?_
        refine g_iload_2 hC dX7_stack_19 (pc' := 20) rfl ?_
        refine g_ishl1 hC dX7_stack_20 (pc' := 21) rfl (by omega) ?_
        refine g_goto hC dX7_stack_21 (tgt := 25) (by decide) ?_
        refine g_iorN hC dX7_stack_25 (pc' := 26) rfl ?_
        refine g_istore_1 hC dX7_stack_26 (pc' := 27) rfl (Nat.le_of_ble_eq_true rfl) rfl ?_
        refine g_iinc_2 hC dX7_stack_27 (pc' := 30) rfl (Nat.le_of_ble_eq_true rfl) rfl (nI_inc _ _ kc_iinc_1) ?_
        refine g_goto hC dX7_stack_30 (tgt := 4) (by decide) ?_
        exact g_weak (ih4 (by omega)) (gle_s (gle_i (by simp [msk, h15]) (gle_i (by first | rfl | omega) gle_nil)))
  exact g_weak (L4 0 (by exact Nat.zero_le _)) (gle_s (gle_i (by rfl) (gle_s gle_nil)))

set_option maxHeartbeats 4000000 in
set_option maxRecDepth 100000 in
theorem c_count {l : Launch} {ad : Nat → Nat} {X : gX} {w : Int32} {n len : Nat} (hn : X 201 3 = nI n) (hl : X 201 7 = nI len) {g : Nat → Nat} (hR : RM X g) (hI : Inv g) : K_X7_count l ad [.ref 201, .int (w)] X (fun rr X' => rr = vCount g n len w ∧ RM X' g ∧ fS X X') := by
  refine Ct.of [.ref 201, .int (w), .null, .null] 2 (by decide +kernel) rfl (Nat.le_of_ble_eq_true rfl) (fun F hl hC hRt _ => ?_)
  subst hl
  have b23 : g 2 ≤ g 3 ∧ g 3 ≤ 5 := hI.1.2.2
  refine g_iconst hC dX7_count_0 (pc' := 1) kc_iconst_0 rfl ?_
  refine g_istore_2 hC dX7_count_1 (pc' := 2) rfl (Nat.le_of_ble_eq_true rfl) rfl ?_
  refine g_iconst hC dX7_count_2 (pc' := 3) kc_iconst_0 rfl ?_
  refine g_istore_3 hC dX7_count_3 (pc' := 4) rfl (Nat.le_of_ble_eq_true rfl) rfl ?_
  have L4 : ∀ t, t ≤ 5 → G F (S0 ad) (0, 0) X 4 [.ref 201, .int (w), .int (nI (smN (fun t => marks g t false) t)), .int (nI t)] [] := by
    refine up_ind _ (fun t hk4 ih4 => ?_)
    refine g_iload_3 hC dX7_count_4 (pc' := 5) rfl ?_
    refine g_iconst hC dX7_count_5 (pc' := 6) kc_iconst_5 rfl ?_
    refine g_icmpN_ge hC dX7_count_6 (pc' := 9) (tgt := 24) (by decide) rfl (by omega) (by omega) (fun h6 => ?_) (fun h6 => ?_)
    · refine g_iload_1 hC dX7_count_24 (pc' := 25) rfl ?_
      by_cases s25_0 : (w) = nI 0
      · refine g_tabI hC 0 dX7_count_25 s25_0 (by decide) (by decide) (by decide) (off := 47) rfl (tgt := 72) (by decide) ?_
        subst s25_0
        refine g_aload_0 hC dX7_count_72 (pc' := 73) rfl ?_
        refine g_callV0R hC (c_hasStack hR hI) ml_X7_78 (sh_M ad) rfl ⟨(Nat.le_of_ble_eq_true rfl), (Nat.le_of_ble_eq_true rfl)⟩ (Nat.le_of_ble_eq_true rfl) dX7_count_73 (pc' := 76) rfl ⟨Nat.zero_le _, Nat.zero_le _⟩ ?_
        refine g_ifZ_eq hC dX7_count_76 (pc' := 79) (tgt := 90) (by decide) rfl (fun h76 => ?_) (fun h76 => ?_)
        · have hh : ¬ g 2 < g 3 := of_decide_eq_false h76
          refine g_bipush hC dX7_count_90 (pc' := 92) kc_bipush_m6 rfl ?_
          refine g_iretI hC hRt rfl dX7_count_92 ?_
          refine ⟨?_, hR, fS.rf⟩
          simp only [vCount, cl_nI, h76, eq_false hh, ↓reduceIte, Bool.false_eq_true]
        · have hh := of_decide_eq_true h76
          refine g_aload_0 hC dX7_count_79 (pc' := 80) rfl ?_
          refine g_getR hC fl_X7_7 (sh_M ad) rfl dX7_count_80 (pc' := 83) rfl ?_
          refine g_iconst hC dX7_count_83 (pc' := 84) kc_iconst_2 rfl ?_
          refine g_iload_1 hC dX7_count_84 (pc' := 85) rfl ?_
          refine g_iaddN hC dX7_count_85 (pc' := 86) rfl ?_
          refine g_iald hC (sh_mnow ad) (Nat.le_of_ble_eq_true rfl) (by omega) (hR.at (by decide) (by decide)) dX7_count_86 (pc' := 87) rfl ?_
          refine g_goto hC dX7_count_87 (tgt := 92) (by decide) ?_
          refine g_iretI hC hRt rfl dX7_count_92 ?_
          refine ⟨?_, hR, fS.rf⟩
          simp only [vCount, cl_nI, h76, eq_true hh, ↓reduceIte, Bool.false_eq_true]
      by_cases s25_1 : (w) = nI 1
      · refine g_tabI hC 1 dX7_count_25 s25_1 (by decide) (by decide) (by decide) (off := 47) rfl (tgt := 72) (by decide) ?_
        subst s25_1
        refine g_aload_0 hC dX7_count_72 (pc' := 73) rfl ?_
        refine g_callV0R hC (c_hasStack hR hI) ml_X7_78 (sh_M ad) rfl ⟨(Nat.le_of_ble_eq_true rfl), (Nat.le_of_ble_eq_true rfl)⟩ (Nat.le_of_ble_eq_true rfl) dX7_count_73 (pc' := 76) rfl ⟨Nat.zero_le _, Nat.zero_le _⟩ ?_
        refine g_ifZ_eq hC dX7_count_76 (pc' := 79) (tgt := 90) (by decide) rfl (fun h76 => ?_) (fun h76 => ?_)
        · have hh : ¬ g 2 < g 3 := of_decide_eq_false h76
          refine g_bipush hC dX7_count_90 (pc' := 92) kc_bipush_m6 rfl ?_
          refine g_iretI hC hRt rfl dX7_count_92 ?_
          refine ⟨?_, hR, fS.rf⟩
          simp only [vCount, cl_nI, eq_false s25_0, h76, eq_false hh, ↓reduceIte, Bool.false_eq_true]
        · have hh := of_decide_eq_true h76
          refine g_aload_0 hC dX7_count_79 (pc' := 80) rfl ?_
          refine g_getR hC fl_X7_7 (sh_M ad) rfl dX7_count_80 (pc' := 83) rfl ?_
          refine g_iconst hC dX7_count_83 (pc' := 84) kc_iconst_2 rfl ?_
          refine g_iload_1 hC dX7_count_84 (pc' := 85) rfl ?_
          refine g_iaddN hC dX7_count_85 (pc' := 86) rfl ?_
          refine g_iald hC (sh_mnow ad) (Nat.le_of_ble_eq_true rfl) (by omega) (hR.low) dX7_count_86 (pc' := 87) rfl ?_
          refine g_goto hC dX7_count_87 (tgt := 92) (by decide) ?_
          refine g_iretI hC hRt rfl dX7_count_92 ?_
          refine ⟨?_, hR, fS.rf⟩
          simp only [vCount, cl_nI, eq_false s25_0, h76, eq_true hh, ↓reduceIte, Bool.false_eq_true]
      by_cases s25_2 : (w) = nI 2
      · refine g_tabI hC 2 dX7_count_25 s25_2 (by decide) (by decide) (by decide) (off := 68) rfl (tgt := 93) (by decide) ?_
        subst s25_2
        refine g_aload_0 hC dX7_count_93 (pc' := 94) rfl ?_
        refine g_callV0R hC (c_stack hR hI) ml_X7_148 (sh_M ad) rfl ⟨(Nat.le_of_ble_eq_true rfl), (Nat.le_of_ble_eq_true rfl)⟩ (Nat.le_of_ble_eq_true rfl) dX7_count_94 (pc' := 97) rfl ⟨Nat.zero_le _, Nat.zero_le _⟩ ?_
        refine g_iretI hC hRt rfl dX7_count_97 ?_
        refine ⟨?_, hR, fS.rf⟩
        simp only [vCount, cl_nI, eq_false s25_0, eq_false s25_1, ↓reduceIte, Bool.false_eq_true]
      by_cases s25_3 : (w) = nI 3
      · refine g_tabI hC 3 dX7_count_25 s25_3 (by decide) (by decide) (by decide) (off := 73) rfl (tgt := 98) (by decide) ?_
        subst s25_3
        refine g_iload_2 hC dX7_count_98 (pc' := 99) rfl ?_
        refine g_iretI hC hRt rfl dX7_count_99 ?_
        refine ⟨?_, hR, fS.rf⟩
        rw [show t = 5 by omega]
        simp only [vCount, allM, cl_nI, eq_false s25_0, eq_false s25_1, eq_false s25_2, ↓reduceIte, Bool.false_eq_true]
      by_cases s25_4 : (w) = nI 4
      · refine g_tabI hC 4 dX7_count_25 s25_4 (by decide) (by decide) (by decide) (off := 75) rfl (tgt := 100) (by decide) ?_
        subst s25_4
        refine g_aload_0 hC dX7_count_100 (pc' := 101) rfl ?_
        refine g_iload_1 hC dX7_count_101 (pc' := 102) rfl ?_
        refine g_iconst hC dX7_count_102 (pc' := 103) kc_iconst_4 rfl ?_
        refine g_icmpN_ne hC dX7_count_103 (pc' := 106) (tgt := 110) (by decide) rfl (by omega) (by omega) (fun h103 => by omega) (fun h103 => ?_)
        refine g_iconst hC dX7_count_106 (pc' := 107) kc_iconst_1 rfl ?_
        refine g_goto hC dX7_count_107 (tgt := 111) (by decide) ?_
        refine g_callV1I hC (c_fieldsWith (b := true) hR hI) ml_X7_152 (sh_M ad) rfl ⟨(Nat.le_of_ble_eq_true rfl), (Nat.le_of_ble_eq_true rfl)⟩ (Nat.le_of_ble_eq_true rfl) dX7_count_111 (pc' := 114) rfl ⟨Nat.zero_le _, Nat.zero_le _⟩ (fun v111 X111 q111 => ?_)
        obtain ⟨rfl, q111b⟩ := q111
        refine g_iretI hC hRt rfl dX7_count_114 ?_
        refine ⟨?_, q111b⟩
        simp only [vCount, cl_nI, eq_false s25_0, eq_false s25_1, eq_false s25_2, eq_false s25_3, eq_true h103, ↓reduceIte, Bool.false_eq_true]
      by_cases s25_5 : (w) = nI 5
      · refine g_tabI hC 5 dX7_count_25 s25_5 (by decide) (by decide) (by decide) (off := 75) rfl (tgt := 100) (by decide) ?_
        subst s25_5
        refine g_aload_0 hC dX7_count_100 (pc' := 101) rfl ?_
        refine g_iload_1 hC dX7_count_101 (pc' := 102) rfl ?_
        refine g_iconst hC dX7_count_102 (pc' := 103) kc_iconst_4 rfl ?_
        refine g_icmpN_ne hC dX7_count_103 (pc' := 106) (tgt := 110) (by decide) rfl (by omega) (by omega) (fun h103 => ?_) (fun h103 => by omega)
        refine g_iconst hC dX7_count_110 (pc' := 111) kc_iconst_0 rfl ?_
        refine g_callV1I hC (c_fieldsWith (b := false) hR hI) ml_X7_152 (sh_M ad) rfl ⟨(Nat.le_of_ble_eq_true rfl), (Nat.le_of_ble_eq_true rfl)⟩ (Nat.le_of_ble_eq_true rfl) dX7_count_111 (pc' := 114) rfl ⟨Nat.zero_le _, Nat.zero_le _⟩ (fun v111 X111 q111 => ?_)
        obtain ⟨rfl, q111b⟩ := q111
        refine g_iretI hC hRt rfl dX7_count_114 ?_
        refine ⟨?_, q111b⟩
        simp only [vCount, cl_nI, eq_false s25_0, eq_false s25_1, eq_false s25_2, eq_false s25_3, eq_false s25_4, eq_false h103, ↓reduceIte, Bool.false_eq_true]
      by_cases s25_6 : (w) = nI 6
      · refine g_tabI hC 6 dX7_count_25 s25_6 (by decide) (by decide) (by decide) (off := 90) rfl (tgt := 115) (by decide) ?_
        subst s25_6
        refine g_aload_0 hC dX7_count_115 (pc' := 116) rfl ?_
        refine g_getI hC fl_X7_156 (sh_M ad) rfl (hl) dX7_count_116 (pc' := 119) rfl ?_
        refine g_iretI hC hRt rfl dX7_count_119 ?_
        refine ⟨?_, hR, fS.rf⟩
        simp only [vCount, cl_nI, eq_false s25_0, eq_false s25_1, eq_false s25_2, eq_false s25_3, eq_false s25_4, eq_false s25_5, ↓reduceIte, Bool.false_eq_true]
      by_cases s25_7 : (w) = nI 7
      · refine g_tabI hC 7 dX7_count_25 s25_7 (by decide) (by decide) (by decide) (off := 95) rfl (tgt := 120) (by decide) ?_
        subst s25_7
        refine g_aload_0 hC dX7_count_120 (pc' := 121) rfl ?_
        refine g_getI hC fl_X7_39 (sh_M ad) rfl (hn) dX7_count_121 (pc' := 124) rfl ?_
        refine g_iretI hC hRt rfl dX7_count_124 ?_
        refine ⟨?_, hR, fS.rf⟩
        simp only [vCount, cl_nI, eq_false s25_0, eq_false s25_1, eq_false s25_2, eq_false s25_3, eq_false s25_4, eq_false s25_5, eq_false s25_6, ↓reduceIte, Bool.false_eq_true]
      refine g_tabO hC dX7_count_25 (fun j hj => by
        have : j ≤ 7 := by omega
        match j, this with
        | 0, _ => exact s25_0
        | 1, _ => exact s25_1
        | 2, _ => exact s25_2
        | 3, _ => exact s25_3
        | 4, _ => exact s25_4
        | 5, _ => exact s25_5
        | 6, _ => exact s25_6
        | 7, _ => exact s25_7
        | j + 8, h => exact absurd h (by omega)) (tgt := 125) (by decide) ?_
      refine g_iload_1 hC dX7_count_125 (pc' := 126) rfl ?_
      refine g_bipush hC dX7_count_126 (pc' := 128) kc_bipush_8 rfl ?_
      refine g_bipush hC dX7_count_128 (pc' := 130) kc_bipush_9 rfl ?_
      refine g_callS3R hC (c_in) ml_X7_43 ⟨(Nat.le_of_ble_eq_true rfl), (Nat.le_of_ble_eq_true rfl)⟩ (Nat.le_of_ble_eq_true rfl) dX7_count_130 (pc' := 133) rfl ⟨Nat.zero_le _, Nat.zero_le _⟩ ?_
      refine g_ifZ_eq hC dX7_count_133 (pc' := 136) (tgt := 148) (by decide) rfl (fun h133 => ?_) (fun h133 => ?_)
      · have e8 : ¬ w = nI 8 := fun z => by subst z; revert h133; decide
        have e9 : ¬ w = nI 9 := fun z => by subst z; revert h133; decide
        refine g_bipush hC dX7_count_148 (pc' := 150) kc_bipush_m2 rfl ?_
        refine g_iretI hC hRt rfl dX7_count_150 ?_
        refine ⟨?_, hR, fS.rf⟩
        simp only [vCount, cl_nI, eq_false s25_0, eq_false s25_1, eq_false s25_2, eq_false s25_3, eq_false s25_4, eq_false s25_5, eq_false s25_6, eq_false s25_7, h133, eq_false e8, eq_false e9, ↓reduceIte, Bool.false_eq_true]
      · obtain ⟨k, rfl, hk8, hk9⟩ := inB_N (by decide) h133 (by decide)
        refine g_aload_0 hC dX7_count_136 (pc' := 137) rfl ?_
        refine g_getR hC fl_X7_7 (sh_M ad) rfl dX7_count_137 (pc' := 140) rfl ?_
        refine g_iload_1 hC dX7_count_140 (pc' := 141) rfl ?_
        refine g_bipush hC dX7_count_141 (pc' := 143) kc_bipush_8 rfl ?_
        refine g_isubN hC dX7_count_143 (pc' := 144) rfl (by omega) ?_
        refine g_iald hC (sh_mnow ad) (Nat.le_of_ble_eq_true rfl) (by omega) (hR.at (by omega) (by omega)) dX7_count_144 (pc' := 145) rfl ?_
        refine g_goto hC dX7_count_145 (tgt := 150) (by decide) ?_
        refine g_iretI hC hRt rfl dX7_count_150 ?_
        refine ⟨?_, hR, fS.rf⟩
        rcases (show k = 8 ∨ k = 9 by omega) with rfl | rfl
        · simp [vCount, (show ¬ (nI 8 = nI 0) by decide), (show ¬ (nI 8 = nI 1) by decide), (show ¬ (nI 8 = nI 2) by decide), (show ¬ (nI 8 = nI 3) by decide), (show ¬ (nI 8 = nI 4) by decide), (show ¬ (nI 8 = nI 5) by decide), (show ¬ (nI 8 = nI 6) by decide), (show ¬ (nI 8 = nI 7) by decide)]
        · simp [vCount, (show ¬ (nI 9 = nI 0) by decide), (show ¬ (nI 9 = nI 1) by decide), (show ¬ (nI 9 = nI 2) by decide), (show ¬ (nI 9 = nI 3) by decide), (show ¬ (nI 9 = nI 4) by decide), (show ¬ (nI 9 = nI 5) by decide), (show ¬ (nI 9 = nI 6) by decide), (show ¬ (nI 9 = nI 7) by decide), (show ¬ (nI 9 = nI 8) by decide)]
    · refine g_iload_2 hC dX7_count_9 (pc' := 10) rfl ?_
      refine g_aload_0 hC dX7_count_10 (pc' := 11) rfl ?_
      refine g_iload_3 hC dX7_count_11 (pc' := 12) rfl ?_
      refine g_iconst hC dX7_count_12 (pc' := 13) kc_iconst_0 rfl ?_
      refine g_callV2R hC (c_marksOf (s := t) (b := false) (by omega) hR hI) ml_X7_117 (sh_M ad) rfl ⟨(Nat.le_of_ble_eq_true rfl), (Nat.le_of_ble_eq_true rfl)⟩ (Nat.le_of_ble_eq_true rfl) dX7_count_13 (pc' := 16) rfl ⟨Nat.zero_le _, Nat.zero_le _⟩ ?_
      refine g_iaddN hC dX7_count_16 (pc' := 17) rfl ?_
      refine g_istore_2 hC dX7_count_17 (pc' := 18) rfl (Nat.le_of_ble_eq_true rfl) rfl ?_
      refine g_iinc_3 hC dX7_count_18 (pc' := 21) rfl (Nat.le_of_ble_eq_true rfl) rfl (nI_inc _ _ kc_iinc_1) ?_
      refine g_goto hC dX7_count_21 (tgt := 4) (by decide) ?_
      exact g_weak (ih4 (by omega)) (gle_s (gle_s (gle_i (by rfl) (gle_i (by first | rfl | omega) gle_nil))))
  exact g_weak (L4 0 (by exact Nat.zero_le _)) (gle_s (gle_s (gle_i (by rfl) (gle_s gle_nil))))

set_option maxHeartbeats 4000000 in
set_option maxRecDepth 100000 in
theorem c_differ {l : Launch} {ad : Nat → Nat} {X : gX} {a c : Int32} {g : Nat → Nat} (hR : RM X g) (hI : Inv g) : K_X7_differ l ad [.ref 201, .int (a), .int (c)] X (pR X (vDiff g a c)) := by
  refine Ct.of [.ref 201, .int (a), .int (c), .null, .null, .null, .null] 4 (by decide +kernel) rfl (Nat.le_of_ble_eq_true rfl) (fun F hl hC hRt _ => ?_)
  subst hl
  refine g_iload_1 hC dX7_differ_0 (pc' := 1) rfl ?_
  refine g_callS1R hC (c_isSheet) ml_X7_50 ⟨(Nat.le_of_ble_eq_true rfl), (Nat.le_of_ble_eq_true rfl)⟩ (Nat.le_of_ble_eq_true rfl) dX7_differ_1 (pc' := 4) rfl ⟨Nat.zero_le _, Nat.zero_le _⟩ ?_
  refine g_ifZ_eq hC dX7_differ_4 (pc' := 7) (tgt := 14) (by decide) rfl (fun h4 => ?_) (fun h4 => ?_)
  · refine g_iconst hC dX7_differ_14 (pc' := 15) kc_iconst_m1 rfl ?_
    refine g_iretR hC hRt rfl dX7_differ_15 ?_
    simp only [vDiff, cl_nI, h4, ↓reduceIte, Bool.false_eq_true]
  · obtain ⟨s, rfl, -, hs⟩ := inB_N (by decide) h4 (by decide)
    have cs : cl (nI s) = s := cl_nI (by omega)
    refine g_iload_2 hC dX7_differ_7 (pc' := 8) rfl ?_
    refine g_callS1R hC (c_isSheet) ml_X7_50 ⟨(Nat.le_of_ble_eq_true rfl), (Nat.le_of_ble_eq_true rfl)⟩ (Nat.le_of_ble_eq_true rfl) dX7_differ_8 (pc' := 11) rfl ⟨Nat.zero_le _, Nat.zero_le _⟩ ?_
    refine g_ifZ_ne hC dX7_differ_11 (pc' := 14) (tgt := 16) (by decide) rfl (fun h11 => ?_) (fun h11 => ?_)
    · obtain ⟨t, rfl, -, ht⟩ := inB_N (by decide) h11 (by decide)
      have ct : cl (nI t) = t := cl_nI (by omega)
      refine g_iconst hC dX7_differ_16 (pc' := 17) kc_iconst_0 rfl ?_
      refine g_istore_3 hC dX7_differ_17 (pc' := 18) rfl (Nat.le_of_ble_eq_true rfl) rfl ?_
      refine g_iconst hC dX7_differ_18 (pc' := 19) kc_iconst_0 rfl ?_
      refine g_istore_4 hC dX7_differ_19 (pc' := 21) rfl (Nat.le_of_ble_eq_true rfl) rfl ?_
      have L21 : ∀ f, f ≤ 10 → G F (S0 ad) (0, 0) X 21 [.ref 201, .int (nI s), .int (nI t), .int (nI (msk (difB g s t) f)), .int (nI f), .null, .null] [] := by
        refine up_ind _ (fun f hk21 ih21 => ?_)
        refine g_iload_4 hC dX7_differ_21 (pc' := 23) rfl ?_
        refine g_bipush hC dX7_differ_23 (pc' := 25) kc_bipush_10 rfl ?_
        refine g_icmpN_ge hC dX7_differ_25 (pc' := 28) (tgt := 103) (by decide) rfl (by omega) (by omega) (fun h25 => ?_) (fun h25 => ?_)
        · refine g_iload_3 hC dX7_differ_103 (pc' := 104) rfl ?_
          refine g_iretR hC hRt rfl dX7_differ_104 ?_
          rw [show f = 10 by omega]
          simp only [vDiff, cl_nI, h4, cs, h11, ct, ↓reduceIte, Bool.false_eq_true]
        · refine g_aload_0 hC dX7_differ_28 (pc' := 29) rfl ?_
          refine g_iload_1 hC dX7_differ_29 (pc' := 30) rfl ?_
          refine g_iload_4 hC dX7_differ_30 (pc' := 32) rfl ?_
          refine g_callV2R hC (c_stateOf (s := s) (f := f) (by omega) (by omega) hR hI) ml_X7_114 (sh_M ad) rfl ⟨(Nat.le_of_ble_eq_true rfl), (Nat.le_of_ble_eq_true rfl)⟩ (Nat.le_of_ble_eq_true rfl) dX7_differ_32 (pc' := 35) rfl ⟨Nat.zero_le _, Nat.zero_le _⟩ ?_
          have k1 := kind_le g s f
          have k2 := kind_le g t f
          refine g_istore_5 hC dX7_differ_35 (pc' := 37) rfl (Nat.le_of_ble_eq_true rfl) rfl ?_
          refine g_iload_5 hC dX7_differ_37 (pc' := 39) rfl ?_
          refine g_aload_0 hC dX7_differ_39 (pc' := 40) rfl ?_
          refine g_iload_2 hC dX7_differ_40 (pc' := 41) rfl ?_
          refine g_iload_4 hC dX7_differ_41 (pc' := 43) rfl ?_
          refine g_callV2R hC (c_stateOf (s := t) (f := f) (by omega) (by omega) hR hI) ml_X7_114 (sh_M ad) rfl ⟨(Nat.le_of_ble_eq_true rfl), (Nat.le_of_ble_eq_true rfl)⟩ (Nat.le_of_ble_eq_true rfl) dX7_differ_43 (pc' := 46) rfl ⟨Nat.zero_le _, Nat.zero_le _⟩ ?_
          refine g_icmpN_ne hC dX7_differ_46 (pc' := 49) (tgt := 78) (by decide) rfl (by omega) (by omega) (fun h46 => ?_) (fun h46 => ?_)
          · refine g_iconst hC dX7_differ_78 (pc' := 79) kc_iconst_0 rfl ?_
            refine g_istore_6 hC dX7_differ_79 (pc' := 81) rfl (Nat.le_of_ble_eq_true rfl) rfl ?_
            refine g_iload_3 hC dX7_differ_81 (pc' := 82) rfl ?_
            refine g_iload_6 hC dX7_differ_82 (pc' := 84) rfl ?_
            refine g_ifN_eq hC dX7_differ_84 (pc' := 87) (tgt := 91) (by decide) rfl (by omega) (fun h84 => ?_) (fun h84 => by omega)
            refine g_iconst hC dX7_differ_91 (pc' := 92) kc_iconst_1 rfl ?_
            refine g_iload_4 hC dX7_differ_92 (pc' := 94) rfl ?_
            refine g_ishl1 hC dX7_differ_94 (pc' := 95) rfl (by omega) ?_
            refine g_iorN hC dX7_differ_95 (pc' := 96) rfl ?_
            refine g_istore_3 hC dX7_differ_96 (pc' := 97) rfl (Nat.le_of_ble_eq_true rfl) rfl ?_
            refine g_iinc_4 hC dX7_differ_97 (pc' := 100) rfl (Nat.le_of_ble_eq_true rfl) rfl (nI_inc _ _ kc_iinc_1) ?_
            refine g_goto hC dX7_differ_100 (tgt := 21) (by decide) ?_
            exact g_weak (ih21 (by omega)) (gle_s (gle_s (gle_s (gle_i (by simp [msk, difB, *]) (gle_i (by first | rfl | omega) (gle_u (gle_u gle_nil)))))))
          · refine g_iload_5 hC dX7_differ_49 (pc' := 51) rfl ?_
            refine g_iconst hC dX7_differ_51 (pc' := 52) kc_iconst_1 rfl ?_
            refine g_icmpN_ne hC dX7_differ_52 (pc' := 55) (tgt := 74) (by decide) rfl (by omega) (by omega) (fun h52 => ?_) (fun h52 => ?_)
            · have h52t : ¬ kind g t f = 1 := by omega
              refine g_iconst hC dX7_differ_74 (pc' := 75) kc_iconst_1 rfl ?_
              refine g_goto hC dX7_differ_75 (tgt := 79) (by decide) ?_
              refine g_istore_6 hC dX7_differ_79 (pc' := 81) rfl (Nat.le_of_ble_eq_true rfl) rfl ?_
              refine g_iload_3 hC dX7_differ_81 (pc' := 82) rfl ?_
              refine g_iload_6 hC dX7_differ_82 (pc' := 84) rfl ?_
              refine g_ifN_eq hC dX7_differ_84 (pc' := 87) (tgt := 91) (by decide) rfl (by omega) (fun h84 => by omega) (fun h84 => ?_)
              refine g_iconst hC dX7_differ_87 (pc' := 88) kc_iconst_0 rfl ?_
              refine g_goto hC dX7_differ_88 (tgt := 95) (by decide) ?_
              refine g_iorN hC dX7_differ_95 (pc' := 96) rfl ?_
              refine g_istore_3 hC dX7_differ_96 (pc' := 97) rfl (Nat.le_of_ble_eq_true rfl) rfl ?_
              refine g_iinc_4 hC dX7_differ_97 (pc' := 100) rfl (Nat.le_of_ble_eq_true rfl) rfl (nI_inc _ _ kc_iinc_1) ?_
              refine g_goto hC dX7_differ_100 (tgt := 21) (by decide) ?_
              exact g_weak (ih21 (by omega)) (gle_s (gle_s (gle_s (gle_i (by simp [msk, difB, *]) (gle_i (by first | rfl | omega) (gle_u (gle_u gle_nil)))))))
            · have hkt : kind g t f = 1 := by omega
              have b1 := vN_lt hI (show s < 5 by omega) (show f < 10 by omega) h52
              have b2 := vN_lt hI (show t < 5 by omega) (show f < 10 by omega) hkt
              refine g_aload_0 hC dX7_differ_55 (pc' := 56) rfl ?_
              refine g_iload_1 hC dX7_differ_56 (pc' := 57) rfl ?_
              refine g_iload_4 hC dX7_differ_57 (pc' := 59) rfl ?_
              refine g_iconst hC dX7_differ_59 (pc' := 60) kc_iconst_0 rfl ?_
              refine g_callV3R hC (c_lastOf0v h52 (by omega) (by omega) hR hI) ml_X7_124 (sh_M ad) rfl ⟨(Nat.le_of_ble_eq_true rfl), (Nat.le_of_ble_eq_true rfl)⟩ (Nat.le_of_ble_eq_true rfl) dX7_differ_60 (pc' := 63) rfl ⟨Nat.zero_le _, Nat.zero_le _⟩ ?_
              refine g_aload_0 hC dX7_differ_63 (pc' := 64) rfl ?_
              refine g_iload_2 hC dX7_differ_64 (pc' := 65) rfl ?_
              refine g_iload_4 hC dX7_differ_65 (pc' := 67) rfl ?_
              refine g_iconst hC dX7_differ_67 (pc' := 68) kc_iconst_0 rfl ?_
              refine g_callV3R hC (c_lastOf0v hkt (by omega) (by omega) hR hI) ml_X7_124 (sh_M ad) rfl ⟨(Nat.le_of_ble_eq_true rfl), (Nat.le_of_ble_eq_true rfl)⟩ (Nat.le_of_ble_eq_true rfl) dX7_differ_68 (pc' := 71) rfl ⟨Nat.zero_le _, Nat.zero_le _⟩ ?_
              refine g_icmpN_ne hC dX7_differ_71 (pc' := 74) (tgt := 78) (by decide) rfl (by omega) (by omega) (fun h71 => ?_) (fun h71 => ?_)
              · refine g_iconst hC dX7_differ_78 (pc' := 79) kc_iconst_0 rfl ?_
                refine g_istore_6 hC dX7_differ_79 (pc' := 81) rfl (Nat.le_of_ble_eq_true rfl) rfl ?_
                refine g_iload_3 hC dX7_differ_81 (pc' := 82) rfl ?_
                refine g_iload_6 hC dX7_differ_82 (pc' := 84) rfl ?_
                refine g_ifN_eq hC dX7_differ_84 (pc' := 87) (tgt := 91) (by decide) rfl (by omega) (fun h84 => ?_) (fun h84 => by omega)
                refine g_iconst hC dX7_differ_91 (pc' := 92) kc_iconst_1 rfl ?_
                refine g_iload_4 hC dX7_differ_92 (pc' := 94) rfl ?_
                refine g_ishl1 hC dX7_differ_94 (pc' := 95) rfl (by omega) ?_
                refine g_iorN hC dX7_differ_95 (pc' := 96) rfl ?_
                refine g_istore_3 hC dX7_differ_96 (pc' := 97) rfl (Nat.le_of_ble_eq_true rfl) rfl ?_
                refine g_iinc_4 hC dX7_differ_97 (pc' := 100) rfl (Nat.le_of_ble_eq_true rfl) rfl (nI_inc _ _ kc_iinc_1) ?_
                refine g_goto hC dX7_differ_100 (tgt := 21) (by decide) ?_
                exact g_weak (ih21 (by omega)) (gle_s (gle_s (gle_s (gle_i (by simp [msk, difB, *]) (gle_i (by first | rfl | omega) (gle_u (gle_u gle_nil)))))))
              · refine g_iconst hC dX7_differ_74 (pc' := 75) kc_iconst_1 rfl ?_
                refine g_goto hC dX7_differ_75 (tgt := 79) (by decide) ?_
                refine g_istore_6 hC dX7_differ_79 (pc' := 81) rfl (Nat.le_of_ble_eq_true rfl) rfl ?_
                refine g_iload_3 hC dX7_differ_81 (pc' := 82) rfl ?_
                refine g_iload_6 hC dX7_differ_82 (pc' := 84) rfl ?_
                refine g_ifN_eq hC dX7_differ_84 (pc' := 87) (tgt := 91) (by decide) rfl (by omega) (fun h84 => by omega) (fun h84 => ?_)
                refine g_iconst hC dX7_differ_87 (pc' := 88) kc_iconst_0 rfl ?_
                refine g_goto hC dX7_differ_88 (tgt := 95) (by decide) ?_
                refine g_iorN hC dX7_differ_95 (pc' := 96) rfl ?_
                refine g_istore_3 hC dX7_differ_96 (pc' := 97) rfl (Nat.le_of_ble_eq_true rfl) rfl ?_
                refine g_iinc_4 hC dX7_differ_97 (pc' := 100) rfl (Nat.le_of_ble_eq_true rfl) rfl (nI_inc _ _ kc_iinc_1) ?_
                refine g_goto hC dX7_differ_100 (tgt := 21) (by decide) ?_
                exact g_weak (ih21 (by omega)) (gle_s (gle_s (gle_s (gle_i (by simp [msk, difB, *]) (gle_i (by first | rfl | omega) (gle_u (gle_u gle_nil)))))))
      exact g_weak (L21 0 (by exact Nat.zero_le _)) (gle_s (gle_s (gle_s (gle_i (by rfl) (gle_s (gle_u (gle_u gle_nil)))))))
    · refine g_iconst hC dX7_differ_14 (pc' := 15) kc_iconst_m1 rfl ?_
      refine g_iretR hC hRt rfl dX7_differ_15 ?_
      simp only [vDiff, cl_nI, h4, cs, h11, ↓reduceIte, Bool.false_eq_true]

set_option maxHeartbeats 4000000 in
set_option maxRecDepth 100000 in
theorem c_enoughFor {l : Launch} {ad : Nat → Nat} {X : gX} {a : Int32} {g : Nat → Nat} (hR : RM X g) (hI : Inv g) : K_X7_enoughFor l ad [.ref 201, .int (a)] X (fun rr X' => rr = vEnough g a ∧ RM X' g ∧ fS X X') := by
  refine Ct.of [.ref 201, .int (a), .null] 1 (by decide +kernel) rfl (Nat.le_of_ble_eq_true rfl) (fun F hl hC hRt _ => ?_)
  subst hl
  have b0 := hI.1.1
  refine g_iload_1 hC dX7_enoughFor_0 (pc' := 1) rfl ?_
  refine g_callS1R hC (c_isSheet) ml_X7_50 ⟨(Nat.le_of_ble_eq_true rfl), (Nat.le_of_ble_eq_true rfl)⟩ (Nat.le_of_ble_eq_true rfl) dX7_enoughFor_1 (pc' := 4) rfl ⟨Nat.zero_le _, Nat.zero_le _⟩ ?_
  refine g_ifZ_ne hC dX7_enoughFor_4 (pc' := 7) (tgt := 9) (by decide) rfl (fun h4 => ?_) (fun h4 => ?_)
  · obtain ⟨s, rfl, -, hs⟩ := inB_N (by decide) h4 (by decide)
    have cs : cl (nI s) = s := cl_nI (by omega)
    refine g_iconst hC dX7_enoughFor_9 (pc' := 10) kc_iconst_1 rfl ?_
    refine g_istore_2 hC dX7_enoughFor_10 (pc' := 11) rfl (Nat.le_of_ble_eq_true rfl) rfl ?_
    have L11 : ∀ p, p ≤ 10 → 1 ≤ p → lfr (enB g s) 1 = lfr (enB g s) p → ∀ X1 : gX, (RM X1 g ∧ fS X X1) → G F (S0 ad) (0, 0) X1 11 [.ref 201, .int (nI s), .int (nI p)] [] := by
      refine up_ind _ (fun p hk11 ih11 => ?_)
      intro hp1 hlf
      intro X1 hm11
      refine g_iload_2 hC dX7_enoughFor_11 (pc' := 12) rfl ?_
      refine g_bipush hC dX7_enoughFor_12 (pc' := 14) kc_bipush_10 rfl ?_
      refine g_icmpN_ge hC dX7_enoughFor_14 (pc' := 17) (tgt := 46) (by decide) rfl (by omega) (by omega) (fun h14 => ?_) (fun h14 => ?_)
      · refine g_bipush hC dX7_enoughFor_46 (pc' := 48) kc_bipush_m6 rfl ?_
        refine g_iretI hC hRt rfl dX7_enoughFor_48 ?_
        refine ⟨?_, hm11⟩
        rw [show p = 10 by omega, lfr_10] at hlf
        simp only [vEnough, cl_nI, h4, cs, ↓reduceIte, hlf, zn]
      · refine g_aload_0 hC dX7_enoughFor_17 (pc' := 18) rfl ?_
        refine g_iload_2 hC dX7_enoughFor_18 (pc' := 19) rfl ?_
        refine g_callV1I hC (c_layPress (p := p) ⟨hp1, by omega⟩ hm11.1 hI) ml_X7_82 (sh_M ad) rfl ⟨(Nat.le_of_ble_eq_true rfl), (Nat.le_of_ble_eq_true rfl)⟩ (Nat.le_of_ble_eq_true rfl) dX7_enoughFor_19 (pc' := 22) rfl ⟨Nat.zero_le _, Nat.zero_le _⟩ (fun v19 X19 q19 => ?_)
        obtain ⟨rfl, hX, hA⟩ := q19
        have ha := arv_le g p s
        refine g_pop hC dX7_enoughFor_22 (pc' := 23) rfl rfl ?_
        refine g_aload_0 hC dX7_enoughFor_23 (pc' := 24) rfl ?_
        refine g_getR hC fl_X7_29 (sh_M ad) rfl dX7_enoughFor_24 (pc' := 27) rfl ?_
        refine g_iload_1 hC dX7_enoughFor_27 (pc' := 28) rfl ?_
        refine g_iald hC (sh_mcomes ad) (Nat.le_of_ble_eq_true rfl) (by omega) (hA s (by omega)) dX7_enoughFor_28 (pc' := 29) rfl ?_
        refine g_aload_0 hC dX7_enoughFor_29 (pc' := 30) rfl ?_
        refine g_getR hC fl_X7_7 (sh_M ad) rfl dX7_enoughFor_30 (pc' := 33) rfl ?_
        refine g_iconst hC dX7_enoughFor_33 (pc' := 34) kc_iconst_0 rfl ?_
        refine g_iald hC (sh_mnow ad) (Nat.le_of_ble_eq_true rfl) (by omega) ((hm11.1.of (hX 202 (by decide))).at (by decide) (by decide)) dX7_enoughFor_34 (pc' := 35) rfl ?_
        refine g_icmpN_lt hC dX7_enoughFor_35 (pc' := 38) (tgt := 40) (by decide) rfl (by omega) (by omega) (fun h35 => ?_) (fun h35 => ?_)
        · have hP : enB g s p = false := decide_eq_false (by omega)
          refine g_iinc_2 hC dX7_enoughFor_40 (pc' := 43) rfl (Nat.le_of_ble_eq_true rfl) rfl (nI_inc _ _ kc_iinc_1) ?_
          refine g_goto hC dX7_enoughFor_43 (tgt := 11) (by decide) ?_
          exact g_weak (ih11 (by omega) (by omega) (hlf.trans (lfr_f (by omega) hP)) _ (by exact ⟨hm11.1.of (hX 202 (by decide)), hm11.2.tr (fS.c hX)⟩)) (gle_s (gle_s (gle_i (by first | rfl | omega) gle_nil)))
        · have hP : enB g s p = true := decide_eq_true (by omega)
          refine g_iload_2 hC dX7_enoughFor_38 (pc' := 39) rfl ?_
          refine g_iretI hC hRt rfl dX7_enoughFor_39 ?_
          refine ⟨?_, hm11.1.of (hX 202 (by decide)), hm11.2.tr (fS.c hX)⟩
          rw [lfr_t (by omega) hP] at hlf
          simp only [vEnough, cl_nI, h4, cs, ↓reduceIte, hlf, zn]
          rw [if_neg (by omega)]
    exact g_weak (L11 1 (by decide) (by decide) rfl _ (by exact ⟨hR, fS.rf⟩)) (gle_s (gle_s (gle_s gle_nil)))
  · refine g_iconst hC dX7_enoughFor_7 (pc' := 8) kc_iconst_m1 rfl ?_
    refine g_iretI hC hRt rfl dX7_enoughFor_8 ?_
    refine ⟨?_, hR, fS.rf⟩
    simp only [vEnough, cl_nI, h4, ↓reduceIte, Bool.false_eq_true]

set_option maxHeartbeats 4000000 in
set_option maxRecDepth 100000 in
theorem c_keep {l : Launch} {ad : Nat → Nat} {X : gX}  : K_X7_keep l ad [.ref 201] X (fun X' => (∀ i, i ≠ 203 → X' i = X i) ∧ ∀ j, j < 470 → X' 203 j = X 202 j) := by
  refine Ct.of [.ref 201, .null] 1 (by decide +kernel) rfl (Nat.le_of_ble_eq_true rfl) (fun F hl hC hRt _ => ?_)
  subst hl
  refine g_iconst hC dX7_keep_0 (pc' := 1) kc_iconst_0 rfl ?_
  refine g_istore_1 hC dX7_keep_1 (pc' := 2) rfl (Nat.le_of_ble_eq_true rfl) rfl ?_
  have L2 : ∀ k, k ≤ 470 → ∀ X1 : gX, ((∀ i, i ≠ 203 → X1 i = X i) ∧ ∀ j, j < k → X1 203 j = X 202 j) → G F (S0 ad) (0, 0) X1 2 [.ref 201, .int (nI k)] [] := by
    refine up_ind _ (fun k hk2 ih2 => ?_)
    intro X1 hm2
    have hs : X1 202 k = X 202 k := by rw [hm2.1 202 (by decide)]
    refine g_iload_1 hC dX7_keep_2 (pc' := 3) rfl ?_
    refine g_sipush hC dX7_keep_3 (pc' := 6) kc_sipush_470 rfl ?_
    refine g_icmpN_ge hC dX7_keep_6 (pc' := 9) (tgt := 27) (by decide) rfl (by omega) (by omega) (fun h6 => ?_) (fun h6 => ?_)
    · refine g_vretV hC hRt dX7_keep_27 ?_
      rw [show k = 470 by omega] at hm2
      exact hm2
    · refine g_aload_0 hC dX7_keep_9 (pc' := 10) rfl ?_
      refine g_getR hC fl_X7_13 (sh_M ad) rfl dX7_keep_10 (pc' := 13) rfl ?_
      refine g_iload_1 hC dX7_keep_13 (pc' := 14) rfl ?_
      refine g_aload_0 hC dX7_keep_14 (pc' := 15) rfl ?_
      refine g_getR hC fl_X7_7 (sh_M ad) rfl dX7_keep_15 (pc' := 18) rfl ?_
      refine g_iload_1 hC dX7_keep_18 (pc' := 19) rfl ?_
      refine g_iald hC (sh_mnow ad) (Nat.le_of_ble_eq_true rfl) (by omega) (hs) dX7_keep_19 (pc' := 20) rfl ?_
      refine g_iast hC (sh_mkept ad) (Nat.le_of_ble_eq_true rfl) (by omega) dX7_keep_20 (pc' := 21) rfl ?_
      refine g_iinc_1 hC dX7_keep_21 (pc' := 24) rfl (Nat.le_of_ble_eq_true rfl) rfl (nI_inc _ _ kc_iinc_1) ?_
      refine g_goto hC dX7_keep_24 (tgt := 2) (by decide) ?_
      exact g_weak (ih2 (by omega) _ (by exact kc_step hm2)) (gle_s (gle_i (by first | rfl | omega) gle_nil))
  exact g_weak (L2 0 (by exact Nat.zero_le _) _ (by exact ⟨fun _ _ => rfl, fun j hj => absurd hj (Nat.not_lt_zero j)⟩)) (gle_s (gle_s gle_nil))

set_option maxHeartbeats 4000000 in
set_option maxRecDepth 100000 in
theorem c_comeBack {l : Launch} {ad : Nat → Nat} {X : gX}  : K_X7_comeBack l ad [.ref 201] X (fun X' => (∀ i, i ≠ 202 → X' i = X i) ∧ ∀ j, j < 470 → X' 202 j = X 203 j) := by
  refine Ct.of [.ref 201, .null] 1 (by decide +kernel) rfl (Nat.le_of_ble_eq_true rfl) (fun F hl hC hRt _ => ?_)
  subst hl
  refine g_iconst hC dX7_comeBack_0 (pc' := 1) kc_iconst_0 rfl ?_
  refine g_istore_1 hC dX7_comeBack_1 (pc' := 2) rfl (Nat.le_of_ble_eq_true rfl) rfl ?_
  have L2 : ∀ k, k ≤ 470 → ∀ X1 : gX, ((∀ i, i ≠ 202 → X1 i = X i) ∧ ∀ j, j < k → X1 202 j = X 203 j) → G F (S0 ad) (0, 0) X1 2 [.ref 201, .int (nI k)] [] := by
    refine up_ind _ (fun k hk2 ih2 => ?_)
    intro X1 hm2
    have hs : X1 203 k = X 203 k := by rw [hm2.1 203 (by decide)]
    refine g_iload_1 hC dX7_comeBack_2 (pc' := 3) rfl ?_
    refine g_sipush hC dX7_comeBack_3 (pc' := 6) kc_sipush_470 rfl ?_
    refine g_icmpN_ge hC dX7_comeBack_6 (pc' := 9) (tgt := 27) (by decide) rfl (by omega) (by omega) (fun h6 => ?_) (fun h6 => ?_)
    · refine g_vretV hC hRt dX7_comeBack_27 ?_
      rw [show k = 470 by omega] at hm2
      exact hm2
    · refine g_aload_0 hC dX7_comeBack_9 (pc' := 10) rfl ?_
      refine g_getR hC fl_X7_7 (sh_M ad) rfl dX7_comeBack_10 (pc' := 13) rfl ?_
      refine g_iload_1 hC dX7_comeBack_13 (pc' := 14) rfl ?_
      refine g_aload_0 hC dX7_comeBack_14 (pc' := 15) rfl ?_
      refine g_getR hC fl_X7_13 (sh_M ad) rfl dX7_comeBack_15 (pc' := 18) rfl ?_
      refine g_iload_1 hC dX7_comeBack_18 (pc' := 19) rfl ?_
      refine g_iald hC (sh_mkept ad) (Nat.le_of_ble_eq_true rfl) (by omega) (hs) dX7_comeBack_19 (pc' := 20) rfl ?_
      refine g_iast hC (sh_mnow ad) (Nat.le_of_ble_eq_true rfl) (by omega) dX7_comeBack_20 (pc' := 21) rfl ?_
      refine g_iinc_1 hC dX7_comeBack_21 (pc' := 24) rfl (Nat.le_of_ble_eq_true rfl) rfl (nI_inc _ _ kc_iinc_1) ?_
      refine g_goto hC dX7_comeBack_24 (tgt := 2) (by decide) ?_
      exact g_weak (ih2 (by omega) _ (by exact kc_step hm2)) (gle_s (gle_i (by first | rfl | omega) gle_nil))
  exact g_weak (L2 0 (by exact Nat.zero_le _) _ (by exact ⟨fun _ _ => rfl, fun j hj => absurd hj (Nat.not_lt_zero j)⟩)) (gle_s (gle_s gle_nil))

set_option maxHeartbeats 4000000 in
set_option maxRecDepth 100000 in
theorem c_isEmptyInStack {l : Launch} {ad : Nat → Nat} {X : gX} {f : Nat} (hf : f < 10) {g : Nat → Nat} (hR : RM X g) (hI : Inv g) : K_X7_isEmptyInStack l ad [.ref 201, .int (nI f)] X (pR X (zI (emp g f))) := by
  refine Ct.of [.ref 201, .int (nI f), .null, .null] 2 (by decide +kernel) rfl (Nat.le_of_ble_eq_true rfl) (fun F hl hC hRt _ => ?_)
  subst hl
  have b23 : g 2 ≤ g 3 ∧ g 3 ≤ 5 := hI.1.2.2
  refine g_iconst hC dX7_isEmptyInStack_0 (pc' := 1) kc_iconst_1 rfl ?_
  refine g_istore_2 hC dX7_isEmptyInStack_1 (pc' := 2) rfl (Nat.le_of_ble_eq_true rfl) rfl ?_
  refine g_aload_0 hC dX7_isEmptyInStack_2 (pc' := 3) rfl ?_
  refine g_getR hC fl_X7_7 (sh_M ad) rfl dX7_isEmptyInStack_3 (pc' := 6) rfl ?_
  refine g_iconst hC dX7_isEmptyInStack_6 (pc' := 7) kc_iconst_2 rfl ?_
  refine g_iald hC (sh_mnow ad) (Nat.le_of_ble_eq_true rfl) (by omega) (hR.at (by decide) (by decide)) dX7_isEmptyInStack_7 (pc' := 8) rfl ?_
  refine g_istore_3 hC dX7_isEmptyInStack_8 (pc' := 9) rfl (Nat.le_of_ble_eq_true rfl) rfl ?_
  have L9 : ∀ t, t ≤ g 3 → g 2 ≤ t → G F (S0 ad) (0, 0) X 9 [.ref 201, .int (nI f), .int (zI (!anB (seen g f) t)), .int (nI t)] [] := by
    refine up_ind _ (fun t hk9 ih9 => ?_)
    intro ht2
    refine g_iload_3 hC dX7_isEmptyInStack_9 (pc' := 10) rfl ?_
    refine g_aload_0 hC dX7_isEmptyInStack_10 (pc' := 11) rfl ?_
    refine g_getR hC fl_X7_7 (sh_M ad) rfl dX7_isEmptyInStack_11 (pc' := 14) rfl ?_
    refine g_iconst hC dX7_isEmptyInStack_14 (pc' := 15) kc_iconst_3 rfl ?_
    refine g_iald hC (sh_mnow ad) (Nat.le_of_ble_eq_true rfl) (by omega) (hR.low) dX7_isEmptyInStack_15 (pc' := 16) rfl ?_
    refine g_icmpL_gt hC dX7_isEmptyInStack_16 (pc' := 19) (tgt := 44) (by decide) rfl (by omega) (by omega) (fun h16 => ?_) (fun h16 => ?_)
    · refine g_iload_2 hC dX7_isEmptyInStack_44 (pc' := 45) rfl ?_
      refine g_iretR hC hRt (nz_z _) dX7_isEmptyInStack_45 ?_
      rw [show t = g 3 by omega, seen_hi (by omega)]; rfl
    · refine g_iload_2 hC dX7_isEmptyInStack_19 (pc' := 20) rfl ?_
      refine g_ifZ_eq hC dX7_isEmptyInStack_20 (pc' := 23) (tgt := 36) (by decide) rfl (fun h20 => ?_) (fun h20 => ?_)
      · refine g_iconst hC dX7_isEmptyInStack_36 (pc' := 37) kc_iconst_0 rfl ?_
        refine g_istore_2 hC dX7_isEmptyInStack_37 (pc' := 38) rfl (Nat.le_of_ble_eq_true rfl) rfl ?_
        refine g_iinc_3 hC dX7_isEmptyInStack_38 (pc' := 41) rfl (Nat.le_of_ble_eq_true rfl) rfl (nI_inc _ _ kc_iinc_1) ?_
        refine g_goto hC dX7_isEmptyInStack_41 (tgt := 9) (by decide) ?_
        exact g_weak (ih9 (by omega) (by omega)) (gle_s (gle_s (gle_i (by first | exact (nI0_z (anB_n h20)).symm | exact (nI1_z (by rw [anB_f (by simp [seen, hl])]; exact h20)).symm | exact (nI0_z (by rw [anB_t (by simp [seen, hl, hin])]; rfl)).symm) (gle_i (by first | rfl | omega) gle_nil))))
      · refine g_aload_0 hC dX7_isEmptyInStack_23 (pc' := 24) rfl ?_
        refine g_iload_3 hC dX7_isEmptyInStack_24 (pc' := 25) rfl ?_
        refine g_iload_1 hC dX7_isEmptyInStack_25 (pc' := 26) rfl ?_
        refine g_callV2R hC (c_lastAt (s := t) (f := f) (by omega) hf hR hI) ml_X7_108 (sh_M ad) rfl ⟨(Nat.le_of_ble_eq_true rfl), (Nat.le_of_ble_eq_true rfl)⟩ (Nat.le_of_ble_eq_true rfl) dX7_isEmptyInStack_26 (pc' := 29) rfl ⟨Nat.zero_le _, Nat.zero_le _⟩ ?_
        refine g_if_ge hC dX7_isEmptyInStack_29 (pc' := 32) (tgt := 36) (by decide) rfl (fun h29 => ?_) (fun h29 => ?_)
        · have hl : ¬ last g t f = 0 := (oI_ge (by have := last_le g t f; have := hI.c (show t < 5 by omega) hf; omega)).mp h29
          have hin : inS g t = true := inS_iff.mpr ⟨ht2, h16⟩
          refine g_iconst hC dX7_isEmptyInStack_36 (pc' := 37) kc_iconst_0 rfl ?_
          refine g_istore_2 hC dX7_isEmptyInStack_37 (pc' := 38) rfl (Nat.le_of_ble_eq_true rfl) rfl ?_
          refine g_iinc_3 hC dX7_isEmptyInStack_38 (pc' := 41) rfl (Nat.le_of_ble_eq_true rfl) rfl (nI_inc _ _ kc_iinc_1) ?_
          refine g_goto hC dX7_isEmptyInStack_41 (tgt := 9) (by decide) ?_
          exact g_weak (ih9 (by omega) (by omega)) (gle_s (gle_s (gle_i (by first | exact (nI0_z (anB_n h20)).symm | exact (nI1_z (by rw [anB_f (by simp [seen, hl])]; exact h20)).symm | exact (nI0_z (by rw [anB_t (by simp [seen, hl, hin])]; rfl)).symm) (gle_i (by first | rfl | omega) gle_nil))))
        · have hl : last g t f = 0 := Decidable.not_not.mp (fun z => h29 ((oI_ge (by have := last_le g t f; have := hI.c (show t < 5 by omega) hf; omega)).mpr z))
          refine g_iconst hC dX7_isEmptyInStack_32 (pc' := 33) kc_iconst_1 rfl ?_
          refine g_goto hC dX7_isEmptyInStack_33 (tgt := 37) (by decide) ?_
          refine g_istore_2 hC dX7_isEmptyInStack_37 (pc' := 38) rfl (Nat.le_of_ble_eq_true rfl) rfl ?_
          refine g_iinc_3 hC dX7_isEmptyInStack_38 (pc' := 41) rfl (Nat.le_of_ble_eq_true rfl) rfl (nI_inc _ _ kc_iinc_1) ?_
          refine g_goto hC dX7_isEmptyInStack_41 (tgt := 9) (by decide) ?_
          exact g_weak (ih9 (by omega) (by omega)) (gle_s (gle_s (gle_i (by first | exact (nI0_z (anB_n h20)).symm | exact (nI1_z (by rw [anB_f (by simp [seen, hl])]; exact h20)).symm | exact (nI0_z (by rw [anB_t (by simp [seen, hl, hin])]; rfl)).symm) (gle_i (by first | rfl | omega) gle_nil))))
  exact g_weak (L9 (g 2) (by omega) (Nat.le_refl _)) (gle_s (gle_s (gle_i (by rw [seen_lo]; rfl) (gle_i (by first | rfl | omega) gle_nil))))

set_option maxHeartbeats 4000000 in
set_option maxRecDepth 100000 in
theorem c_strikeFor {l : Launch} {ad : Nat → Nat} {X : gX} {a : Int32} {n : Nat} {h : Nat → Nat → Nat} {b : Bool} {g : Nat → Nat} (hm : MR X g n h b) (hI : Inv g) : K_X7_strikeFor l ad [.ref 201, .int (a)] X (fun rr X' => rr = vStrF g a ∧ RM X' g ∧ fS X X') := by
  refine Ct.of [.ref 201, .int (a), .null, .null] 2 (by decide +kernel) rfl (Nat.le_of_ble_eq_true rfl) (fun F hl hC hRt _ => ?_)
  subst hl
  refine g_iload_1 hC dX7_strikeFor_0 (pc' := 1) rfl ?_
  refine g_callS1R hC (c_isField) ml_X7_75 ⟨(Nat.le_of_ble_eq_true rfl), (Nat.le_of_ble_eq_true rfl)⟩ (Nat.le_of_ble_eq_true rfl) dX7_strikeFor_1 (pc' := 4) rfl ⟨Nat.zero_le _, Nat.zero_le _⟩ ?_
  refine g_ifZ_ne hC dX7_strikeFor_4 (pc' := 7) (tgt := 9) (by decide) rfl (fun h4 => ?_) (fun h4 => ?_)
  · obtain ⟨f, rfl, -, hf⟩ := inB_N (by decide) h4 (by decide)
    have cf : cl (nI f) = f := cl_nI (by omega)
    refine g_aload_0 hC dX7_strikeFor_9 (pc' := 10) rfl ?_
    refine g_callV0R hC (c_hasStack hm.1 hI) ml_X7_78 (sh_M ad) rfl ⟨(Nat.le_of_ble_eq_true rfl), (Nat.le_of_ble_eq_true rfl)⟩ (Nat.le_of_ble_eq_true rfl) dX7_strikeFor_10 (pc' := 13) rfl ⟨Nat.zero_le _, Nat.zero_le _⟩ ?_
    refine g_ifZ_ne hC dX7_strikeFor_13 (pc' := 16) (tgt := 19) (by decide) rfl (fun h13 => ?_) (fun h13 => ?_)
    · have hst := of_decide_eq_true h13
      refine g_aload_0 hC dX7_strikeFor_19 (pc' := 20) rfl ?_
      refine g_callV0V hC (c_keep) ml_X7_159 (sh_M ad) rfl ⟨(Nat.le_of_ble_eq_true rfl), (Nat.le_of_ble_eq_true rfl)⟩ (Nat.le_of_ble_eq_true rfl) dX7_strikeFor_20 (pc' := 23) rfl ⟨Nat.zero_le _, Nat.zero_le _⟩ (fun X20 q20 => ?_)
      obtain ⟨e20, k20⟩ := q20
      refine g_iconst hC dX7_strikeFor_23 (pc' := 24) kc_iconst_1 rfl ?_
      refine g_istore_2 hC dX7_strikeFor_24 (pc' := 25) rfl (Nat.le_of_ble_eq_true rfl) rfl ?_
      have L25 : ∀ p, p ≤ 10 → 1 ≤ p → lfr (sfB g f) 1 = lfr (sfB g f) p → ∀ X1 : gX, (RM X1 g ∧ (∀ j, j < 470 → X1 203 j = ar g j) ∧ fS X X1) → G F (S0 ad) (0, 0) X1 25 [.ref 201, .int (nI f), .int (nI p), .null] [] := by
        refine up_ind _ (fun p hk25 ih25 => ?_)
        intro hp1 hlf
        intro X1 hm25
        refine g_iload_2 hC dX7_strikeFor_25 (pc' := 26) rfl ?_
        refine g_bipush hC dX7_strikeFor_26 (pc' := 28) kc_bipush_10 rfl ?_
        refine g_icmpN_ge hC dX7_strikeFor_28 (pc' := 31) (tgt := 60) (by decide) rfl (by omega) (by omega) (fun h28 => ?_) (fun h28 => ?_)
        · refine g_bipush hC dX7_strikeFor_60 (pc' := 62) kc_bipush_m6 rfl ?_
          refine g_iretI hC hRt rfl dX7_strikeFor_62 ?_
          refine ⟨?_, hm25.1, hm25.2.2⟩
          rw [show p = 10 by omega, lfr_10] at hlf
          simp only [vStrF, cl_nI, h4, cf, h13, eq_true hst, ↓reduceIte, hlf, zn]
        · refine g_aload_0 hC dX7_strikeFor_31 (pc' := 32) rfl ?_
          refine g_iload_1 hC dX7_strikeFor_32 (pc' := 33) rfl ?_
          refine g_iload_2 hC dX7_strikeFor_33 (pc' := 34) rfl ?_
          refine g_callV2I hC (c_strikeNow (f := f) (p := p) (by omega) ⟨hp1, by omega⟩ hst (hm.s hm25.1 hm25.2.2) hI) ml_X7_102 (sh_M ad) rfl ⟨(Nat.le_of_ble_eq_true rfl), (Nat.le_of_ble_eq_true rfl)⟩ (Nat.le_of_ble_eq_true rfl) dX7_strikeFor_34 (pc' := 37) rfl ⟨Nat.zero_le _, Nat.zero_le _⟩ (fun v34 X34 q34 => ?_)
          obtain ⟨rfl, m34, f34⟩ := q34
          refine g_pop hC dX7_strikeFor_37 (pc' := 38) rfl rfl ?_
          refine g_aload_0 hC dX7_strikeFor_38 (pc' := 39) rfl ?_
          refine g_iload_1 hC dX7_strikeFor_39 (pc' := 40) rfl ?_
          refine g_callV1R hC (c_isEmptyInStack (f := f) (by omega) m34.1 (Inv_str hI ⟨hp1, by omega⟩ (by omega))) ml_X7_162 (sh_M ad) rfl ⟨(Nat.le_of_ble_eq_true rfl), (Nat.le_of_ble_eq_true rfl)⟩ (Nat.le_of_ble_eq_true rfl) dX7_strikeFor_40 (pc' := 43) rfl ⟨Nat.zero_le _, Nat.zero_le _⟩ ?_
          refine g_istore_3 hC dX7_strikeFor_43 (pc' := 44) rfl (Nat.le_of_ble_eq_true rfl) rfl ?_
          refine g_aload_0 hC dX7_strikeFor_44 (pc' := 45) rfl ?_
          refine g_callV0V hC (c_comeBack) ml_X7_165 (sh_M ad) rfl ⟨(Nat.le_of_ble_eq_true rfl), (Nat.le_of_ble_eq_true rfl)⟩ (Nat.le_of_ble_eq_true rfl) dX7_strikeFor_45 (pc' := 48) rfl ⟨Nat.zero_le _, Nat.zero_le _⟩ (fun X45 q45 => ?_)
          obtain ⟨e45, k45⟩ := q45
          have hk203 : ∀ j, j < 470 → X34 203 j = ar g j := fun j hj => by rw [f34 203 (by decide) (by decide)]; exact hm25.2.1 j hj
          have r45 : RM X45 g := fun j hj => (k45 j hj).trans (hk203 j hj)
          have fs : fS X X45 := (hm25.2.2.tr (fS.fN f34)).tr (fS.n e45)
          refine g_iload_3 hC dX7_strikeFor_48 (pc' := 49) rfl ?_
          refine g_ifZ_eq hC dX7_strikeFor_49 (pc' := 52) (tgt := 54) (by decide) rfl (fun h49 => ?_) (fun h49 => ?_)
          · refine g_iinc_2 hC dX7_strikeFor_54 (pc' := 57) rfl (Nat.le_of_ble_eq_true rfl) rfl (nI_inc _ _ kc_iinc_1) ?_
            refine g_goto hC dX7_strikeFor_57 (tgt := 25) (by decide) ?_
            exact g_weak (ih25 (by omega) (by omega) (hlf.trans (lfr_f (P := sfB g f) (by omega) h49)) _ (by exact ⟨r45, fun j hj => by rw [e45 203 (by decide)]; exact hk203 j hj, fs⟩)) (gle_s (gle_s (gle_i (by first | rfl | omega) (gle_u gle_nil))))
          · refine g_iload_2 hC dX7_strikeFor_52 (pc' := 53) rfl ?_
            refine g_iretI hC hRt rfl dX7_strikeFor_53 ?_
            refine ⟨?_, r45, fs⟩
            rw [lfr_t (P := sfB g f) (by omega) h49] at hlf
            simp only [vStrF, cl_nI, h4, cf, h13, eq_true hst, h49, ↓reduceIte, hlf, zn]
            rw [if_neg (by omega)]
      exact g_weak (L25 1 (by decide) (by decide) rfl _ (by exact ⟨hm.1.of (e20 202 (by decide)), fun j hj => (k20 j hj).trans (hm.1 j hj), fS.k e20⟩)) (gle_s (gle_s (gle_s (gle_u gle_nil))))
    · have hst : ¬ g 2 < g 3 := of_decide_eq_false h13
      refine g_bipush hC dX7_strikeFor_16 (pc' := 18) kc_bipush_m6 rfl ?_
      refine g_iretI hC hRt rfl dX7_strikeFor_18 ?_
      refine ⟨?_, hm.1, fS.rf⟩
      simp only [vStrF, cl_nI, h4, cf, h13, eq_false hst, ↓reduceIte, Bool.false_eq_true]
  · refine g_iconst hC dX7_strikeFor_7 (pc' := 8) kc_iconst_m1 rfl ?_
    refine g_iretI hC hRt rfl dX7_strikeFor_8 ?_
    refine ⟨?_, hm.1, fS.rf⟩
    simp only [vStrF, cl_nI, h4, ↓reduceIte, Bool.false_eq_true]

set_option maxHeartbeats 4000000 in
set_option maxRecDepth 100000 in
theorem c_lasts {l : Launch} {ad : Nat → Nat} {X : gX} {a : Int32} {g : Nat → Nat} (hR : RM X g) (hI : Inv g) : K_X7_lasts l ad [.ref 201, .int (a)] X (pR X (vLasts g a)) := by
  refine Ct.of [.ref 201, .int (a), .null, .null, .null] 3 (by decide +kernel) rfl (Nat.le_of_ble_eq_true rfl) (fun F hl hC hRt _ => ?_)
  subst hl
  have b23 : g 2 ≤ g 3 ∧ g 3 ≤ 5 := hI.1.2.2
  refine g_iload_1 hC dX7_lasts_0 (pc' := 1) rfl ?_
  refine g_iconst hC dX7_lasts_1 (pc' := 2) kc_iconst_1 rfl ?_
  refine g_bipush hC dX7_lasts_2 (pc' := 4) kc_bipush_9 rfl ?_
  refine g_callS3R hC (c_in) ml_X7_43 ⟨(Nat.le_of_ble_eq_true rfl), (Nat.le_of_ble_eq_true rfl)⟩ (Nat.le_of_ble_eq_true rfl) dX7_lasts_4 (pc' := 7) rfl ⟨Nat.zero_le _, Nat.zero_le _⟩ ?_
  refine g_ifZ_ne hC dX7_lasts_7 (pc' := 10) (tgt := 13) (by decide) rfl (fun h7 => ?_) (fun h7 => ?_)
  · obtain ⟨q, rfl, hq1, hq⟩ := inB_N (by decide) h7 (by decide)
    have cq : cl (nI q) = q := cl_nI (by omega)
    refine g_aload_0 hC dX7_lasts_13 (pc' := 14) rfl ?_
    refine g_callV0R hC (c_hasStack hR hI) ml_X7_78 (sh_M ad) rfl ⟨(Nat.le_of_ble_eq_true rfl), (Nat.le_of_ble_eq_true rfl)⟩ (Nat.le_of_ble_eq_true rfl) dX7_lasts_14 (pc' := 17) rfl ⟨Nat.zero_le _, Nat.zero_le _⟩ ?_
    refine g_ifZ_ne hC dX7_lasts_17 (pc' := 20) (tgt := 23) (by decide) rfl (fun h17 => ?_) (fun h17 => ?_)
    · have hst := of_decide_eq_true h17
      refine g_sipush hC dX7_lasts_23 (pc' := 26) kc_sipush_1000 rfl ?_
      refine g_istore_2 hC dX7_lasts_26 (pc' := 27) rfl (Nat.le_of_ble_eq_true rfl) rfl ?_
      refine g_iload_1 hC dX7_lasts_27 (pc' := 28) rfl ?_
      refine g_istore_3 hC dX7_lasts_28 (pc' := 29) rfl (Nat.le_of_ble_eq_true rfl) rfl ?_
      refine g_aload_0 hC dX7_lasts_29 (pc' := 30) rfl ?_
      refine g_getR hC fl_X7_7 (sh_M ad) rfl dX7_lasts_30 (pc' := 33) rfl ?_
      refine g_iconst hC dX7_lasts_33 (pc' := 34) kc_iconst_2 rfl ?_
      refine g_iald hC (sh_mnow ad) (Nat.le_of_ble_eq_true rfl) (by omega) (hR.at (by decide) (by decide)) dX7_lasts_34 (pc' := 35) rfl ?_
      refine g_istore_4 hC dX7_lasts_35 (pc' := 37) rfl (Nat.le_of_ble_eq_true rfl) rfl ?_
      have L37 : ∀ t, t ≤ g 3 → g 2 ≤ t → t + 1 ≤ g 3 → G F (S0 ad) (0, 0) X 37 [.ref 201, .int (nI q), .int (nI (mst g q t)), .int (nI q - nI (thk g t)), .int (nI t)] [] := by
        refine up_ind _ (fun t hk37 ih37 => ?_)
        intro ht2 ht3
        refine g_iload_4 hC dX7_lasts_37 (pc' := 39) rfl ?_
        refine g_aload_0 hC dX7_lasts_39 (pc' := 40) rfl ?_
        refine g_getR hC fl_X7_7 (sh_M ad) rfl dX7_lasts_40 (pc' := 43) rfl ?_
        refine g_iconst hC dX7_lasts_43 (pc' := 44) kc_iconst_3 rfl ?_
        refine g_iald hC (sh_mnow ad) (Nat.le_of_ble_eq_true rfl) (by omega) (hR.low) dX7_lasts_44 (pc' := 45) rfl ?_
        refine g_icmpL_ge hC dX7_lasts_45 (pc' := 48) (tgt := 105) (by decide) rfl (by omega) (by omega) (fun h45 => ?_) (fun h45 => ?_)
        · refine g_iload_2 hC dX7_lasts_105 (pc' := 106) rfl ?_
          refine g_iretR hC hRt rfl dX7_lasts_106 ?_
          rw [← mst_hi (t := t) (by omega) 5 (by omega)]
          simp only [vLasts, cl_nI, h7, cq, h17, eq_true hst, ↓reduceIte, Bool.false_eq_true]
        · have bt := hI.t (show t < 5 by omega)
          have bm := mst_le (g := g) (p := q) t
          have bth := thk_le hI t (by omega)
          have es := thk_s (g := g) (t := t) ⟨ht2, by omega⟩
          have em := mst_s (g := g) (p := q) (t := t) ⟨ht2, by omega⟩
          refine g_iload_3 hC dX7_lasts_48 (pc' := 49) rfl ?_
          refine g_aload_0 hC dX7_lasts_49 (pc' := 50) rfl ?_
          refine g_getR hC fl_X7_7 (sh_M ad) rfl dX7_lasts_50 (pc' := 53) rfl ?_
          refine g_iconst hC dX7_lasts_53 (pc' := 54) kc_iconst_4 rfl ?_
          refine g_iload_4 hC dX7_lasts_54 (pc' := 56) rfl ?_
          refine g_iaddN hC dX7_lasts_56 (pc' := 57) rfl ?_
          refine g_iald hC (sh_mnow ad) (Nat.le_of_ble_eq_true rfl) (by omega) (hR.at (by omega) (by omega)) dX7_lasts_57 (pc' := 58) rfl ?_
          refine g_isub hC dX7_lasts_58 (pc' := 59) rfl ?_
          refine g_istore_3 hC dX7_lasts_59 (pc' := 60) rfl (Nat.le_of_ble_eq_true rfl) rfl ?_
          refine g_aload_0 hC dX7_lasts_60 (pc' := 61) rfl ?_
          refine g_getR hC fl_X7_7 (sh_M ad) rfl dX7_lasts_61 (pc' := 64) rfl ?_
          refine g_bipush hC dX7_lasts_64 (pc' := 66) kc_bipush_9 rfl ?_
          refine g_iload_4 hC dX7_lasts_66 (pc' := 68) rfl ?_
          refine g_iaddN hC dX7_lasts_68 (pc' := 69) rfl ?_
          refine g_iald hC (sh_mnow ad) (Nat.le_of_ble_eq_true rfl) (by omega) (hR.at (by omega) (by omega)) dX7_lasts_69 (pc' := 70) rfl ?_
          refine g_iload_2 hC dX7_lasts_70 (pc' := 71) rfl ?_
          refine g_icmpN_ge hC dX7_lasts_71 (pc' := 74) (tgt := 87) (by decide) rfl (by omega) (by omega) (fun h71 => ?_) (fun h71 => ?_)
          · refine g_iload_2 hC dX7_lasts_87 (pc' := 88) rfl ?_
            refine g_istore_2 hC dX7_lasts_88 (pc' := 89) rfl (Nat.le_of_ble_eq_true rfl) rfl ?_
            refine g_iload_3 hC dX7_lasts_89 (pc' := 90) rfl ?_
            refine g_if_gt hC dX7_lasts_90 (pc' := 93) (tgt := 97) (by decide) rfl (fun h90 => ?_) (fun h90 => ?_)
            · have hgt : thk g (t + 1) < q := by rw [es]; rw [nI_subsub] at h90; exact (nI_sub_gt (by omega) (by omega)).mp h90
              rw [if_neg (by omega)] at em
              refine g_iload_2 hC dX7_lasts_97 (pc' := 98) rfl ?_
              refine g_istore_2 hC dX7_lasts_98 (pc' := 99) rfl (Nat.le_of_ble_eq_true rfl) rfl ?_
              refine g_iinc_4 hC dX7_lasts_99 (pc' := 102) rfl (Nat.le_of_ble_eq_true rfl) rfl (nI_inc _ _ kc_iinc_1) ?_
              refine g_goto hC dX7_lasts_102 (tgt := 37) (by decide) ?_
              exact g_weak (ih37 (by omega) (by omega) (by omega)) (gle_s (gle_s (gle_i (by first | (rw [em]; done) | (rw [em]; exact congrArg nI (by omega))) (gle_i (by rw [es, nI_subsub]) (gle_i (by first | rfl | omega) gle_nil)))))
            · have hgt : ¬ thk g (t + 1) < q := fun z => h90 (by rw [nI_subsub, ← es]; exact (nI_sub_gt (by omega) (by omega)).mpr z)
              rw [if_pos (by omega)] at em
              refine g_iconst hC dX7_lasts_93 (pc' := 94) kc_iconst_0 rfl ?_
              refine g_goto hC dX7_lasts_94 (tgt := 98) (by decide) ?_
              refine g_istore_2 hC dX7_lasts_98 (pc' := 99) rfl (Nat.le_of_ble_eq_true rfl) rfl ?_
              refine g_iinc_4 hC dX7_lasts_99 (pc' := 102) rfl (Nat.le_of_ble_eq_true rfl) rfl (nI_inc _ _ kc_iinc_1) ?_
              refine g_goto hC dX7_lasts_102 (tgt := 37) (by decide) ?_
              exact g_weak (ih37 (by omega) (by omega) (by omega)) (gle_s (gle_s (gle_i (by first | (rw [em]; done) | (rw [em]; exact congrArg nI (by omega))) (gle_i (by rw [es, nI_subsub]) (gle_i (by first | rfl | omega) gle_nil)))))
          · refine g_aload_0 hC dX7_lasts_74 (pc' := 75) rfl ?_
            refine g_getR hC fl_X7_7 (sh_M ad) rfl dX7_lasts_75 (pc' := 78) rfl ?_
            refine g_bipush hC dX7_lasts_78 (pc' := 80) kc_bipush_9 rfl ?_
            refine g_iload_4 hC dX7_lasts_80 (pc' := 82) rfl ?_
            refine g_iaddN hC dX7_lasts_82 (pc' := 83) rfl ?_
            refine g_iald hC (sh_mnow ad) (Nat.le_of_ble_eq_true rfl) (by omega) (hR.at (by omega) (by omega)) dX7_lasts_83 (pc' := 84) rfl ?_
            refine g_goto hC dX7_lasts_84 (tgt := 88) (by decide) ?_
            refine g_istore_2 hC dX7_lasts_88 (pc' := 89) rfl (Nat.le_of_ble_eq_true rfl) rfl ?_
            refine g_iload_3 hC dX7_lasts_89 (pc' := 90) rfl ?_
            refine g_if_gt hC dX7_lasts_90 (pc' := 93) (tgt := 97) (by decide) rfl (fun h90 => ?_) (fun h90 => ?_)
            · have hgt : thk g (t + 1) < q := by rw [es]; rw [nI_subsub] at h90; exact (nI_sub_gt (by omega) (by omega)).mp h90
              rw [if_neg (by omega)] at em
              refine g_iload_2 hC dX7_lasts_97 (pc' := 98) rfl ?_
              refine g_istore_2 hC dX7_lasts_98 (pc' := 99) rfl (Nat.le_of_ble_eq_true rfl) rfl ?_
              refine g_iinc_4 hC dX7_lasts_99 (pc' := 102) rfl (Nat.le_of_ble_eq_true rfl) rfl (nI_inc _ _ kc_iinc_1) ?_
              refine g_goto hC dX7_lasts_102 (tgt := 37) (by decide) ?_
              exact g_weak (ih37 (by omega) (by omega) (by omega)) (gle_s (gle_s (gle_i (by first | (rw [em]; done) | (rw [em]; exact congrArg nI (by omega))) (gle_i (by rw [es, nI_subsub]) (gle_i (by first | rfl | omega) gle_nil)))))
            · have hgt : ¬ thk g (t + 1) < q := fun z => h90 (by rw [nI_subsub, ← es]; exact (nI_sub_gt (by omega) (by omega)).mpr z)
              rw [if_pos (by omega)] at em
              refine g_iconst hC dX7_lasts_93 (pc' := 94) kc_iconst_0 rfl ?_
              refine g_goto hC dX7_lasts_94 (tgt := 98) (by decide) ?_
              refine g_istore_2 hC dX7_lasts_98 (pc' := 99) rfl (Nat.le_of_ble_eq_true rfl) rfl ?_
              refine g_iinc_4 hC dX7_lasts_99 (pc' := 102) rfl (Nat.le_of_ble_eq_true rfl) rfl (nI_inc _ _ kc_iinc_1) ?_
              refine g_goto hC dX7_lasts_102 (tgt := 37) (by decide) ?_
              exact g_weak (ih37 (by omega) (by omega) (by omega)) (gle_s (gle_s (gle_i (by first | (rw [em]; done) | (rw [em]; exact congrArg nI (by omega))) (gle_i (by rw [es, nI_subsub]) (gle_i (by first | rfl | omega) gle_nil)))))
      exact g_weak (L37 (g 2) (by omega) (Nat.le_refl _) (by omega)) (gle_s (gle_s (gle_i (by rw [mst_lo (g 2) (Nat.le_refl _)]) (gle_i (by rw [thk_lo (g 2) (Nat.le_refl _)]; simp [nI_0]) (gle_i (by first | rfl | omega) gle_nil)))))
    · have hst : ¬ g 2 < g 3 := of_decide_eq_false h17
      refine g_bipush hC dX7_lasts_20 (pc' := 22) kc_bipush_m5 rfl ?_
      refine g_iretR hC hRt rfl dX7_lasts_22 ?_
      simp only [vLasts, cl_nI, h7, cq, h17, eq_false hst, ↓reduceIte, Bool.false_eq_true]
  · refine g_bipush hC dX7_lasts_10 (pc' := 12) kc_bipush_m2 rfl ?_
    refine g_iretR hC hRt rfl dX7_lasts_12 ?_
    simp only [vLasts, cl_nI, h7, ↓reduceIte, Bool.false_eq_true]

set_option maxHeartbeats 4000000 in
set_option maxRecDepth 100000 in
theorem c_ifWritten {l : Launch} {ad : Nat → Nat} {X : gX} {a v p : Int32} {n : Nat} {h : Nat → Nat → Nat} {b : Bool} {g : Nat → Nat} (hm : MR X g n h b) (hI : Inv g) : K_X7_ifWritten l ad [.ref 201, .int (a), .int (v), .int (p)] X (fun rr X' => rr = vIfW g a v p ∧ RM X' g ∧ fS X X') := by
  refine Ct.of [.ref 201, .int (a), .int (v), .int (p), .null] 1 (by decide +kernel) rfl (Nat.le_of_ble_eq_true rfl) (fun F hl hC hRt _ => ?_)
  subst hl
  refine g_aload_0 hC dX7_ifWritten_0 (pc' := 1) rfl ?_
  refine g_iload_1 hC dX7_ifWritten_1 (pc' := 2) rfl ?_
  refine g_iload_2 hC dX7_ifWritten_2 (pc' := 3) rfl ?_
  refine g_iload_3 hC dX7_ifWritten_3 (pc' := 4) rfl ?_
  refine g_callV3I hC (c_barOf hm hI) ml_X7_93 (sh_M ad) rfl ⟨(Nat.le_of_ble_eq_true rfl), (Nat.le_of_ble_eq_true rfl)⟩ (Nat.le_of_ble_eq_true rfl) dX7_ifWritten_4 (pc' := 7) rfl ⟨Nat.zero_le _, Nat.zero_le _⟩ (fun v4 X4 q4 => ?_)
  obtain ⟨rfl, hX4⟩ := q4
  have m4 := hm.c hX4
  refine g_istore_4 hC dX7_ifWritten_7 (pc' := 9) rfl (Nat.le_of_ble_eq_true rfl) rfl ?_
  refine g_iload_4 hC dX7_ifWritten_9 (pc' := 11) rfl ?_
  refine g_if_ge hC dX7_ifWritten_11 (pc' := 14) (tgt := 17) (by decide) rfl (fun h11 => ?_) (fun h11 => ?_)
  · have hok : okWrt g a v p = true := by
      cases hz : okWrt g a v p with
      | true => rfl
      | false => exact absurd h11 (Int32.not_le.mpr (bar_neg hz))
    obtain ⟨f, w, q, rfl, rfl, rfl, hf, hw, hq1, hq, hst, hfl, -⟩ := okWrt_iff hok
    refine g_aload_0 hC dX7_ifWritten_17 (pc' := 18) rfl ?_
    refine g_callV0V hC (c_keep) ml_X7_159 (sh_M ad) rfl ⟨(Nat.le_of_ble_eq_true rfl), (Nat.le_of_ble_eq_true rfl)⟩ (Nat.le_of_ble_eq_true rfl) dX7_ifWritten_18 (pc' := 21) rfl ⟨Nat.zero_le _, Nat.zero_le _⟩ (fun X18 q18 => ?_)
    obtain ⟨e18, k18⟩ := q18
    have m18 : MR X18 g n h b := m4.s (m4.1.of (e18 202 (by decide))) (fS.k e18)
    refine g_aload_0 hC dX7_ifWritten_21 (pc' := 22) rfl ?_
    refine g_iload_1 hC dX7_ifWritten_22 (pc' := 23) rfl ?_
    refine g_iload_2 hC dX7_ifWritten_23 (pc' := 24) rfl ?_
    refine g_iload_3 hC dX7_ifWritten_24 (pc' := 25) rfl ?_
    refine g_callV3I hC (c_writeNow (f := f) (v := w) (p := q) (by omega) hw ⟨hq1, hq⟩ hst hfl m18 hI) ml_X7_96 (sh_M ad) rfl ⟨(Nat.le_of_ble_eq_true rfl), (Nat.le_of_ble_eq_true rfl)⟩ (Nat.le_of_ble_eq_true rfl) dX7_ifWritten_25 (pc' := 28) rfl ⟨Nat.zero_le _, Nat.zero_le _⟩ (fun v25 X25 q25 => ?_)
    obtain ⟨rfl, m25, f25⟩ := q25
    refine g_pop hC dX7_ifWritten_28 (pc' := 29) rfl rfl ?_
    refine g_aload_0 hC dX7_ifWritten_29 (pc' := 30) rfl ?_
    refine g_iload_1 hC dX7_ifWritten_30 (pc' := 31) rfl ?_
    refine g_callV1V hC (c_layTogether (f := f) (by omega) m25.1 (Inv_wrt hI ⟨hq1, hq⟩ (by omega) hw hfl)) ml_X7_145 (sh_M ad) rfl ⟨(Nat.le_of_ble_eq_true rfl), (Nat.le_of_ble_eq_true rfl)⟩ (Nat.le_of_ble_eq_true rfl) dX7_ifWritten_31 (pc' := 34) rfl ⟨Nat.zero_le _, Nat.zero_le _⟩ (fun X31 q31 => ?_)
    have hL := q31
    have htb := tly_b (Inv_wrt hI ⟨hq1, hq⟩ (show f < 10 by omega) hw hfl) (show f < 10 by omega) 5 (by decide)
    refine g_aload_0 hC dX7_ifWritten_34 (pc' := 35) rfl ?_
    refine g_callV0V hC (c_comeBack) ml_X7_165 (sh_M ad) rfl ⟨(Nat.le_of_ble_eq_true rfl), (Nat.le_of_ble_eq_true rfl)⟩ (Nat.le_of_ble_eq_true rfl) dX7_ifWritten_35 (pc' := 38) rfl ⟨Nat.zero_le _, Nat.zero_le _⟩ (fun X35 q35 => ?_)
    obtain ⟨e35, k35⟩ := q35
    have hk203 : ∀ j, j < 470 → X31 203 j = ar g j := fun j hj => by rw [hL.1 203 (by decide), f25 203 (by decide) (by decide), k18 j hj]; exact m4.1 j hj
    have r35 : RM X35 g := fun j hj => (k35 j hj).trans (hk203 j hj)
    have fs : fS X X35 := ((((fS.c hX4).tr (fS.k e18)).tr (fS.fN f25)).tr (fS.lt hL)).tr (fS.n e35)
    refine g_aload_0 hC dX7_ifWritten_38 (pc' := 39) rfl ?_
    refine g_getI hC fl_X7_127 (sh_M ad) rfl ((congrFun (e35 201 (by decide)) 10).trans hL.2.2.1) dX7_ifWritten_39 (pc' := 42) rfl ?_
    refine g_iconst hC dX7_ifWritten_42 (pc' := 43) kc_iconst_1 rfl ?_
    refine g_icmpN_ne hC dX7_ifWritten_43 (pc' := 46) (tgt := 53) (by decide) rfl (by omega) (by omega) (fun h43 => ?_) (fun h43 => ?_)
    · refine g_bipush hC dX7_ifWritten_53 (pc' := 55) kc_bipush_m6 rfl ?_
      refine g_iretI hC hRt rfl dX7_ifWritten_55 ?_
      refine ⟨?_, r35, fs⟩
      unfold vIfW
      rw [if_pos hok, cl_nI (by omega), cl_nI (by omega), cl_nI (by omega)]
      first | rw [if_pos h43] | rw [if_neg h43]
    · refine g_aload_0 hC dX7_ifWritten_46 (pc' := 47) rfl ?_
      refine g_getI hC fl_X7_130 (sh_M ad) rfl (((congrFun (e35 201 (by decide)) 11).trans hL.2.2.2.1).trans (if_neg (by omega))) dX7_ifWritten_47 (pc' := 50) rfl ?_
      refine g_goto hC dX7_ifWritten_50 (tgt := 55) (by decide) ?_
      refine g_iretI hC hRt rfl dX7_ifWritten_55 ?_
      refine ⟨?_, r35, fs⟩
      unfold vIfW
      rw [if_pos hok, cl_nI (by omega), cl_nI (by omega), cl_nI (by omega)]
      first | rw [if_pos h43] | rw [if_neg h43]
  · have hok : okWrt g a v p = false := by
      cases hz : okWrt g a v p with
      | false => rfl
      | true =>
        obtain ⟨f, w, q, -, -, -, -, -, -, -, -, -, e⟩ := okWrt_iff hz
        rw [e] at h11
        exact absurd (by decide) h11
    refine g_iload_4 hC dX7_ifWritten_14 (pc' := 16) rfl ?_
    refine g_iretI hC hRt rfl dX7_ifWritten_16 ?_
    exact ⟨by simp only [vIfW, hok, Bool.false_eq_true, ↓reduceIte], m4.1, fS.c hX4⟩
