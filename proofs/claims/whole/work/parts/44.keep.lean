theorem Inv_set {g : Nat → Nat} {a w : Int32} (hI : Inv g) (h : okSet a w = true) : Inv (updN g (cl a) (cl w)) := by
  obtain ⟨i1, i2⟩ := Bool.and_eq_true_iff.mp h
  obtain ⟨d, rfl, -, hd⟩ := inB_N (by decide) i1 (by decide)
  have h0 := hI.1
  have ht : ∀ t, t < 5 → ∀ v, updN g d v (4 + t) ≤ 4 ∧ updN g d v (9 + t) ≤ 300 ∧ updN g d v (14 + t) < 1024 := fun t ht v => by
    unfold updN
    rw [if_neg (by omega), if_neg (by omega), if_neg (by omega)]
    exact hI.t ht
  have e : ∀ v j, 20 ≤ j → updN g d v j = g j := fun v j hj => by unfold updN; rw [if_neg (by omega)]
  rw [cl_nI (by omega)]
  by_cases hz : nI d = nI 0
  · rw [if_pos hz] at i2
    obtain ⟨z, rfl, hz1, hz9⟩ := inB_N (by decide) i2 (by decide)
    have hd0 : d = 0 := (nI_eqD (by omega) (by decide)).mp hz
    subst hd0
    rw [cl_nI (by omega)]
    refine Inv_sm hI ?_ (fun t h => ht t h z) (e z)
    simp [updN]; omega
  · rw [if_neg hz] at i2
    obtain ⟨z, rfl, hz1, hz9⟩ := inB_N (by decide) i2 (by decide)
    have hd1 : d = 1 := by
      rcases (show d = 0 ∨ d = 1 by omega) with rfl | rfl
      · exact absurd rfl hz
      · rfl
    subst hd1
    rw [cl_nI (by omega)]
    refine Inv_sm hI ?_ (fun t h => ht t h z) (e z)
    simp [updN]; omega
theorem Inv_thick {g : Nat → Nat} {a w : Int32} (hI : Inv g) (h : okThick a w = true) : Inv (updN g (4 + cl a) (cl w)) := by
  obtain ⟨i1, i2⟩ := Bool.and_eq_true_iff.mp h
  obtain ⟨d, rfl, -, hd⟩ := inB_N (by decide) i1 (by decide)
  obtain ⟨z, rfl, -, hz⟩ := inB_N (by decide) i2 (by decide)
  rw [cl_nI (by omega), cl_nI (by omega)]
  refine Inv_sm hI ?_ (fun t ht => ?_) (fun j hj => by unfold updN; rw [if_neg (by omega)])
  · unfold updN
    rw [if_neg (by omega), if_neg (by omega), if_neg (by omega), if_neg (by omega)]
    exact hI.1
  · have := hI.t ht
    unfold updN
    rw [if_neg (show ¬ 9 + t = 4 + d by omega), if_neg (show ¬ 14 + t = 4 + d by omega)]
    refine ⟨?_, this.2⟩
    split
    · exact hz
    · exact this.1
theorem Inv_carb {g : Nat → Nat} {a w : Int32} (hI : Inv g) (h : okCarb g a w = true) : Inv (updN g (9 + cl a) (cl w)) := by
  obtain ⟨i1, i2⟩ := Bool.and_eq_true_iff.mp h
  obtain ⟨d, rfl, -, hd⟩ := inB_N (by decide) i1 (by decide)
  obtain ⟨z, rfl, -, hz⟩ := inB_N (by decide) (Bool.and_eq_true_iff.mp i2).1 (by decide)
  rw [cl_nI (by omega), cl_nI (by omega)]
  refine Inv_sm hI ?_ (fun t ht => ?_) (fun j hj => by unfold updN; rw [if_neg (by omega)])
  · unfold updN
    rw [if_neg (by omega), if_neg (by omega), if_neg (by omega), if_neg (by omega)]
    exact hI.1
  · have := hI.t ht
    unfold updN
    rw [if_neg (show ¬ 4 + t = 9 + d by omega), if_neg (show ¬ 14 + t = 9 + d by omega)]
    refine ⟨this.1, ?_, this.2.2⟩
    split
    · exact hz
    · exact this.2.1
theorem Inv_paint {g : Nat → Nat} {a b : Int32} (hI : Inv g) (h : okPaint g a b = true) : Inv (gPaint g a b) := by
  obtain ⟨i1, i2⟩ := Bool.and_eq_true_iff.mp h
  obtain ⟨d, rfl, -, hd⟩ := inB_N (by decide) i1 (by decide)
  obtain ⟨f, rfl, -, hf⟩ := inB_N (by decide) (Bool.and_eq_true_iff.mp i2).1 (by decide)
  unfold gPaint
  rw [cl_nI (by omega), cl_nI (by omega)]
  exact Inv_stz (Inv_apt hI (by omega) (by omega)) (by omega)
theorem Inv_addm {g : Nat → Nat} {s f v p : Nat} (hI : Inv g) (hs : s < 5) (hf : f < 10) (hv : v ≤ 999) (hp : 1 ≤ p ∧ p ≤ 9) (hc : cnt g s f < 8) : Inv (addm g s f v p) := by
  have e : ∀ j, j < 20 → addm g s f v p j = g j := fun j hj => by unfold addm updN; rw [if_neg (by omega), if_neg (by omega)]
  refine ⟨?_, fun t ht => ?_, fun s' f' a b => ?_, fun s' f' k a b c => ?_, fun s' f' k a b c => ?_⟩
  · rw [e 0 (by omega), e 1 (by omega), e 2 (by omega), e 3 (by omega)]; exact hI.1
  · rw [e _ (by omega), e _ (by omega), e _ (by omega)]; exact hI.t ht
  · rw [addm_cnt hf a b]
    have := hI.c a b
    split <;> omega
  · rw [addm_mk hs hf b c hc]
    have := hI.m a b c
    split <;> omega
  · rw [addm_cnt hf a b] at c
    have h8 : k < 8 := by have := hI.c a b; split at c <;> omega
    rw [addm_mk hs hf b h8 hc]
    split
    · omega
    · rename_i hn
      refine hI.p a b ?_
      split at c
      · rename_i hh
        obtain ⟨rfl, rfl⟩ := hh
        have : k ≠ cnt g s' f' := fun z => hn ⟨rfl, rfl, z⟩
        omega
      · exact c
theorem Inv_amend {g : Nat → Nat} {a b v p : Int32} (hI : Inv g) (h : okAmend g a b v p = true) : Inv (gAmend g a b v p) := by
  obtain ⟨i1, r1⟩ := Bool.and_eq_true_iff.mp h
  obtain ⟨i2, r2⟩ := Bool.and_eq_true_iff.mp r1
  obtain ⟨i3, r3⟩ := Bool.and_eq_true_iff.mp r2
  obtain ⟨i4, r4⟩ := Bool.and_eq_true_iff.mp r3
  obtain ⟨i5, i6⟩ := Bool.and_eq_true_iff.mp r4
  obtain ⟨d, rfl, -, hd⟩ := inB_N (by decide) i1 (by decide)
  obtain ⟨f, rfl, -, hf⟩ := inB_N (by decide) i2 (by decide)
  obtain ⟨w, rfl, -, hw⟩ := inB_N (by decide) i3 (by decide)
  obtain ⟨q, rfl, hq1, hq⟩ := inB_N (by decide) i4 (by decide)
  unfold gAmend
  rw [cl_nI (by omega), cl_nI (by omega)] at i6
  rw [cl_nI (by omega), cl_nI (by omega), cl_nI (by omega), cl_nI (by omega)]
  have hne : ¬ cnt g d f = 8 := by simpa using i6
  have hc := hI.c (show d < 5 by omega) (show f < 10 by omega)
  exact Inv_addm (Inv_apt hI (by omega) (by omega)) (by omega) (by omega) hw ⟨hq1, hq⟩ (by rw [apt_cnt (by omega) (by omega) (by omega)]; omega)
/-- both sides in one state -/
def LW (X : gX) (g : Nat → Nat) (n : Nat) (h : Nat → Nat → Nat) (pad : Nat → Nat) (len : Nat) (sv : Nat → Bool) (sg : Nat → Nat → Nat) : Prop := (MR X g n h false ∧ PD X pad len ∧ SV X sv sg) ∧ (RS X 1 g ∧ HC X n h ∧ PC X pad len ∧ CS X sv sg) ∧ (Inv g ∧ (∀ i, i < n → Inv (h i)) ∧ ∀ s, s < 2 → sv s = true → Inv (sg s))
def LX (X : gX) : Prop := ∃ g n h pad len sv sg, LW X g n h pad len sv sg
theorem MR.of {X Y : gX} {g : Nat → Nat} {n : Nat} {h : Nat → Nat → Nat} {b : Bool} (m : MR X g n h b) (e2 : Y 202 = X 202) (e4 : Y 204 = X 204) (e3 : Y 201 3 = X 201 3) (e8 : Y 201 8 = X 201 8) : MR Y g n h b :=
  ⟨m.1.of e2, e3.trans m.2.1, m.2.2.1, fun i j hi hj => by rw [e4]; exact m.2.2.2.1 i j hi hj, e8.trans m.2.2.2.2⟩
section
variable {X X1 X2 : gX} {g g' : Nat → Nat} {n len : Nat} {h : Nat → Nat → Nat} {pad : Nat → Nat} {sv : Nat → Bool} {sg : Nat → Nat → Nat}
theorem LW.m (L : LW X g n h pad len sv sg) (e : ∀ i, 201 ≤ i → X1 i = X i) : MR X1 g n h false ∧ PD X1 pad len ∧ SV X1 sv sg :=
  ⟨L.1.1.of (e 202 (by decide)) (e 204 (by decide)) (by rw [e 201 (by decide)]) (by rw [e 201 (by decide)]), L.1.2.1.q (by rw [e 201 (by decide)]) (e 207 (by decide)), L.1.2.2.w (e 205 (by decide)) (e 206 (by decide))⟩
theorem LW.a (L : LW X g n h pad len sv sg) (f : fA X X1) (r : RM X2 g) (s : fS X1 X2) : LX X2 := by
  obtain ⟨m1, m2, m3⟩ := L.m (X1 := X1) (fun i hi => f i (by omega))
  have e : ∀ i, i < 201 → X2 i = X1 i := fun i hi => s.1 i (by omega) (by omega) (by omega) (by omega)
  refine ⟨g, n, h, pad, len, sv, sg, ⟨⟨r, (s.2 3 (by decide)).trans m1.2.1, m1.2.2.1, fun i j hi hj => by rw [s.1 204 (by decide) (by decide) (by decide) (by decide)]; exact m1.2.2.2.1 i j hi hj, (s.2 8 (by decide)).trans m1.2.2.2.2⟩, m2.q (s.2 7 (by decide)) (s.1 207 (by decide) (by decide) (by decide) (by decide)), m3.w (s.1 205 (by decide) (by decide) (by decide) (by decide)) (s.1 206 (by decide) (by decide) (by decide) (by decide))⟩, ⟨?_, ?_, ?_, ?_⟩, L.2.2⟩
  · exact (f.R L.2.1.1).of (fun i _ hi _ => e i (by omega))
  · exact L.2.1.2.1.of (fun i a b => (e i (by omega)).trans (f i (by omega)))
  · exact L.2.1.2.2.1.of ((e 160 (by decide)).trans (f 160 (by omega))) ((e 161 (by decide)).trans (f 161 (by omega)))
  · exact L.2.1.2.2.2.of ((e 159 (by decide)).trans (f 159 (by omega))) (fun i a b => (e i b).trans (f i (by omega)))
theorem LW.c {ok : Bool} (L : LW X g n h pad len sv sg) (c1 : CRc X1 ok g g' n h) (f : fM X X1) (c2 : MRc X2 ok g g' n h false) (w : fW X1 X2) (hI : ok = true → Inv g') : LX X2 := by
  obtain ⟨-, m2, m3⟩ := L.m (X1 := X1) (fun i hi => f i (by omega))
  have e : ∀ i, i < 201 → X2 i = X1 i := fun i hi => w.1 i (by omega) (by omega) (by omega) (by omega)
  have p2 : PD X2 pad len := m2.q (w.2 7 (by decide)) (w.1 207 (by decide) (by decide) (by decide) (by decide))
  have v2 : SV X2 sv sg := m3.w (w.1 205 (by decide) (by decide) (by decide) (by decide)) (w.1 206 (by decide) (by decide) (by decide) (by decide))
  have pc : PC X2 pad len := L.2.1.2.2.1.of ((e 160 (by decide)).trans (f 160 (by omega))) ((e 161 (by decide)).trans (f 161 (by omega)))
  have cs : CS X2 sv sg := L.2.1.2.2.2.of ((e 159 (by decide)).trans (f 159 (by omega))) (fun i a b => (e i b).trans (f i (by omega)))
  cases ok with
  | false =>
    exact ⟨g, n, h, pad, len, sv, sg, ⟨c2, p2, v2⟩, ⟨c1.1.of (fun i _ hi _ => e i (by omega)), c1.2.of (fun i a b => e i (by omega)), pc, cs⟩, L.2.2⟩
  | true =>
    refine ⟨g', recN false n, recH false h n g, pad, len, sv, sg, ⟨c2, p2, v2⟩, ⟨c1.1.of (fun i _ hi _ => e i (by omega)), c1.2.of (fun i a b => e i (by omega)), pc, cs⟩, hI rfl, fun i hi => ?_, L.2.2.2.2⟩
    have hn := L.1.1.2.2.1
    unfold recH
    unfold recN at hi
    simp only [Bool.false_eq_true, if_false] at hi ⊢
    split
    · rename_i h6
      rw [if_pos h6] at hi
      split
      · exact L.2.2.1
      · exact L.2.2.2.1 _ (by omega)
    · rename_i h6
      rw [if_neg h6] at hi
      split
      · exact L.2.2.1
      · exact L.2.2.2.1 _ (by omega)
theorem LW.p {c : Int64} {k : Nat} (L : LW X g n h pad len sv sg) (c1 : if okPut len c = true then PC X1 (padP pad len c) (len + k) else X1 = X) (f : ∀ i, i ≠ 160 → i ≠ 161 → X1 i = X i) (c2 : if okPut len c = true then PD X2 (padP pad len c) (len + k) else X2 = X1) (w : ∀ i, i ≠ 201 → i ≠ 207 → X2 i = X1 i) (w1 : ∀ j, j ≠ 7 → X2 201 j = X1 201 j) : LX X2 := by
  obtain ⟨m1, m2, m3⟩ := L.m (X1 := X1) (fun i hi => f i (by omega) (by omega))
  have mr : MR X2 g n h false := m1.of (w 202 (by decide) (by decide)) (w 204 (by decide) (by decide)) (w1 3 (by decide)) (w1 8 (by decide))
  have sv2 : SV X2 sv sg := m3.w (w 205 (by decide) (by decide)) (w 206 (by decide) (by decide))
  have rs : RS X2 1 g := L.2.1.1.of (fun i _ hi _ => (w i (by omega) (by omega)).trans (f i (by omega) (by omega)))
  have hc : HC X2 n h := L.2.1.2.1.of (fun i a b => (w i (by omega) (by omega)).trans (f i (by omega) (by omega)))
  have cs : CS X2 sv sg := L.2.1.2.2.2.of ((w 159 (by decide) (by decide)).trans (f 159 (by decide) (by decide))) (fun i a b => (w i (by omega) (by omega)).trans (f i (by omega) (by omega)))
  cases hk : okPut len c with
  | true =>
    rw [hk, if_pos rfl] at c1 c2
    exact ⟨g, n, h, _, _, sv, sg, ⟨mr, c2, sv2⟩, ⟨rs, hc, c1.of (w 160 (by decide) (by decide)) (w 161 (by decide) (by decide)), cs⟩, L.2.2⟩
  | false =>
    rw [hk, if_neg (by decide)] at c1 c2
    subst c1; subst c2
    exact ⟨g, n, h, pad, len, sv, sg, L⟩
theorem LW.w (L : LW X g n h pad len sv sg) : LX (gu (gu X 160 0 (nI 0)) 201 7 (nI 0)) := by
  have e : ∀ i, i ≠ 160 → i ≠ 201 → gu (gu X 160 0 (nI 0)) 201 7 (nI 0) i = X i := fun i a b => (gu_ne i b).trans (gu_ne i a)
  have e1 : ∀ j, j ≠ 7 → gu (gu X 160 0 (nI 0)) 201 7 (nI 0) 201 j = X 201 j := fun j hj => (gu_id hj).trans (by rw [gu_ne 201 (by decide)])
  exact ⟨g, n, h, pad, 0, sv, sg, ⟨L.1.1.of (e 202 (by decide) (by decide)) (e 204 (by decide) (by decide)) (e1 3 (by decide)) (e1 8 (by decide)), ⟨gu_at, Nat.zero_le _, fun i hi => absurd hi (Nat.not_lt_zero i)⟩, L.1.2.2.w (e 205 (by decide) (by decide)) (e 206 (by decide) (by decide))⟩,
    ⟨L.2.1.1.of (fun i _ hi _ => e i (by omega) (by omega)), L.2.1.2.1.of (fun i a b => e i (by omega) (by omega)), ⟨by rw [gu_ne 160 (by decide)]; exact gu_at, Nat.zero_le _, fun i hi => absurd hi (Nat.not_lt_zero i)⟩, L.2.1.2.2.2.of (e 159 (by decide) (by decide)) (fun i a b => e i (by omega) (by omega))⟩, L.2.2⟩
theorem LW.f {r : Nat} (L : LW X g n h pad len sv sg) (f : ∀ i, i ≠ 162 → X1 i = X i) (w : fR r X1 X2) : LX X2 := by
  obtain ⟨m1, m2, m3⟩ := L.m (X1 := X1) (fun i hi => f i (by omega))
  have e : ∀ i, i ≠ 162 → i ≠ 201 → i ≠ 209 → X2 i = X i := fun i a b c => (w.1 i b c).trans (f i a)
  exact ⟨g, n, h, pad, len, sv, sg, ⟨m1.r w, m2.r w, m3.w (w.1 205 (by decide) (by decide)) (w.1 206 (by decide) (by decide))⟩,
    ⟨L.2.1.1.of (fun i _ hi _ => e i (by omega) (by omega) (by omega)), L.2.1.2.1.of (fun i a b => e i (by omega) (by omega) (by omega)), L.2.1.2.2.1.of (e 160 (by decide) (by decide) (by decide)) (e 161 (by decide) (by decide) (by decide)), L.2.1.2.2.2.of (e 159 (by decide) (by decide) (by decide)) (fun i a b => e i (by omega) (by omega) (by omega))⟩, L.2.2⟩
theorem LW.o (L : LW X g n h pad len sv sg) (c1 : CRc X1 (is7 pad len) g (cst pad g len).1 n h) (p1 : PC X1 pad (if is7 pad len = true then 0 else len)) (f : ∀ i, (i < 1 ∨ (20 ≤ i ∧ i < 42) ∨ 158 ≤ i) → i ≠ 160 → i ≠ 162 → X1 i = X i) (c2 : MRc X2 (is7 pad len) g (cst pad g len).1 n h false) (p2 : PD X2 pad (if is7 pad len = true then 0 else len)) (w : fC X1 X2) : LX X2 := by
  obtain ⟨-, -, m3⟩ := L.m (X1 := X1) (fun i hi => f i (by omega) (by omega) (by omega))
  have e : ∀ i, i < 201 → X2 i = X1 i := fun i hi => w i (by omega) (by omega) (by omega) (by omega) (by omega)
  have v2 : SV X2 sv sg := m3.w (w 205 (by decide) (by decide) (by decide) (by decide) (by decide)) (w 206 (by decide) (by decide) (by decide) (by decide) (by decide))
  have pc := p1.of (e 160 (by decide)) (e 161 (by decide))
  have cs : CS X2 sv sg := L.2.1.2.2.2.of ((e 159 (by decide)).trans (f 159 (by omega) (by decide) (by decide))) (fun i a b => (e i b).trans (f i (by omega) (by omega) (by omega)))
  cases hk : is7 pad len with
  | false =>
    rw [hk] at c1 c2 p2 pc
    exact ⟨g, n, h, pad, _, sv, sg, ⟨c2, p2, v2⟩, ⟨c1.1.of (fun i _ hi _ => e i (by omega)), c1.2.of (fun i a b => e i (by omega)), pc, cs⟩, L.2.2⟩
  | true =>
    rw [hk] at c1 c2 p2 pc
    refine ⟨(cst pad g len).1, recN false n, recH false h n g, pad, _, sv, sg, ⟨c2, p2, v2⟩, ⟨c1.1.of (fun i _ hi _ => e i (by omega)), c1.2.of (fun i a b => e i (by omega)), pc, cs⟩, Inv_cst L.2.2.1 len, fun i hi => ?_, L.2.2.2.2⟩
    have hn := L.1.1.2.2.1
    unfold recH
    unfold recN at hi
    simp only [Bool.false_eq_true, if_false] at hi ⊢
    split
    · rename_i h6
      rw [if_pos h6] at hi
      split
      · exact L.2.2.1
      · exact L.2.2.2.1 _ (by omega)
    · rename_i h6
      rw [if_neg h6] at hi
      split
      · exact L.2.2.1
      · exact L.2.2.2.1 _ (by omega)
theorem LW.u (L : LW X g n h pad len sv sg) (c1 : if n = 0 then X1 = X else RS X1 1 (h (n - 1)) ∧ HC X1 (n - 1) h) (f : fM X X1) (c2 : if n = 0 then X2 = X1 else MR X2 (h (n - 1)) (n - 1) h false ∧ fW X1 X2) : LX X2 := by
  by_cases hz : n = 0
  · rw [if_pos hz] at c1 c2
    subst c1; subst c2
    exact ⟨g, n, h, pad, len, sv, sg, L⟩
  · rw [if_neg hz] at c1 c2
    obtain ⟨mr, w⟩ := c2
    obtain ⟨-, m2, m3⟩ := L.m (X1 := X1) (fun i hi => f i (by omega))
    have e : ∀ i, i < 201 → X2 i = X1 i := fun i hi => w.1 i (by omega) (by omega) (by omega) (by omega)
    exact ⟨h (n - 1), n - 1, h, pad, len, sv, sg, ⟨mr, m2.q (w.2 7 (by decide)) (w.1 207 (by decide) (by decide) (by decide) (by decide)), m3.w (w.1 205 (by decide) (by decide) (by decide) (by decide)) (w.1 206 (by decide) (by decide) (by decide) (by decide))⟩,
      ⟨c1.1.of (fun i _ hi _ => e i (by omega)), c1.2.of (fun i a b => e i (by omega)), L.2.1.2.2.1.of ((e 160 (by decide)).trans (f 160 (by omega))) ((e 161 (by decide)).trans (f 161 (by omega))), L.2.1.2.2.2.of ((e 159 (by decide)).trans (f 159 (by omega))) (fun i a b => (e i b).trans (f i (by omega)))⟩, L.2.2.2.1 (n - 1) (by omega), fun i hi => L.2.2.2.1 i (by omega), L.2.2.2.2⟩
theorem LW.s {a : Int32} (L : LW X g n h pad len sv sg) (c1 : CS X1 (updS sv (okSlot a) (cl a) true) (updS sg (okSlot a) (cl a) g)) (f : ∀ i, (i < 159 ∨ (160 ≤ i ∧ i < 163) ∨ 201 ≤ i) → X1 i = X i) (c2 : SV X2 (updS sv (okSlot a) (cl a) true) (updS sg (okSlot a) (cl a) g)) (w : ∀ i, i ≠ 205 → i ≠ 206 → X2 i = X1 i) : LX X2 := by
  obtain ⟨m1, m2, -⟩ := L.m (X1 := X1) (fun i hi => f i (by omega))
  have e : ∀ i, (i < 159 ∨ (160 ≤ i ∧ i < 163)) → X2 i = X i := fun i hi => (w i (by omega) (by omega)).trans (f i (by omega))
  refine ⟨g, n, h, pad, len, _, _, ⟨m1.of (w 202 (by decide) (by decide)) (w 204 (by decide) (by decide)) (by rw [w 201 (by decide) (by decide)]) (by rw [w 201 (by decide) (by decide)]), m2.q (by rw [w 201 (by decide) (by decide)]) (w 207 (by decide) (by decide)), c2⟩,
    ⟨L.2.1.1.of (fun i _ hi _ => e i (by omega)), L.2.1.2.1.of (fun i a b => e i (by omega)), L.2.1.2.2.1.of (e 160 (by omega)) (e 161 (by omega)), c1.of (w 159 (by decide) (by decide)) (fun i a b => w i (by omega) (by omega))⟩, L.2.2.1, L.2.2.2.1, fun s hs hv => ?_⟩
  unfold updS at hv ⊢
  split
  · exact L.2.2.1
  · rename_i hn
    rw [if_neg hn] at hv
    exact L.2.2.2.2 s hs hv
theorem Inv_rest {a : Int32} (L : LW X g n h pad len sv sg) (hk : okRest sv a = true) : Inv (sg (cl a)) := by
  obtain ⟨i1, i2⟩ := Bool.and_eq_true_iff.mp hk
  obtain ⟨d, rfl, -, hd⟩ := inB_N (by decide) i1 (by decide)
  rw [cl_nI (by omega)] at i2 ⊢
  exact L.2.2.2.2 d (by omega) i2
end
