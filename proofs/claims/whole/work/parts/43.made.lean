/-- what is made, and the shape that the rows of the methods speak of: the history's array, whose places are written anew from here on, as its first order says -/
def gH (X : gX) : gX := fun i => if i = 43 then fun j => if j < 6 then nI j else nI 6 else X i
theorem gH_ne {X : gX} : ∀ i, i ≠ 43 → gH X i = X i := fun i h => by simp [gH, h]
theorem gH_at {X : gX} {j : Nat} (h : j < 6) : gH X 43 j = nI j := by simp [gH, h]
theorem hw_ws {Γ : gL} {l : List gE} {ids : List Nat} {ad : Nat → Nat} {X : gX} (h : l[43]? = some (.inr (3, 6, ids))) (h6 : ids.length = 6) : gws Γ (SL l ad) X = gws Γ (SL (l.set 43 (.inr (5, 6, ids))) ad) (gH X) := by
  have hl : (SL (l.set 43 (.inr (5, 6, ids))) ad).1 = l.length := by show (l.set 43 _).length = _; simp
  unfold gws
  rw [hl]
  refine List.map_congr_left (fun i hi => ?_)
  have hil : i < l.length := List.mem_range.mp hi
  refine congrArg (Prod.mk (ad i)) ?_
  by_cases hz : i = 43
  · subst hz
    rw [(sl_at (ad := ad) h).2, (sl_at (ad := ad) (l := l.set 43 (.inr (5, 6, ids))) (List.getElem?_set_self hil)).2, gcell_q (t := 3) (by decide), gcell_5]
    refine congrArg (fun z => (Sum.inl (Γ.2 3, 6, .inr (.inr (.inr (.inr z)))) : va_E)) ?_
    funext j
    by_cases hj : j < 6
    · rw [gH_at hj, nI_clamp (by omega)]; rfl
    · have e1 : gH X 43 j = nI 6 := by simp [gH, hj]
      have e2 : ids[j]? = none := List.getElem?_eq_none (by omega)
      have e3 : ids[6]? = none := List.getElem?_eq_none (by omega)
      rw [e1, nI_clamp (by omega), e2, e3]; rfl
  · obtain ⟨x, hx⟩ := sl_look hil
    rw [(sl_at (ad := ad) hx).2, (sl_at (ad := ad) (l := l.set 43 (.inr (5, 6, ids))) (by rw [List.getElem?_set_ne (Ne.symm hz)]; exact hx)).2]
    exact (gcell_ad (fun _ _ => rfl) (gH_ne i hz)).symm
theorem cv_sl {l l' : List gE} {ad : Nat → Nat} (v : Value) : cv (SL l ad) v = cv (SL l' ad) v := by cases v <;> rfl
theorem hw_S {F : gF} {l : List gE} {ids : List Nat} {ad : Nat → Nat} {K : Nat × Nat} {X : gX} {pc : Nat} {ls st : List Value} (h : l[43]? = some (.inr (3, 6, ids))) (h6 : ids.length = 6) (hcl : gcl (SL (l.set 43 (.inr (5, 6, ids))) ad)) (k : G F (SL (l.set 43 (.inr (5, 6, ids))) ad) K (gH X) pc ls st) : G F (SL l ad) K X pc ls st := by
  obtain ⟨p, l0, e, R, s, m, args, below, meth, c, Γ, A, Q⟩ := F
  intro H locs L hL hc0 hP hD hS
  rw [hw_ws h h6] at hP hD
  have k2 := k H locs L ⟨hL.1, hL.2.1, fun i v h1 h2 => by rw [cv_sl (l' := l) v]; exact hL.2.2 i v h1 h2⟩ hcl hP hD hS
  have hm : st.map (cv (SL l ad)) = st.map (cv (SL (l.set 43 (.inr (5, 6, ids))) ad)) := List.map_congr_left (fun v _ => cv_sl v)
  rw [hm]
  exact k2
theorem lm_eq : LM_16.set 43 (.inr (5, 6, [44, 63, 82, 101, 120, 139])) = shL := by decide +kernel
theorem lm_at : LM_16[43]? = some (.inr (3, 6, [44, 63, 82, 101, 120, 139])) := by decide +kernel
theorem lm_len : shL.length = 210 := by decide +kernel
theorem lm_S0 {ad : Nat → Nat} : S0 ad = SL shL ad := by
  unfold S0 SL
  rw [lm_len]
  exact congrArg (fun z => ((210, z, ad) : gS)) (funext fun i => rfl)
theorem lm_cl : ∀ e ∈ shL, ∀ r ∈ grefs e, r < 210 := by decide +kernel
theorem lm_gcl {ad : Nat → Nat} : gcl (S0 ad) := by
  intro i hi r hr
  have hil : i < shL.length := by rw [lm_len]; exact hi
  have hm : shC i ∈ shL := by
    unfold shC
    rw [List.getElem?_eq_getElem hil]; exact List.getElem_mem hil
  exact lm_cl _ hm r hr
theorem lm_S {F : gF} {ad : Nat → Nat} {K : Nat × Nat} {X : gX} {pc : Nat} {ls st : List Value} (k : G F (S0 ad) K (gH X) pc ls st) : G F (SL LM_16 ad) K X pc ls st := by
  have e : S0 ad = SL (LM_16.set 43 (.inr (5, 6, [44, 63, 82, 101, 120, 139]))) ad := by rw [lm_eq]; exact lm_S0
  have hg : gcl (SL (LM_16.set 43 (.inr (5, 6, [44, 63, 82, 101, 120, 139]))) ad) := by rw [← e]; exact lm_gcl
  rw [e] at k
  exact hw_S lm_at rfl hg k
