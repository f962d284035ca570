theorem nI_max {a b : Nat} (ha : a < 2147483648) (hb : b < 2147483648) : (if nI a < nI b then nI b else nI a) = nI (max a b) := by
  by_cases h : a < b
  · rw [if_pos ((nI_ltD ha hb).mpr h), Nat.max_eq_right (Nat.le_of_lt h)]
  · rw [if_neg (fun z => h ((nI_ltD ha hb).mp z)), Nat.max_eq_left (Nat.not_lt.mp h)]
theorem nI_min {a b : Nat} (ha : a < 2147483648) (hb : b < 2147483648) : (if nI b < nI a then nI b else nI a) = nI (min a b) := by
  by_cases h : b < a
  · rw [if_pos ((nI_ltD hb ha).mpr h), Nat.min_eq_right (Nat.le_of_lt h)]
  · rw [if_neg (fun z => h ((nI_ltD hb ha).mp z)), Nat.min_eq_left (Nat.not_lt.mp h)]
def gcp (X : gX) (a b n : Nat) : gX := fun i => if i = b then va_cpy (X a) (X b) 0 0 n else X i
theorem gcp_lt {X : gX} {a b n j : Nat} (h : j < n) : gcp X a b n b j = X a j := by simp [gcp, va_cpy, h]
theorem gcp_ne {X : gX} {a b n : Nat} : ∀ i, i ≠ b → gcp X a b n i = X i := fun i h => by simp [gcp, h]
section
variable {F : gF} {own : String} {cc : ByteArray} {nL : Nat} {rm : Room} {S : gS} {K : Nat × Nat} {X : gX} {pc pc' : Nat} {ls st : List Value}

theorem g_mmax (hC : Cx F own cc nL rm) {x y : Int32} {idx : Nat} (hw : Cond.methodLink own idx Lib.Math.max.name ∈ TB) (hroom : 1 ≤ rm.frames ∧ (st.map fun v => v.category).sum + 13 ≤ rm.locals) (hf : K.1 ≤ rm.cells ∧ K.2 ≤ rm.slots) (d : decode cc pc = .ok (.invokestatic idx, 3)) (hp : pc + 3 = pc') (k : G F S K X pc' ls (.int (if x < y then y else x) :: st)) : G F S K X pc ls (.int y :: .int x :: st) := by
  obtain ⟨p, l, e, R, s, m, args, below, meth, c, Γ, A, Q⟩ := F
  obtain ⟨hx, hb, hml, hown, hts, hlk, rfl, hK, hA⟩ := hC
  subst hp
  intro H locs L hL hc0 hP hD hS
  exact va_mmax hx hb (by rw [hL.1]) hown (hts _ hw) (hts _ jw_max.1) (hts _ jw_max.2.1) (hts _ jw_max.2.2) hroom.1 (by rw [List.map_map, show ((fun v : Value => v.category) ∘ cv S) = fun v => v.category from funext (cv_cat S)]; exact hroom.2) hf.1 hf.2 d (k H locs L hL hc0 hP hD hS)
theorem g_mmaxN (hC : Cx F own cc nL rm) {a b : Nat} {idx : Nat} (hw : Cond.methodLink own idx Lib.Math.max.name ∈ TB) (hroom : 1 ≤ rm.frames ∧ (st.map fun v => v.category).sum + 13 ≤ rm.locals) (hf : K.1 ≤ rm.cells ∧ K.2 ≤ rm.slots) (d : decode cc pc = .ok (.invokestatic idx, 3)) (hp : pc + 3 = pc') (ha : a < 2147483648) (hb : b < 2147483648) (k : G F S K X pc' ls (.int (nI (max a b)) :: st)) : G F S K X pc ls (.int (nI b) :: .int (nI a) :: st) := g_mmax hC hw hroom hf d hp (by rw [nI_max ha hb]; exact k)
theorem g_mmin (hC : Cx F own cc nL rm) {x y : Int32} {idx : Nat} (hw : Cond.methodLink own idx Lib.Math.min.name ∈ TB) (hroom : 1 ≤ rm.frames ∧ (st.map fun v => v.category).sum + 13 ≤ rm.locals) (hf : K.1 ≤ rm.cells ∧ K.2 ≤ rm.slots) (d : decode cc pc = .ok (.invokestatic idx, 3)) (hp : pc + 3 = pc') (k : G F S K X pc' ls (.int (if y < x then y else x) :: st)) : G F S K X pc ls (.int y :: .int x :: st) := by
  obtain ⟨p, l, e, R, s, m, args, below, meth, c, Γ, A, Q⟩ := F
  obtain ⟨hx, hb, hml, hown, hts, hlk, rfl, hK, hA⟩ := hC
  subst hp
  intro H locs L hL hc0 hP hD hS
  exact va_mmin hx hb (by rw [hL.1]) hown (hts _ hw) (hts _ jw_min.1) (hts _ jw_min.2.1) (hts _ jw_min.2.2) hroom.1 (by rw [List.map_map, show ((fun v : Value => v.category) ∘ cv S) = fun v => v.category from funext (cv_cat S)]; exact hroom.2) hf.1 hf.2 d (k H locs L hL hc0 hP hD hS)
theorem g_mminN (hC : Cx F own cc nL rm) {a b : Nat} {idx : Nat} (hw : Cond.methodLink own idx Lib.Math.min.name ∈ TB) (hroom : 1 ≤ rm.frames ∧ (st.map fun v => v.category).sum + 13 ≤ rm.locals) (hf : K.1 ≤ rm.cells ∧ K.2 ≤ rm.slots) (d : decode cc pc = .ok (.invokestatic idx, 3)) (hp : pc + 3 = pc') (ha : a < 2147483648) (hb : b < 2147483648) (k : G F S K X pc' ls (.int (nI (min a b)) :: st)) : G F S K X pc ls (.int (nI b) :: .int (nI a) :: st) := g_mmin hC hw hroom hf d hp (by rw [nI_min ha hb]; exact k)
theorem g_acopy (hC : Cx F own cc nL rm) {i0 i1 n0 n1 n idx : Nat} {l0 l1 : List Nat} (hw : Cond.methodLink own idx arraycopyName ∈ TB) (hs0 : gat S i0 (.inr (0, n0, l0))) (hs1 : gat S i1 (.inr (0, n1, l1))) (h0 : n ≤ n0) (h1 : n ≤ n1) (hn : n < 2147483648) (hroom : 1 ≤ rm.frames ∧ (st.map fun v => v.category).sum + 18 ≤ rm.locals) (d : decode cc pc = .ok (.invokestatic idx, 3)) (hp : pc + 3 = pc') (k : G F S K (gcp X i0 i1 n) pc' ls st) : G F S K X pc ls (.int (nI n) :: .int (nI 0) :: .ref i1 :: .int (nI 0) :: .ref i0 :: st) := by
  obtain ⟨p, l, e, R, s, m, args, below, meth, c, Γ, A, Q⟩ := F
  obtain ⟨hx, hb, hml, hown, hts, hlk, rfl, hK, hA⟩ := hC
  subst hp
  intro H locs L hL hc0 hP hD hS
  have ha0 : (gws Γ S X)[i0]? = some (S.2.2 i0, .inl (Γ.2 0, n0, .inl (X i0))) := by rw [gws_at hs0, gcell_i (by decide)]
  have ha1 : (gws Γ S X)[i1]? = some (S.2.2 i1, .inl (Γ.2 0, n1, .inl (X i1))) := by rw [gws_at hs1, gcell_i (by decide)]
  have c0 : (nI 0).toNatClampNeg = 0 := nI_clamp (by decide)
  have cn : (nI n).toNatClampNeg = n := nI_clamp hn
  refine va_copyi hx hb (by rw [hL.1]) hown (hts _ hw) (hts _ jw_copy.1) (hts _ jw_copy.2.1) (hts _ jw_copy.2.2) hK.1 hP hD hS i0 i1 0 0 ha0 ha1 rfl rfl rfl (nI_pos (by decide)) (nI_pos (by decide)) (nI_pos hn) (by rw [c0, cn]; omega) (by rw [c0, cn]; omega) (fun _ _ => rfl) hroom.1 (by rw [List.map_map, show ((fun v : Value => v.category) ∘ cv S) = fun v => v.category from funext (cv_cat S)]; exact hroom.2) d (fun H1 locs1 hP1 hD1 hS1 => ?_)
  rw [c0, cn] at hP1 hD1
  have e : (gws Γ S X).set i1 (S.2.2 i1, .inl (Γ.2 0, n1, .inl (va_cpy (X i0) (X i1) 0 0 n))) = gws Γ S (gcp X i0 i1 n) := by
    have := gws_set (Γ := Γ) (X := X) (X' := gcp X i0 i1 n) hs1 gcp_ne
    rw [gcell_i (by decide)] at this
    rw [← this]
    simp [gcp]
  rw [e] at hP1 hD1
  exact k H1 locs1 L hL hc0 hP1 hD1 hS1
end
theorem ki (n : Nat) : Int32.ofInt (n : Int) = nI n := rfl
theorem kc_iconst_m1 : Int32.ofInt (-1) = -1 := by decide +kernel
theorem kc_iconst_0 : Int32.ofInt 0 = nI 0 := by decide +kernel
theorem kc_iconst_1 : Int32.ofInt 1 = nI 1 := by decide +kernel
theorem kc_iconst_2 : Int32.ofInt 2 = nI 2 := by decide +kernel
theorem kc_iconst_3 : Int32.ofInt 3 = nI 3 := by decide +kernel
theorem kc_iconst_4 : Int32.ofInt 4 = nI 4 := by decide +kernel
theorem kc_iconst_5 : Int32.ofInt 5 = nI 5 := by decide +kernel
theorem kc_bipush_m6 : (Int8.ofInt (-6)).toInt32 = -6 := by decide +kernel
theorem kc_bipush_m5 : (Int8.ofInt (-5)).toInt32 = -5 := by decide +kernel
theorem kc_bipush_m4 : (Int8.ofInt (-4)).toInt32 = -4 := by decide +kernel
theorem kc_bipush_m3 : (Int8.ofInt (-3)).toInt32 = -3 := by decide +kernel
theorem kc_bipush_m2 : (Int8.ofInt (-2)).toInt32 = -2 := by decide +kernel
theorem kc_bipush_6 : (Int8.ofInt 6).toInt32 = nI 6 := by decide +kernel
theorem kc_bipush_7 : (Int8.ofInt 7).toInt32 = nI 7 := by decide +kernel
theorem kc_bipush_8 : (Int8.ofInt 8).toInt32 = nI 8 := by decide +kernel
theorem kc_bipush_9 : (Int8.ofInt 9).toInt32 = nI 9 := by decide +kernel
theorem kc_bipush_10 : (Int8.ofInt 10).toInt32 = nI 10 := by decide +kernel
theorem kc_bipush_14 : (Int8.ofInt 14).toInt32 = nI 14 := by decide +kernel
theorem kc_bipush_15 : (Int8.ofInt 15).toInt32 = nI 15 := by decide +kernel
theorem kc_bipush_20 : (Int8.ofInt 20).toInt32 = nI 20 := by decide +kernel
theorem kc_bipush_31 : (Int8.ofInt 31).toInt32 = nI 31 := by decide +kernel
theorem kc_bipush_32 : (Int8.ofInt 32).toInt32 = nI 32 := by decide +kernel
theorem kc_bipush_33 : (Int8.ofInt 33).toInt32 = nI 33 := by decide +kernel
theorem kc_bipush_48 : (Int8.ofInt 48).toInt32 = nI 48 := by decide +kernel
theorem kc_bipush_57 : (Int8.ofInt 57).toInt32 = nI 57 := by decide +kernel
theorem kc_bipush_59 : (Int8.ofInt 59).toInt32 = nI 59 := by decide +kernel
theorem kc_bipush_60 : (Int8.ofInt 60).toInt32 = nI 60 := by decide +kernel
theorem kc_bipush_61 : (Int8.ofInt 61).toInt32 = nI 61 := by decide +kernel
theorem kc_bipush_70 : (Int8.ofInt 70).toInt32 = nI 70 := by decide +kernel
theorem kc_bipush_80 : (Int8.ofInt 80).toInt32 = nI 80 := by decide +kernel
theorem kc_bipush_98 : (Int8.ofInt 98).toInt32 = nI 98 := by decide +kernel
theorem kc_bipush_115 : (Int8.ofInt 115).toInt32 = nI 115 := by decide +kernel
theorem kc_bipush_116 : (Int8.ofInt 116).toInt32 = nI 116 := by decide +kernel
theorem kc_bipush_119 : (Int8.ofInt 119).toInt32 = nI 119 := by decide +kernel
theorem kc_bipush_126 : (Int8.ofInt 126).toInt32 = nI 126 := by decide +kernel
theorem kc_sipush_300 : (Int16.ofInt 300).toInt32 = nI 300 := by decide +kernel
theorem kc_sipush_320 : (Int16.ofInt 320).toInt32 = nI 320 := by decide +kernel
theorem kc_sipush_470 : (Int16.ofInt 470).toInt32 = nI 470 := by decide +kernel
theorem kc_sipush_940 : (Int16.ofInt 940).toInt32 = nI 940 := by decide +kernel
theorem kc_sipush_999 : (Int16.ofInt 999).toInt32 = nI 999 := by decide +kernel
theorem kc_sipush_1000 : (Int16.ofInt 1000).toInt32 = nI 1000 := by decide +kernel
theorem kc_sipush_2350 : (Int16.ofInt 2350).toInt32 = nI 2350 := by decide +kernel
theorem kc_sipush_2820 : (Int16.ofInt 2820).toInt32 = nI 2820 := by decide +kernel
theorem kc_iinc_m1 : Int32.ofInt (-1) = -1 := by decide +kernel
theorem kc_iinc_1 : Int32.ofInt 1 = nI 1 := by decide +kernel
theorem kc_iinc_5 : Int32.ofInt 5 = nI 5 := by decide +kernel
