/-! worlds that grow: the shape as a list -/
def SL (l : List gE) (ad : Nat → Nat) : gS := (l.length, fun i => (l[i]?).getD (.inl (0, [])), ad)
theorem sl_at {l : List gE} {ad : Nat → Nat} {i : Nat} {e : gE} (h : l[i]? = some e) : gat (SL l ad) i e := ⟨(List.getElem?_eq_some_iff.mp h).1, by show (l[i]?).getD _ = e; rw [h]; rfl⟩
def adu (ad : Nat → Nat) (n q : Nat) : Nat → Nat := fun i => if i = n then q else ad i
def gz (X : gX) (n : Nat) : gX := fun i => if i = n then fun _ => 0 else X i
theorem gz_at {X : gX} {n k : Nat} : gz X n n k = nI 0 := by simp [gz]; rfl
theorem gz_ne {X : gX} {n : Nat} : ∀ i, i ≠ n → gz X n i = X i := fun i h => by simp [gz, h]
def rlt (N : Nat) : List Value → Prop
  | [] => True
  | .ref i :: vs => (i < N ∨ 5000 ≤ i) ∧ rlt N vs
  | _ :: vs => rlt N vs
theorem rlt_cv {l l' : List gE} {ad ad' : Nat → Nat} {N : Nat} (ha : ∀ i, i < N ∨ 5000 ≤ i → ad' i = ad i) : ∀ {vs : List Value}, rlt N vs → ∀ v ∈ vs, cv (SL l' ad') v = cv (SL l ad) v := by
  intro vs
  induction vs with
  | nil => intro _ v hv; cases hv
  | cons a vs ih =>
    intro h v hv
    cases a with
    | ref i =>
      rcases List.mem_cons.mp hv with rfl | hv
      · exact congrArg Value.ref (ha i h.1)
      · exact ih h.2 v hv
    | _ =>
      rcases List.mem_cons.mp hv with rfl | hv
      · rfl
      · exact ih h v hv
theorem gcell_ad {Γ : gL} {l l' : List gE} {ad ad' : Nat → Nat} {X X' : gX} {id : Nat} {e : gE} (hr : ∀ r ∈ grefs e, ad' r = ad r) (hX : X' id = X id) : gcell Γ (SL l' ad') X' id e = gcell Γ (SL l ad) X id e := by
  rcases e with ⟨ci, fs⟩ | ⟨t, n, la⟩
  · have : ∀ k, gfv (SL l' ad') X' id k ((fs[k]?).getD none) = gfv (SL l ad) X id k ((fs[k]?).getD none) := fun k => by
      cases h : fs[k]? with
      | none => simp only [Option.getD_none, gfv, hX]
      | some o =>
        rcases o with _ | _ | r
        · simp only [Option.getD_some, gfv, hX]
        · rfl
        · have hm : r ∈ grefs (.inl (ci, fs)) := List.mem_filterMap.mpr ⟨some (some r), List.mem_of_getElem? h, rfl⟩
          exact congrArg Value.ref (hr r hm)
    simp only [gcell, this]
  · have : (fun j : Nat => (la[if t = 5 then (X' id j).toNatClampNeg else j]?).map (SL l' ad').2.2) = (fun j : Nat => (la[if t = 5 then (X id j).toNatClampNeg else j]?).map (SL l ad).2.2) := by
      funext j
      rw [hX]
      cases h : la[if t = 5 then (X id j).toNatClampNeg else j]? with
      | none => rfl
      | some r => exact congrArg some (hr r (List.mem_of_getElem? h))
    simp only [gcell]
    rw [this, hX]
theorem sl_look {l : List gE} {i : Nat} (h : i < l.length) : ∃ e, l[i]? = some e := ⟨l[i], List.getElem?_eq_getElem h⟩
theorem gws_snoc {Γ : gL} {l : List gE} {ad : Nat → Nat} {X : gX} {q : Nat} {e : gE} (hc : gcl (SL l ad)) : gws Γ (SL (l ++ [e]) (adu ad l.length q)) (gz X l.length) = gws Γ (SL l ad) X ++ [(q, gcell Γ (SL (l ++ [e]) (adu ad l.length q)) (gz X l.length) l.length e)] := by
  unfold gws
  have hl : (SL (l ++ [e]) (adu ad l.length q)).1 = l.length + 1 := by show (l ++ [e]).length = _; simp
  rw [hl, List.range_succ, List.map_append]
  have e2 : ((l ++ [e])[l.length]?).getD (.inl (0, [])) = e := by rw [List.getElem?_append_right (Nat.le_refl _), Nat.sub_self]; rfl
  refine congr (congrArg _ (List.map_congr_left (fun i hi => ?_))) ?_
  · have hil : i < l.length := List.mem_range.mp hi
    have ha : ∀ r, r < l.length → adu ad l.length q r = ad r := fun r hr => by unfold adu; rw [if_neg (by omega)]
    have he : (SL (l ++ [e]) (adu ad l.length q)).2.1 i = (SL l ad).2.1 i := by show ((l ++ [e])[i]?).getD _ = (l[i]?).getD _; rw [List.getElem?_append_left hil]
    rw [he, gcell_ad (l' := l ++ [e]) (l := l) (ad := ad) (X := X) (fun r hr => ha r (hc i hil r hr)) (gz_ne i (by omega))]
    exact congrArg (·, _) (ha i hil)
  · show [((adu ad l.length q) l.length, gcell Γ _ _ l.length (((l ++ [e])[l.length]?).getD (.inl (0, []))))] = _
    rw [e2]
    unfold adu
    rw [if_pos rfl]
theorem gcl_snoc {l : List gE} {ad ad' : Nat → Nat} {e : gE} (hc : gcl (SL l ad)) (he : grefs e = []) : gcl (SL (l ++ [e]) ad') := by
  intro i hi r hr
  have hl : (SL (l ++ [e]) ad').1 = l.length + 1 := by show (l ++ [e]).length = _; simp
  rw [hl] at hi ⊢
  by_cases hz : i < l.length
  · have h2 : (SL (l ++ [e]) ad').2.1 i = (SL l ad).2.1 i := by show ((l ++ [e])[i]?).getD _ = (l[i]?).getD _; rw [List.getElem?_append_left hz]
    rw [h2] at hr
    exact Nat.lt_succ_of_lt (hc i hz r hr)
  · have h2 : (SL (l ++ [e]) ad').2.1 i = e := by
      show ((l ++ [e])[i]?).getD _ = e
      rw [show i = l.length by omega, List.getElem?_append_right (Nat.le_refl _), Nat.sub_self]; rfl
    rw [h2, he] at hr
    cases hr
theorem gws_lset {Γ : gL} {l : List gE} {ad : Nat → Nat} {X : gX} {id : Nat} {e : gE} (h : id < l.length) : (gws Γ (SL l ad) X).set id (ad id, gcell Γ (SL l ad) X id e) = gws Γ (SL (l.set id e) ad) X := by
  apply List.ext_getElem?
  intro i
  by_cases hi : i = id
  · subst hi
    rw [List.getElem?_set_self (by rw [gws_len]; exact h), gws_at (sl_at (l := l.set i e) (e := e) (by rw [List.getElem?_set_self h]))]
    exact congrArg some (congrArg (Prod.mk (ad i)) (gcell_ad (fun _ _ => rfl) rfl))
  · rw [List.getElem?_set_ne (Ne.symm hi)]
    by_cases hil : i < l.length
    · obtain ⟨x, hx⟩ := sl_look hil
      rw [gws_at (sl_at hx), gws_at (sl_at (l := l.set id e) (e := x) (by rw [List.getElem?_set_ne (Ne.symm hi)]; exact hx))]
      exact congrArg some (congrArg (Prod.mk (ad i)) (gcell_ad (fun _ _ => rfl) rfl))
    · rw [List.getElem?_eq_none (by rw [gws_len]; show l.length ≤ i; omega), List.getElem?_eq_none (by rw [gws_len]; show (l.set id e).length ≤ i; rw [List.length_set]; omega)]
theorem gcl_lset {l : List gE} {ad : Nat → Nat} {id r0 : Nat} {e e0 : gE} (hc : gcl (SL l ad)) (h0 : l[id]? = some e0) (hr0 : r0 < l.length) (he : ∀ r ∈ grefs e, r = r0 ∨ r ∈ grefs e0) : gcl (SL (l.set id e) ad) := by
  have hid : id < l.length := (List.getElem?_eq_some_iff.mp h0).1
  intro i hi r hr
  have hl : (SL (l.set id e) ad).1 = l.length := by show (l.set id e).length = _; simp
  rw [hl] at hi ⊢
  by_cases hz : i = id
  · subst hz
    have h2 : (SL (l.set i e) ad).2.1 i = e := by show ((l.set i e)[i]?).getD _ = e; rw [List.getElem?_set_self hid]; rfl
    rw [h2] at hr
    rcases he r hr with rfl | h
    · exact hr0
    · have h3 : (SL l ad).2.1 i = e0 := by show (l[i]?).getD _ = e0; rw [h0]; rfl
      exact hc i hid r (by rw [h3]; exact h)
  · have h2 : (SL (l.set id e) ad).2.1 i = (SL l ad).2.1 i := by show ((l.set id e)[i]?).getD _ = (l[i]?).getD _; rw [List.getElem?_set_ne (Ne.symm hz)]
    rw [h2] at hr
    exact hc i hi r hr
def dv0 : Option (Option Nat) → Value
  | none => .int 0
  | _ => .null
/-- a class that can be made: its cells when it is new -/
def FNEW (own : String) (idx ci : Nat) (fs : List (Option (Option Nat))) : Prop := ∃ (C : String) (T : u_T) (N : Nat) (ty0 : Nat → FieldType), gCl[ci]? = some (C, T, N) ∧ (∀ w ∈ u_ws C T N, w ∈ TB) ∧ (∀ k, k < N → parseFieldDescriptor (T k).2.2.1 = some (ty0 k)) ∧ fs.length = N ∧ (∀ j, j < N → defaultValue (ty0 j) = dv0 ((fs[j]?).getD none)) ∧ (∀ o ∈ fs, o = none ∨ o = some none) ∧ Cond.classLink own idx C ∈ TB ∧ Cond.instantiable C N ∈ TB ∧ Cond.initialized C ∈ TB
/-- a final field, set in a constructor -/
def FLDF (own : String) (idx ci k : Nat) : Prop := ∃ (C : String) (T : u_T) (N : Nat) (ty0 : Nat → FieldType), gCl[ci]? = some (C, T, N) ∧ k < N ∧ Cond.fieldLink own idx (T k).1 (T k).2.1 (T k).2.2.1 ∈ TB ∧ (∀ w ∈ u_ws C T N, w ∈ TB) ∧ (∀ k, k < N → parseFieldDescriptor (T k).2.2.1 = some (ty0 k)) ∧ (∀ a, a < N → ∀ b, b < N → a ≠ b → (T a).2.1 ≠ (T b).2.1) ∧ (T k).2.2.2 = true ∧ (T k).1 = own ∧ ∀ a, narrow (ty0 k) (.ref a) = .ref a ∧ fits (ty0 k) (.ref a) = true
theorem gfs_new {S : gS} {X : gX} {id : Nat} {fs : List (Option (Option Nat))} (hX : ∀ k, X id k = 0) (hn : ∀ o ∈ fs, o = none ∨ o = some none) (j : Nat) (hj : j < fs.length) : vp_V ((List.range fs.length).map (fun k => gfv S X id k ((fs[k]?).getD none))) j = dv0 ((fs[j]?).getD none) := by
  have e : ((List.range fs.length).map (fun k => gfv S X id k ((fs[k]?).getD none)))[j]? = some (gfv S X id j ((fs[j]?).getD none)) := by rw [List.getElem?_map, List.getElem?_range hj]; rfl
  unfold vp_V
  rw [List.getD_eq_getElem?_getD, e]
  obtain ⟨o, ho⟩ : ∃ o, fs[j]? = some o := ⟨fs[j], List.getElem?_eq_getElem hj⟩
  rw [ho]
  rcases hn o (List.mem_of_getElem? ho) with rfl | rfl
  · show Value.int (X id j) = .int 0; rw [hX]
  · rfl

theorem aw_int : Cond.arrayClass .int ∈ TB := (tb_at 99 (by decide +kernel) (by decide +kernel))
theorem aw_boolean : Cond.arrayClass .boolean ∈ TB := (tb_at 189 (by decide +kernel) (by decide +kernel))
theorem aw_char : Cond.arrayClass .char ∈ TB := (tb_at 190 (by decide +kernel) (by decide +kernel))
theorem ow_i : Cond.instanceMethod Lib.objectInit ∈ TB := (tb_at 61 (by decide +kernel) (by decide +kernel))
theorem ow_c : Cond.code Lib.objectInit ⟨#[0xb1]⟩ 1 none ∈ TB := (tb_at 62 (by decide +kernel) (by decide +kernel))
theorem ol_X6 : Cond.methodLink RX6 1 Lib.objectInit ∈ TB := (tb_at 60 (by decide +kernel) (by decide +kernel))
theorem ol_X0 : Cond.methodLink RX0 3 Lib.objectInit ∈ TB := (tb_at 162 (by decide +kernel) (by decide +kernel))
theorem ol_X1 : Cond.methodLink RX1 3 Lib.objectInit ∈ TB := (tb_at 196 (by decide +kernel) (by decide +kernel))
theorem ol_X2 : Cond.methodLink RX2 3 Lib.objectInit ∈ TB := (tb_at 179 (by decide +kernel) (by decide +kernel))
theorem ol_X3 : Cond.methodLink RX3 3 Lib.objectInit ∈ TB := (tb_at 75 (by decide +kernel) (by decide +kernel))
theorem ol_X4 : Cond.methodLink RX4 3 Lib.objectInit ∈ TB := (tb_at 68 (by decide +kernel) (by decide +kernel))
theorem ol_X5 : Cond.methodLink RX5 3 Lib.objectInit ∈ TB := (tb_at 126 (by decide +kernel) (by decide +kernel))
theorem ol_X7 : Cond.methodLink RX7 1 Lib.objectInit ∈ TB := (tb_at 634 (by decide +kernel) (by decide +kernel))
theorem fn_L_7 : FNEW RL 7 6 [some none, some none, some none, some none, some none, some none, some none, some none] := ⟨RX6, TX6, 8, tyX6, rfl, gw6, tyX6_ok, rfl, by decide +kernel, by decide, (tb_at 55 (by decide +kernel) (by decide +kernel)), (tb_at 56 (by decide +kernel) (by decide +kernel)), (tb_at 45 (by decide +kernel) (by decide +kernel))⟩
theorem fn_X6_7 : FNEW RX6 7 4 [some none, some none, none, none, some none] := ⟨RX4, TX4, 5, tyX4, rfl, gw4, tyX4_ok, rfl, by decide +kernel, by decide, (tb_at 63 (by decide +kernel) (by decide +kernel)), (tb_at 64 (by decide +kernel) (by decide +kernel)), (tb_at 46 (by decide +kernel) (by decide +kernel))⟩
theorem fn_X4_9 : FNEW RX4 9 3 [none, none, none, some none, some none] := ⟨RX3, TX3, 5, tyX3, rfl, gw3, tyX3_ok, rfl, by decide +kernel, by decide, (tb_at 69 (by decide +kernel) (by decide +kernel)), (tb_at 71 (by decide +kernel) (by decide +kernel)), (tb_at 47 (by decide +kernel) (by decide +kernel))⟩
theorem fn_X6_19 : FNEW RX6 19 5 [none, none, none, none, none, none, some none, some none] := ⟨RX5, TX5, 8, tyX5, rfl, gw5, tyX5_ok, rfl, by decide +kernel, by decide, (tb_at 121 (by decide +kernel) (by decide +kernel)), (tb_at 122 (by decide +kernel) (by decide +kernel)), (tb_at 48 (by decide +kernel) (by decide +kernel))⟩
theorem fn_X6_26 : FNEW RX6 26 0 [none, some none] := ⟨RX0, TX0, 2, tyX0, rfl, gw0, tyX0_ok, rfl, by decide +kernel, by decide, (tb_at 157 (by decide +kernel) (by decide +kernel)), (tb_at 158 (by decide +kernel) (by decide +kernel)), (tb_at 49 (by decide +kernel) (by decide +kernel))⟩
theorem fn_X0_15 : FNEW RX0 15 4 [some none, some none, none, none, some none] := ⟨RX4, TX4, 5, tyX4, rfl, gw4, tyX4_ok, rfl, by decide +kernel, by decide, (tb_at 163 (by decide +kernel) (by decide +kernel)), (tb_at 64 (by decide +kernel) (by decide +kernel)), (tb_at 46 (by decide +kernel) (by decide +kernel))⟩
theorem fn_X6_41 : FNEW RX6 41 2 [none, some none] := ⟨RX2, TX2, 2, tyX2, rfl, gw2, tyX2_ok, rfl, by decide +kernel, by decide, (tb_at 174 (by decide +kernel) (by decide +kernel)), (tb_at 175 (by decide +kernel) (by decide +kernel)), (tb_at 50 (by decide +kernel) (by decide +kernel))⟩
theorem fn_X6_48 : FNEW RX6 48 1 [none, none, none, none, none] := ⟨RX1, TX1, 5, tyX1, rfl, gw1, tyX1_ok, rfl, by decide +kernel, by decide, (tb_at 191 (by decide +kernel) (by decide +kernel)), (tb_at 192 (by decide +kernel) (by decide +kernel)), (tb_at 51 (by decide +kernel) (by decide +kernel))⟩
theorem fn_L_10 : FNEW RL 10 7 [some none, some none, some none, none, some none, some none, some none, none, none, some none, none, none, none, none, none, some none, none, none, none] := ⟨RX7, TX7, 19, tyX7, rfl, gw7, tyX7_ok, rfl, by decide +kernel, by decide, (tb_at 629 (by decide +kernel) (by decide +kernel)), (tb_at 630 (by decide +kernel) (by decide +kernel)), (tb_at 52 (by decide +kernel) (by decide +kernel))⟩
theorem ff_X0_17 : FLDF RX0 17 0 1 := ⟨RX0, TX0, 2, tyX0, rfl, by decide, (tb_at 168 (by decide +kernel) (by decide +kernel)), gw0, tyX0_ok, nmX0, rfl, rfl, fun a => ⟨rfl, rfl⟩⟩
theorem ff_X2_15 : FLDF RX2 15 2 1 := ⟨RX2, TX2, 2, tyX2, rfl, by decide, (tb_at 182 (by decide +kernel) (by decide +kernel)), gw2, tyX2_ok, nmX2, rfl, rfl, fun a => ⟨rfl, rfl⟩⟩
theorem ff_X3_21 : FLDF RX3 21 3 3 := ⟨RX3, TX3, 5, tyX3, rfl, by decide, (tb_at 85 (by decide +kernel) (by decide +kernel)), gw3, tyX3_ok, nmX3, rfl, rfl, fun a => ⟨rfl, rfl⟩⟩
theorem ff_X3_25 : FLDF RX3 25 3 4 := ⟨RX3, TX3, 5, tyX3, rfl, by decide, (tb_at 87 (by decide +kernel) (by decide +kernel)), gw3, tyX3_ok, nmX3, rfl, rfl, fun a => ⟨rfl, rfl⟩⟩
theorem ff_X4_11 : FLDF RX4 11 4 0 := ⟨RX4, TX4, 5, tyX4, rfl, by decide, (tb_at 100 (by decide +kernel) (by decide +kernel)), gw4, tyX4_ok, nmX4, rfl, rfl, fun a => ⟨rfl, rfl⟩⟩
theorem ff_X4_17 : FLDF RX4 17 4 1 := ⟨RX4, TX4, 5, tyX4, rfl, by decide, (tb_at 102 (by decide +kernel) (by decide +kernel)), gw4, tyX4_ok, nmX4, rfl, rfl, fun a => ⟨rfl, rfl⟩⟩
theorem ff_X4_28 : FLDF RX4 28 4 4 := ⟨RX4, TX4, 5, tyX4, rfl, by decide, (tb_at 108 (by decide +kernel) (by decide +kernel)), gw4, tyX4_ok, nmX4, rfl, rfl, fun a => ⟨rfl, rfl⟩⟩
theorem ff_X5_9 : FLDF RX5 9 5 6 := ⟨RX5, TX5, 8, tyX5, rfl, by decide, (tb_at 138 (by decide +kernel) (by decide +kernel)), gw5, tyX5_ok, nmX5, rfl, rfl, fun a => ⟨rfl, rfl⟩⟩
theorem ff_X5_15 : FLDF RX5 15 5 7 := ⟨RX5, TX5, 8, tyX5, rfl, by decide, (tb_at 139 (by decide +kernel) (by decide +kernel)), gw5, tyX5_ok, nmX5, rfl, rfl, fun a => ⟨rfl, rfl⟩⟩
theorem ff_X6_10 : FLDF RX6 10 6 0 := ⟨RX6, TX6, 8, tyX6, rfl, by decide, (tb_at 217 (by decide +kernel) (by decide +kernel)), gw6, tyX6_ok, nmX6, rfl, rfl, fun a => ⟨rfl, rfl⟩⟩
theorem ff_X6_16 : FLDF RX6 16 6 1 := ⟨RX6, TX6, 8, tyX6, rfl, by decide, (tb_at 218 (by decide +kernel) (by decide +kernel)), gw6, tyX6_ok, nmX6, rfl, rfl, fun a => ⟨rfl, rfl⟩⟩
theorem ff_X6_22 : FLDF RX6 22 6 2 := ⟨RX6, TX6, 8, tyX6, rfl, by decide, (tb_at 219 (by decide +kernel) (by decide +kernel)), gw6, tyX6_ok, nmX6, rfl, rfl, fun a => ⟨rfl, rfl⟩⟩
theorem ff_X6_29 : FLDF RX6 29 6 3 := ⟨RX6, TX6, 8, tyX6, rfl, by decide, (tb_at 220 (by decide +kernel) (by decide +kernel)), gw6, tyX6_ok, nmX6, rfl, rfl, fun a => ⟨rfl, rfl⟩⟩
theorem ff_X6_33 : FLDF RX6 33 6 4 := ⟨RX6, TX6, 8, tyX6, rfl, by decide, (tb_at 221 (by decide +kernel) (by decide +kernel)), gw6, tyX6_ok, nmX6, rfl, rfl, fun a => ⟨rfl, rfl⟩⟩
theorem ff_X6_37 : FLDF RX6 37 6 5 := ⟨RX6, TX6, 8, tyX6, rfl, by decide, (tb_at 222 (by decide +kernel) (by decide +kernel)), gw6, tyX6_ok, nmX6, rfl, rfl, fun a => ⟨rfl, rfl⟩⟩
theorem ff_X6_44 : FLDF RX6 44 6 6 := ⟨RX6, TX6, 8, tyX6, rfl, by decide, (tb_at 223 (by decide +kernel) (by decide +kernel)), gw6, tyX6_ok, nmX6, rfl, rfl, fun a => ⟨rfl, rfl⟩⟩
theorem ff_X6_51 : FLDF RX6 51 6 7 := ⟨RX6, TX6, 8, tyX6, rfl, by decide, (tb_at 224 (by decide +kernel) (by decide +kernel)), gw6, tyX6_ok, nmX6, rfl, rfl, fun a => ⟨rfl, rfl⟩⟩
theorem ff_X7_7 : FLDF RX7 7 7 0 := ⟨RX7, TX7, 19, tyX7, rfl, by decide, (tb_at 635 (by decide +kernel) (by decide +kernel)), gw7, tyX7_ok, nmX7, rfl, rfl, fun a => ⟨rfl, rfl⟩⟩
theorem ff_X7_13 : FLDF RX7 13 7 1 := ⟨RX7, TX7, 19, tyX7, rfl, by decide, (tb_at 636 (by decide +kernel) (by decide +kernel)), gw7, tyX7_ok, nmX7, rfl, rfl, fun a => ⟨rfl, rfl⟩⟩
theorem ff_X7_16 : FLDF RX7 16 7 2 := ⟨RX7, TX7, 19, tyX7, rfl, by decide, (tb_at 637 (by decide +kernel) (by decide +kernel)), gw7, tyX7_ok, nmX7, rfl, rfl, fun a => ⟨rfl, rfl⟩⟩
theorem ff_X7_19 : FLDF RX7 19 7 4 := ⟨RX7, TX7, 19, tyX7, rfl, by decide, (tb_at 639 (by decide +kernel) (by decide +kernel)), gw7, tyX7_ok, nmX7, rfl, rfl, fun a => ⟨rfl, rfl⟩⟩
theorem ff_X7_22 : FLDF RX7 22 7 5 := ⟨RX7, TX7, 19, tyX7, rfl, by decide, (tb_at 640 (by decide +kernel) (by decide +kernel)), gw7, tyX7_ok, nmX7, rfl, rfl, fun a => ⟨rfl, rfl⟩⟩
theorem ff_X7_26 : FLDF RX7 26 7 6 := ⟨RX7, TX7, 19, tyX7, rfl, by decide, (tb_at 641 (by decide +kernel) (by decide +kernel)), gw7, tyX7_ok, nmX7, rfl, rfl, fun a => ⟨rfl, rfl⟩⟩
theorem ff_X7_29 : FLDF RX7 29 7 9 := ⟨RX7, TX7, 19, tyX7, rfl, by decide, (tb_at 644 (by decide +kernel) (by decide +kernel)), gw7, tyX7_ok, nmX7, rfl, rfl, fun a => ⟨rfl, rfl⟩⟩
theorem ff_X7_32 : FLDF RX7 32 7 15 := ⟨RX7, TX7, 19, tyX7, rfl, by decide, (tb_at 650 (by decide +kernel) (by decide +kernel)), gw7, tyX7_ok, nmX7, rfl, rfl, fun a => ⟨rfl, rfl⟩⟩
section
variable {F : gF} {own : String} {cc : ByteArray} {nL : Nat} {rm : Room} {K : Nat × Nat} {X : gX} {pc pc' : Nat} {ls st : List Value}
theorem g_conc {F : gF} {l l' : List gE} {ad ad' : Nat → Nat} {N : Nat} {L : Array Slot} {nL : Nat} {ls : List Value} (ha : ∀ i, i < N ∨ 5000 ≤ i → ad' i = ad i) (hr : rlt N ls) (h : gLoc (SL l ad) L nL ls) : gLoc (SL l' ad') L nL ls := gLoc_cv h (rlt_cv ha hr)
theorem rlt_l {N : Nat} {bs : List Value} : ∀ {as : List Value}, rlt N (as ++ bs) → rlt N as := by
  intro as
  induction as with
  | nil => intro _; trivial
  | cons a as ih =>
    intro h
    cases a with
    | ref i => exact ⟨h.1, ih h.2⟩
    | _ => exact ih h
theorem rlt_r {N : Nat} {bs : List Value} : ∀ {as : List Value}, rlt N (as ++ bs) → rlt N bs := by
  intro as
  induction as with
  | nil => intro h; exact h
  | cons a as ih =>
    intro h
    cases a with
    | ref i => exact ih h.2
    | _ => exact ih h
theorem adu_lt {ad : Nat → Nat} {N q : Nat} (h5 : N < 5000) : ∀ i, i < N ∨ 5000 ≤ i → adu ad N q i = ad i := fun i hi => by unfold adu; rw [if_neg (by omega)]
theorem g_new (hC : Cx F own cc nL rm) {l l' : List gE} {ad : Nat → Nat} {idx ci N : Nat} {fs : List (Option (Option Nat))} (hf : FNEW own idx ci fs) (hN : l.length = N) (h5N : N < 5000) (hl : l ++ [.inl (ci, fs)] = l') (hr : rlt N (ls ++ st)) (hroom : K.1 + 1 ≤ rm.cells ∧ K.2 + fs.length ≤ rm.slots) (d : decode cc pc = .ok (.new idx, 3)) (hp : pc + 3 = pc') (kk : ∀ ad', (∀ i, i < N ∨ 5000 ≤ i → ad' i = ad i) → G F (SL l' ad') (K.1 + 1, K.2 + fs.length) (gz X N) pc' ls (.ref N :: st)) : G F (SL l ad) K X pc ls st := by
  obtain ⟨p, l0, e, R, s, m, args, below, meth, c, Γ, A, Q⟩ := F
  obtain ⟨hx, hb, hml, hown, hts, hlk, rfl, hK, hA⟩ := hC
  subst hp
  intro H locs L hL hc0 hP hD hS
  subst hN; subst hl
  obtain ⟨C, T, N, ty0, h1, h2, h3, rfl, h5, h6, h7, h8, h9⟩ := hf
  refine va_new (fs := (List.range fs.length).map (fun k => gfv (SL (l ++ [.inl (ci, fs)]) ad) (gz X l.length) l.length k ((fs[k]?).getD none))) hx hb hts h2 ty0 h3 hown (hts _ h7) (hts _ h8) (hts _ h9) hK.1 hP hD hS hA h1 (fun j hj => (h5 j hj).trans (gfs_new (fun k => by simp [gz]) h6 j hj).symm) hroom.1 hroom.2 d (fun q H1 hP1 hD1 hS1 => ?_)
  have e1 : gws Γ (SL l ad) X ++ [(q, .inr (ci, (List.range fs.length).map (fun k => gfv (SL (l ++ [.inl (ci, fs)]) ad) (gz X l.length) l.length k ((fs[k]?).getD none))))] = gws Γ (SL (l ++ [.inl (ci, fs)]) (adu ad l.length q)) (gz X l.length) := by
    rw [gws_snoc hc0]
    have hg : grefs (.inl (ci, fs)) = [] := by
      show fs.filterMap _ = []
      rw [List.filterMap_eq_nil_iff]
      intro o ho
      rcases h6 o ho with rfl | rfl <;> rfl
    have := gcell_ad (Γ := Γ) (l := l ++ [.inl (ci, fs)]) (l' := l ++ [.inl (ci, fs)]) (ad := ad) (ad' := adu ad l.length q) (X := gz X l.length) (X' := gz X l.length) (id := l.length) (e := .inl (ci, fs)) (fun r hr => by rw [hg] at hr; cases hr) rfl
    rw [this]
    rfl
  rw [e1] at hP1 hD1
  have k2 := kk (adu ad l.length q) (adu_lt h5N) H1 locs L (g_conc (F := (p, l0, e, R, s, m, args, below, meth, c, Γ, A, Q)) (adu_lt h5N) (rlt_l hr) hL) (gcl_snoc hc0 (by
    show fs.filterMap _ = []
    rw [List.filterMap_eq_nil_iff]
    intro o ho
    rcases h6 o ho with rfl | rfl <;> rfl)) hP1 hD1 hS1
  have es : (Value.ref l.length :: st).map (cv (SL (l ++ [.inl (ci, fs)]) (adu ad l.length q))) = .ref q :: st.map (cv (SL l ad)) := by
    rw [List.map_cons, List.map_congr_left (rlt_cv (l := l) (adu_lt h5N) (rlt_r hr))]
    refine congrArg (· :: _) (congrArg Value.ref ?_)
    show adu ad l.length q l.length = q
    unfold adu; rw [if_pos rfl]
  rw [es] at k2
  exact k2

theorem g_newa_int (hC : Cx F own cc nL rm) {l l' : List gE} {ad : Nat → Nat} {n N : Nat} (hn : n * 4 ≤ 536870912) (hN : l.length = N) (h5N : N < 5000) (hl : l ++ [.inr (0, n, [])] = l') (hr : rlt N (ls ++ st)) (hroom : K.1 + 1 ≤ rm.cells ∧ K.2 + n ≤ rm.slots) (d : decode cc pc = .ok (.newarray .int, 2)) (hp : pc + 2 = pc') (kk : ∀ ad', (∀ i, i < N ∨ 5000 ≤ i → ad' i = ad i) → G F (SL l' ad') (K.1 + 1, K.2 + n) (gz X N) pc' ls (.ref N :: st)) : G F (SL l ad) K X pc ls (.int (nI n) :: st) := by
  obtain ⟨p, l0, e, R, s, m, args, below, meth, c, Γ, A, Q⟩ := F
  obtain ⟨hx, hb, hml, hown, hts, hlk, rfl, hK, hA⟩ := hC
  subst hp
  intro H locs L hL hc0 hP hD hS
  subst hN; subst hl
  refine va_newa (atype := .int) (ty := .int) (a0 := (n, .inl (fun _ => 0))) hx hb (hts _ aw_int) rfl hK.1 hP hD hS hA (fun cA => rfl) (nI_pos (by omega)) (nI_clamp (by omega)) (Nat.le_trans (Nat.mul_le_mul_left n (by decide)) hn) hroom.1 hroom.2 d (fun q cA H1 hK1 hP1 hD1 hS1 => ?_)
  have hcA : cA = Γ.2 0 := by
    have a1 := (hK1.2 5 (cA, .int) rfl).2
    have a2 := (hK.1.2 0 (Γ.2 0, .int) rfl).2
    exact Option.some.inj (a1.symm.trans a2)
  subst hcA
  have e1 : gws Γ (SL l ad) X ++ [(q, .inl (Γ.2 0, n, .inl (fun _ => 0)))] = gws Γ (SL (l ++ [.inr (0, n, [])]) (adu ad l.length q)) (gz X l.length) := by
    rw [gws_snoc hc0, gcell_i (by decide)]
    simp only [gz, if_true]
  rw [e1] at hP1 hD1
  have k2 := kk (adu ad l.length q) (adu_lt h5N) H1 locs L (g_conc (F := (p, l0, e, R, s, m, args, below, meth, c, Γ, A, Q)) (adu_lt h5N) (rlt_l hr) hL) (gcl_snoc hc0 rfl) hP1 hD1 hS1
  have es : (Value.ref l.length :: st).map (cv (SL (l ++ [.inr (0, n, [])]) (adu ad l.length q))) = .ref q :: st.map (cv (SL l ad)) := by
    rw [List.map_cons, List.map_congr_left (rlt_cv (l := l) (adu_lt h5N) (rlt_r hr))]
    refine congrArg (· :: _) (congrArg Value.ref ?_)
    show adu ad l.length q l.length = q
    unfold adu; rw [if_pos rfl]
  rw [es] at k2
  exact k2
theorem g_newa_char (hC : Cx F own cc nL rm) {l l' : List gE} {ad : Nat → Nat} {n N : Nat} (hn : n * 4 ≤ 536870912) (hN : l.length = N) (h5N : N < 5000) (hl : l ++ [.inr (1, n, [])] = l') (hr : rlt N (ls ++ st)) (hroom : K.1 + 1 ≤ rm.cells ∧ K.2 + n ≤ rm.slots) (d : decode cc pc = .ok (.newarray .char, 2)) (hp : pc + 2 = pc') (kk : ∀ ad', (∀ i, i < N ∨ 5000 ≤ i → ad' i = ad i) → G F (SL l' ad') (K.1 + 1, K.2 + n) (gz X N) pc' ls (.ref N :: st)) : G F (SL l ad) K X pc ls (.int (nI n) :: st) := by
  obtain ⟨p, l0, e, R, s, m, args, below, meth, c, Γ, A, Q⟩ := F
  obtain ⟨hx, hb, hml, hown, hts, hlk, rfl, hK, hA⟩ := hC
  subst hp
  intro H locs L hL hc0 hP hD hS
  subst hN; subst hl
  refine va_newa (atype := .char) (ty := .char) (a0 := (n, .inl (fun _ => 0))) hx hb (hts _ aw_char) rfl hK.1 hP hD hS hA (fun cA => rfl) (nI_pos (by omega)) (nI_clamp (by omega)) (Nat.le_trans (Nat.mul_le_mul_left n (by decide)) hn) hroom.1 hroom.2 d (fun q cA H1 hK1 hP1 hD1 hS1 => ?_)
  have hcA : cA = Γ.2 1 := by
    have a1 := (hK1.2 5 (cA, .char) rfl).2
    have a2 := (hK.1.2 1 (Γ.2 1, .char) rfl).2
    exact Option.some.inj (a1.symm.trans a2)
  subst hcA
  have e1 : gws Γ (SL l ad) X ++ [(q, .inl (Γ.2 1, n, .inl (fun _ => 0)))] = gws Γ (SL (l ++ [.inr (1, n, [])]) (adu ad l.length q)) (gz X l.length) := by
    rw [gws_snoc hc0, gcell_i (by decide)]
    simp only [gz, if_true]
  rw [e1] at hP1 hD1
  have k2 := kk (adu ad l.length q) (adu_lt h5N) H1 locs L (g_conc (F := (p, l0, e, R, s, m, args, below, meth, c, Γ, A, Q)) (adu_lt h5N) (rlt_l hr) hL) (gcl_snoc hc0 rfl) hP1 hD1 hS1
  have es : (Value.ref l.length :: st).map (cv (SL (l ++ [.inr (1, n, [])]) (adu ad l.length q))) = .ref q :: st.map (cv (SL l ad)) := by
    rw [List.map_cons, List.map_congr_left (rlt_cv (l := l) (adu_lt h5N) (rlt_r hr))]
    refine congrArg (· :: _) (congrArg Value.ref ?_)
    show adu ad l.length q l.length = q
    unfold adu; rw [if_pos rfl]
  rw [es] at k2
  exact k2
theorem g_newa_boolean (hC : Cx F own cc nL rm) {l l' : List gE} {ad : Nat → Nat} {n N : Nat} (hn : n * 4 ≤ 536870912) (hN : l.length = N) (h5N : N < 5000) (hl : l ++ [.inr (2, n, [])] = l') (hr : rlt N (ls ++ st)) (hroom : K.1 + 1 ≤ rm.cells ∧ K.2 + n ≤ rm.slots) (d : decode cc pc = .ok (.newarray .boolean, 2)) (hp : pc + 2 = pc') (kk : ∀ ad', (∀ i, i < N ∨ 5000 ≤ i → ad' i = ad i) → G F (SL l' ad') (K.1 + 1, K.2 + n) (gz X N) pc' ls (.ref N :: st)) : G F (SL l ad) K X pc ls (.int (nI n) :: st) := by
  obtain ⟨p, l0, e, R, s, m, args, below, meth, c, Γ, A, Q⟩ := F
  obtain ⟨hx, hb, hml, hown, hts, hlk, rfl, hK, hA⟩ := hC
  subst hp
  intro H locs L hL hc0 hP hD hS
  subst hN; subst hl
  refine va_newa (atype := .boolean) (ty := .boolean) (a0 := (n, .inl (fun _ => 0))) hx hb (hts _ aw_boolean) rfl hK.1 hP hD hS hA (fun cA => rfl) (nI_pos (by omega)) (nI_clamp (by omega)) (Nat.le_trans (Nat.mul_le_mul_left n (by decide)) hn) hroom.1 hroom.2 d (fun q cA H1 hK1 hP1 hD1 hS1 => ?_)
  have hcA : cA = Γ.2 2 := by
    have a1 := (hK1.2 5 (cA, .boolean) rfl).2
    have a2 := (hK.1.2 2 (Γ.2 2, .boolean) rfl).2
    exact Option.some.inj (a1.symm.trans a2)
  subst hcA
  have e1 : gws Γ (SL l ad) X ++ [(q, .inl (Γ.2 2, n, .inl (fun _ => 0)))] = gws Γ (SL (l ++ [.inr (2, n, [])]) (adu ad l.length q)) (gz X l.length) := by
    rw [gws_snoc hc0, gcell_i (by decide)]
    simp only [gz, if_true]
  rw [e1] at hP1 hD1
  have k2 := kk (adu ad l.length q) (adu_lt h5N) H1 locs L (g_conc (F := (p, l0, e, R, s, m, args, below, meth, c, Γ, A, Q)) (adu_lt h5N) (rlt_l hr) hL) (gcl_snoc hc0 rfl) hP1 hD1 hS1
  have es : (Value.ref l.length :: st).map (cv (SL (l ++ [.inr (2, n, [])]) (adu ad l.length q))) = .ref q :: st.map (cv (SL l ad)) := by
    rw [List.map_cons, List.map_congr_left (rlt_cv (l := l) (adu_lt h5N) (rlt_r hr))]
    refine congrArg (· :: _) (congrArg Value.ref ?_)
    show adu ad l.length q l.length = q
    unfold adu; rw [if_pos rfl]
  rw [es] at k2
  exact k2
theorem g_newq3 (hC : Cx F own cc nL rm) {l l' : List gE} {ad : Nat → Nat} {n N idx : Nat} (hw : Cond.classLink own idx RX4 ∈ TB) (hn : n * 4 ≤ 536870912) (hN : l.length = N) (h5N : N < 5000) (hl : l ++ [.inr (3, n, [])] = l') (hr : rlt N (ls ++ st)) (hroom : K.1 + 1 ≤ rm.cells ∧ K.2 + n ≤ rm.slots) (d : decode cc pc = .ok (.anewarray idx, 3)) (hp : pc + 3 = pc') (kk : ∀ ad', (∀ i, i < N ∨ 5000 ≤ i → ad' i = ad i) → G F (SL l' ad') (K.1 + 1, K.2 + n) (gz X N) pc' ls (.ref N :: st)) : G F (SL l ad) K X pc ls (.int (nI n) :: st) := by
  obtain ⟨p, l0, e, R, s, m, args, below, meth, c, Γ, A, Q⟩ := F
  obtain ⟨hx, hb, hml, hown, hts, hlk, rfl, hK, hA⟩ := hC
  subst hp
  intro H locs L hL hc0 hP hD hS
  subst hN; subst hl
  refine va_newq (C := RX4) hx hb hown (hts _ hw) hK.2.1.2 hK.1 hP hD hS hA (nI_pos (by omega)) (nI_clamp (by omega)) hn hroom.1 hroom.2 d (fun q cA H1 hK1 hP1 hD1 hS1 => ?_)
  have hcA : cA = Γ.2 3 := by
    obtain ⟨_, _, -, -, -, a1⟩ := (hK1.2 5 (cA, .object RX4) rfl).2
    obtain ⟨_, _, -, -, -, a2⟩ := (hK.1.2 3 (Γ.2 3, .object RX4) rfl).2
    exact Option.some.inj (a1.symm.trans a2)
  subst hcA
  have e1 : gws Γ (SL l ad) X ++ [(q, .inl (Γ.2 3, n, .inr (.inr (.inr (.inr (fun _ => none))))))] = gws Γ (SL (l ++ [.inr (3, n, [])]) (adu ad l.length q)) (gz X l.length) := by
    rw [gws_snoc hc0, gcell_q (by decide)]
    rfl
  rw [e1] at hP1 hD1
  have k2 := kk (adu ad l.length q) (adu_lt h5N) H1 locs L (g_conc (F := (p, l0, e, R, s, m, args, below, meth, c, Γ, A, Q)) (adu_lt h5N) (rlt_l hr) hL) (gcl_snoc hc0 rfl) hP1 hD1 hS1
  have es : (Value.ref l.length :: st).map (cv (SL (l ++ [.inr (3, n, [])]) (adu ad l.length q))) = .ref q :: st.map (cv (SL l ad)) := by
    rw [List.map_cons, List.map_congr_left (rlt_cv (l := l) (adu_lt h5N) (rlt_r hr))]
    refine congrArg (· :: _) (congrArg Value.ref ?_)
    show adu ad l.length q l.length = q
    unfold adu; rw [if_pos rfl]
  rw [es] at k2
  exact k2
theorem g_astR3 (hC : Cx F own cc nL rm) {l l' : List gE} {ad : Nat → Nat} {id n j r : Nat} {la : List Nat} {fs : List (Option (Option Nat))} (h0 : l[id]? = some (.inr (3, n, la))) (hj : la.length = j) (hjn : j < n) (hn : n < 2147483648) (h1 : l[r]? = some (.inl (4, fs))) (hl : l.set id (.inr (3, n, la ++ [r])) = l') (d : decode cc pc = .ok (.aastore, 1)) (hp : pc + 1 = pc') (kk : G F (SL l' ad) K X pc' ls st) : G F (SL l ad) K X pc ls (.ref r :: .int (nI j) :: .ref id :: st) := by
  obtain ⟨p, l0, e, R, s, m, args, below, meth, c, Γ, A, Q⟩ := F
  obtain ⟨hx, hb, hml, hown, hts, hlk, rfl, hK, hA⟩ := hC
  subst hp
  intro H locs L hL hc0 hP hD hS
  subst hl; subst hj
  have ha : (gws Γ (SL l ad) X)[id]? = some (ad id, .inl (Γ.2 3, n, .inr (.inr (.inr (.inr (fun j => (la[j]?).map ad)))))) := by rw [gws_at (sl_at h0), gcell_q (by decide)]; rfl
  refine va_astq hx hb hK.1 hP hD hS id 3 r 4 (r := (RX4, TX4, 5)) ha rfl (gws_at (sl_at h1)) rfl (vp_inD hjn hn) d (fun H1 locs1 hP1 hD1 hS1 => ?_)
  have hid : id < l.length := (List.getElem?_eq_some_iff.mp h0).1
  have e1 : (gws Γ (SL l ad) X).set id (ad id, .inl (Γ.2 3, n, .inr (.inr (.inr (.inr (va_up (fun j => (la[j]?).map ad) (nI la.length).toNatClampNeg (some (ad r)))))))) = gws Γ (SL (l.set id (.inr (3, n, la ++ [r]))) ad) X := by
    rw [clampD hjn hn, ← gws_lset hid, gcell_q (by decide)]
    refine congrArg (fun z => (gws Γ (SL l ad) X).set id (ad id, .inl (Γ.2 3, n, .inr (.inr (.inr (.inr z)))))) ?_
    funext j
    unfold va_up
    by_cases hz : j = la.length
    · subst hz
      rw [if_pos rfl, List.getElem?_append_right (Nat.le_refl _), Nat.sub_self]; rfl
    · rw [if_neg hz]
      by_cases hy : j < la.length
      · rw [List.getElem?_append_left hy]; rfl
      · have z1 : la[j]? = none := List.getElem?_eq_none (by omega)
        have z2 : (la ++ [r])[j]? = none := List.getElem?_eq_none (by rw [List.length_append]; show la.length + 1 ≤ j; omega)
        show (la[j]?).map ad = ((la ++ [r])[j]?).map ad
        rw [z1, z2]
  rw [show (SL l ad).2.2 r = ad r from rfl, e1] at hP1 hD1
  exact kk H1 locs1 L hL (gcl_lset hc0 h0 ((List.getElem?_eq_some_iff.mp h1).1) (fun x hx => by
    rcases List.mem_append.mp (show x ∈ la ++ [r] from hx) with h | h
    · exact Or.inr h
    · exact Or.inl (by simpa using h))) hP1 hD1 hS1
theorem g_newq4 (hC : Cx F own cc nL rm) {l l' : List gE} {ad : Nat → Nat} {n N idx : Nat} (hw : Cond.classLink own idx RX3 ∈ TB) (hn : n * 4 ≤ 536870912) (hN : l.length = N) (h5N : N < 5000) (hl : l ++ [.inr (4, n, [])] = l') (hr : rlt N (ls ++ st)) (hroom : K.1 + 1 ≤ rm.cells ∧ K.2 + n ≤ rm.slots) (d : decode cc pc = .ok (.anewarray idx, 3)) (hp : pc + 3 = pc') (kk : ∀ ad', (∀ i, i < N ∨ 5000 ≤ i → ad' i = ad i) → G F (SL l' ad') (K.1 + 1, K.2 + n) (gz X N) pc' ls (.ref N :: st)) : G F (SL l ad) K X pc ls (.int (nI n) :: st) := by
  obtain ⟨p, l0, e, R, s, m, args, below, meth, c, Γ, A, Q⟩ := F
  obtain ⟨hx, hb, hml, hown, hts, hlk, rfl, hK, hA⟩ := hC
  subst hp
  intro H locs L hL hc0 hP hD hS
  subst hN; subst hl
  refine va_newq (C := RX3) hx hb hown (hts _ hw) hK.2.1.1 hK.1 hP hD hS hA (nI_pos (by omega)) (nI_clamp (by omega)) hn hroom.1 hroom.2 d (fun q cA H1 hK1 hP1 hD1 hS1 => ?_)
  have hcA : cA = Γ.2 4 := by
    obtain ⟨_, _, -, -, -, a1⟩ := (hK1.2 5 (cA, .object RX3) rfl).2
    obtain ⟨_, _, -, -, -, a2⟩ := (hK.1.2 4 (Γ.2 4, .object RX3) rfl).2
    exact Option.some.inj (a1.symm.trans a2)
  subst hcA
  have e1 : gws Γ (SL l ad) X ++ [(q, .inl (Γ.2 4, n, .inr (.inr (.inr (.inr (fun _ => none))))))] = gws Γ (SL (l ++ [.inr (4, n, [])]) (adu ad l.length q)) (gz X l.length) := by
    rw [gws_snoc hc0, gcell_q (by decide)]
    rfl
  rw [e1] at hP1 hD1
  have k2 := kk (adu ad l.length q) (adu_lt h5N) H1 locs L (g_conc (F := (p, l0, e, R, s, m, args, below, meth, c, Γ, A, Q)) (adu_lt h5N) (rlt_l hr) hL) (gcl_snoc hc0 rfl) hP1 hD1 hS1
  have es : (Value.ref l.length :: st).map (cv (SL (l ++ [.inr (4, n, [])]) (adu ad l.length q))) = .ref q :: st.map (cv (SL l ad)) := by
    rw [List.map_cons, List.map_congr_left (rlt_cv (l := l) (adu_lt h5N) (rlt_r hr))]
    refine congrArg (· :: _) (congrArg Value.ref ?_)
    show adu ad l.length q l.length = q
    unfold adu; rw [if_pos rfl]
  rw [es] at k2
  exact k2
theorem g_astR4 (hC : Cx F own cc nL rm) {l l' : List gE} {ad : Nat → Nat} {id n j r : Nat} {la : List Nat} {fs : List (Option (Option Nat))} (h0 : l[id]? = some (.inr (4, n, la))) (hj : la.length = j) (hjn : j < n) (hn : n < 2147483648) (h1 : l[r]? = some (.inl (3, fs))) (hl : l.set id (.inr (4, n, la ++ [r])) = l') (d : decode cc pc = .ok (.aastore, 1)) (hp : pc + 1 = pc') (kk : G F (SL l' ad) K X pc' ls st) : G F (SL l ad) K X pc ls (.ref r :: .int (nI j) :: .ref id :: st) := by
  obtain ⟨p, l0, e, R, s, m, args, below, meth, c, Γ, A, Q⟩ := F
  obtain ⟨hx, hb, hml, hown, hts, hlk, rfl, hK, hA⟩ := hC
  subst hp
  intro H locs L hL hc0 hP hD hS
  subst hl; subst hj
  have ha : (gws Γ (SL l ad) X)[id]? = some (ad id, .inl (Γ.2 4, n, .inr (.inr (.inr (.inr (fun j => (la[j]?).map ad)))))) := by rw [gws_at (sl_at h0), gcell_q (by decide)]; rfl
  refine va_astq hx hb hK.1 hP hD hS id 4 r 3 (r := (RX3, TX3, 5)) ha rfl (gws_at (sl_at h1)) rfl (vp_inD hjn hn) d (fun H1 locs1 hP1 hD1 hS1 => ?_)
  have hid : id < l.length := (List.getElem?_eq_some_iff.mp h0).1
  have e1 : (gws Γ (SL l ad) X).set id (ad id, .inl (Γ.2 4, n, .inr (.inr (.inr (.inr (va_up (fun j => (la[j]?).map ad) (nI la.length).toNatClampNeg (some (ad r)))))))) = gws Γ (SL (l.set id (.inr (4, n, la ++ [r]))) ad) X := by
    rw [clampD hjn hn, ← gws_lset hid, gcell_q (by decide)]
    refine congrArg (fun z => (gws Γ (SL l ad) X).set id (ad id, .inl (Γ.2 4, n, .inr (.inr (.inr (.inr z)))))) ?_
    funext j
    unfold va_up
    by_cases hz : j = la.length
    · subst hz
      rw [if_pos rfl, List.getElem?_append_right (Nat.le_refl _), Nat.sub_self]; rfl
    · rw [if_neg hz]
      by_cases hy : j < la.length
      · rw [List.getElem?_append_left hy]; rfl
      · have z1 : la[j]? = none := List.getElem?_eq_none (by omega)
        have z2 : (la ++ [r])[j]? = none := List.getElem?_eq_none (by rw [List.length_append]; show la.length + 1 ≤ j; omega)
        show (la[j]?).map ad = ((la ++ [r])[j]?).map ad
        rw [z1, z2]
  rw [show (SL l ad).2.2 r = ad r from rfl, e1] at hP1 hD1
  exact kk H1 locs1 L hL (gcl_lset hc0 h0 ((List.getElem?_eq_some_iff.mp h1).1) (fun x hx => by
    rcases List.mem_append.mp (show x ∈ la ++ [r] from hx) with h | h
    · exact Or.inr h
    · exact Or.inl (by simpa using h))) hP1 hD1 hS1
theorem g_putR (hC : Cx F own cc nL rm) {l l' : List gE} {ad : Nat → Nat} {id ci k idx r : Nat} {fs : List (Option (Option Nat))} (hi : F.2.2.2.2.2.2.2.2.1.name = "<init>") (hf : FLDF own idx ci k) (h0 : l[id]? = some (.inl (ci, fs))) (hk : k < fs.length) (hr : r < l.length) (hl : l.set id (.inl (ci, fs.set k (some (some r)))) = l') (d : decode cc pc = .ok (.putfield idx, 3)) (hp : pc + 3 = pc') (kk : G F (SL l' ad) K X pc' ls st) : G F (SL l ad) K X pc ls (.ref r :: .ref id :: st) := by
  obtain ⟨p, l0, e, R, s, m, args, below, meth, c, Γ, A, Q⟩ := F
  obtain ⟨hx, hb, hml, hown, hts, hlk, rfl, hK, hA⟩ := hC
  subst hp
  intro H locs L hL hc0 hP hD hS
  subst hl
  obtain ⟨C, T, N, ty0, h1, h2, h3, h4, h5, h6, h7, h8, h9⟩ := hf
  have hid : id < l.length := (List.getElem?_eq_some_iff.mp h0).1
  refine va_putF (T := T) hx hb hts h4 ty0 h5 h6 hown hK.1 hP hD hS id (gws_at (sl_at h0)) h1 k h2 (hts _ h3) (fun _ h => h) h7 hi h8 (h5 k h2) (h9 _).1 (h9 _).2 (by simpa using hk) d (fun H1 locs1 hP1 hD1 hS1 => ?_)
  have e1 : (gws Γ (SL l ad) X).set id (ad id, .inr (ci, ((List.range fs.length).map (fun k => gfv (SL l ad) X id k ((fs[k]?).getD none))).set k (.ref (ad r)))) = gws Γ (SL (l.set id (.inl (ci, fs.set k (some (some r))))) ad) X := by
    rw [← gws_lset hid]
    rw [gfs_set (S := SL l ad) (X := X) (X' := X) (id := id) (fs := fs) (fs' := fs.set k (some (some r))) hk (by simp) (by rw [List.getElem?_set_self hk]; rfl) (fun j hj => by rw [List.getElem?_set_ne (Ne.symm hj)])]
    rfl
  rw [show (SL l ad).2.2 id = ad id from rfl, show cv (SL l ad) (Value.ref r) = .ref (ad r) from rfl, e1] at hP1 hD1
  exact kk H1 locs1 L hL (gcl_lset hc0 h0 hr (fun x hx => by
    obtain ⟨o, ho, he⟩ := List.mem_filterMap.mp (show x ∈ (fs.set k (some (some r))).filterMap _ from hx)
    rcases List.mem_or_eq_of_mem_set ho with h | rfl
    · exact Or.inr (List.mem_filterMap.mpr ⟨o, h, he⟩)
    · exact Or.inl (Option.some.inj he).symm)) hP1 hD1 hS1
theorem g_objInit (hC : Cx F own cc nL rm) {S : gS} {idx id : Nat} (hw : Cond.methodLink own idx Lib.objectInit ∈ TB) (hroom : 1 ≤ rm.frames ∧ 20 ≤ rm.locals) (hW : (st.map fun v => v.category).sum ≤ 8) (d : decode cc pc = .ok (.invokespecial idx, 3)) (hp : pc + 3 = pc') (kk : G F S K X pc' ls st) : G F S K X pc ls (.ref id :: st) := by
  obtain ⟨p, l0, e, R, s, m, args, below, meth, c, Γ, A, Q⟩ := F
  obtain ⟨hx, hb, hml, hown, hts, hlk, rfl, hK, hA⟩ := hC
  subst hp
  intro H locs L hL hc0 hP hD hS
  exact W.objInit (cc := cc) hx hb hown (hts _ hw) (hts _ ow_i) (hts _ ow_c) rfl (by show L.size = _; exact hL.1) rfl d hroom.1 (by have := cv_sum S hW; show 2 * 0 + _ + 12 ≤ _; omega) (kk H locs L hL hc0 hP hD hS)
def MLC (own : String) (idx : Nat) (y : MethodName) (cc : ByteArray) (nL : Nat) : Prop := GoodIn TB (.code y cc nL none :: TB) ∧ Cond.methodLink own idx y ∈ TB ∧ Cond.initialized y.cls ∈ TB ∧ Cond.instanceMethod y ∈ TB ∧ y.name = "<init>" ∧ mhOk y 0
def MLCN (own : String) (idx : Nat) (y : MethodName) (cc : ByteArray) (nL : Nat) : Prop := ∃ host : String, GoodIn TB (.code y cc nL none :: TB) ∧ (own, idx, y, host) ∈ NW ∧ Cond.initialized y.cls ∈ TB ∧ Cond.instanceMethod y ∈ TB ∧ y.name = "<init>" ∧ mhOk y 0
/-- the post of a constructor: the world has grown to l' -/
def pC (n : Nat) (ad : Nat → Nat) (l' : List gE) (post : gX → Prop) : gS → Option Value → gX → Prop := fun S' r X' => (∃ ad', S' = SL l' ad' ∧ ∀ i, i < n ∨ 5000 ≤ i → ad' i = ad i) ∧ r = none ∧ post X'
theorem cwC {R : Room} {s : State} {args : Array Value} {own : String} {index maxL mc ms : Nat} {y : MethodName} {bytes : ByteArray} {ret : Option FieldType} {Ts ws ws' : List Cond} {rm : Room} (n : Nat) (ht : ∀ w ∈ Ts, w.before args s = true) (hG : GoodIn Ts ws) (hw : ws = Cond.code y bytes maxL ret :: ws') (hrc : rm.cells = mc) (hrs : rm.slots = ms) (hl : (Cond.methodLink own index y).before args s = true) (hini : (Cond.initialized y.cls).before args s = true) (hd : mhOk y n) (hR : rm.frames + 1 ≤ R.frames ∧ 8 + (maxL + 11) + rm.locals ≤ R.locals) :
    CallB R s args own index y bytes maxL ret ws rm mc ms n := by
  have hc : Cond.code y bytes maxL ret ∈ ws := by rw [hw]; exact List.mem_cons_self
  refine ⟨hrc, hrs, hR.1, hR.2, pay_in ht hG, hc, ht _ (hG _ hc).1, hini, ⟨hd.1, hd.2.1⟩, fun sig h => ?_, hl⟩
  have := hd.2.2
  rw [h] at this
  exact (Option.some.inj this).symm
theorem g_callC (hC : Cx F own cc nL rm) {y : MethodName} {cc2 : ByteArray} {nL2 : Nat} {fr lo : Nat} {rest : List Value} {id mc ms idx N : Nat} {l l' : List gE} {ad : Nat → Nat} {post : gX → Prop} (hM : Ct F.2.1 (SL l ad) y cc2 nL2 none fr lo [.ref id] X mc ms (pC N ad l' post)) (hk : MLC own idx y cc2 nL2) (hroom : fr + 1 ≤ rm.frames ∧ 8 + (nL2 + 11) + lo ≤ rm.locals) (hW : (rest.map fun v => v.category).sum ≤ 8) (d : decode cc pc = .ok (.invokespecial idx, 3)) (hp : pc + 3 = pc') (hf : K.1 + mc ≤ rm.cells ∧ K.2 + ms ≤ rm.slots) (hr : rlt N (ls ++ rest))
    (kk : ∀ ad' X', (∀ i, i < N ∨ 5000 ≤ i → ad' i = ad i) → post X' → G F (SL l' ad') (K.1 + mc, K.2 + ms) X' pc' ls rest) : G F (SL l ad) K X pc ls (.ref id :: rest) := by
  obtain ⟨p, l0, e, R, s, m, args, below, meth, c, Γ, A, Q⟩ := F
  obtain ⟨hx, hb, hml, hown, hts, hlk, rfl, hK, hA⟩ := hC
  subst hp
  intro H locs L hL hc0 hP hD hS
  have hrn := va_runI (e := e) (below := below) (meth := meth) (l := l0) (R := R) (locs := locs) (cells := K.1) (slots := K.2) (b := ad id) (As := []) (rest := rest.map (cv (SL l ad))) (g := F0 m pc L ((.ref id :: rest).map (cv (SL l ad)))) ⟨hx, hb, hml, hown, hts⟩ (hM Γ A) ⟨cwC 0 hts hk.1 rfl rfl rfl (hts _ hk.2.1) (hts _ hk.2.2.1) hk.2.2.2.2.2 hroom, hk.2.2.2.2.1, hts _ hk.2.2.2.1⟩ ⟨gPc_blind, fun U hU hWU => ⟨rfl, by rw [hU]; exact hP, gK.moved hWU hK, hc0, hD, fun q h => hA q (Nat.le_trans hS.1 (by rw [← hU]; exact h))⟩⟩ rfl rfl (by rw [← hml]; exact hL.1) rfl (lv_room (cv_sum (SL l ad) hW)) d hf
  intro T hT X1
  obtain ⟨v, st0, t, T', L2, h0, X2, hL2, e1, e2, ⟨⟨S', r, X', hret, hpost, hc2, hP2, hD2⟩, hz, hkeep⟩, hgo⟩ := hrn T hT X1
  obtain ⟨⟨ad', rfl, hag⟩, rfl, hpo⟩ := hpost
  have hv : v = none := Outcome.returned.inj hret
  subst hv
  rw [h0] at hz hkeep
  have hcvs := rlt_cv (l := l) (l' := l') hag hr
  obtain ⟨t2, a1, b1⟩ := kk ad' X' hag hpo T'.heap (locs ++ L2) L (gLoc_cv hL (fun v hv => hcvs v (List.mem_append_left _ hv))) hc2 (by rw [e1]; exact hP2) hD2
    ⟨Nat.le_trans hS.1 (by rw [e1]; exact hz), fun q h1 h2 => by rw [e1, hkeep q (Nat.lt_of_lt_of_le h1 hS.1) h2]; exact hS.2.1 q h1 h2, fun q hq => by
      rcases List.mem_append.mp hq with h | h
      · exact hS.2.2 q h
      · exact hL2 q h⟩ T' rfl X2
  refine ⟨t2, hgo t2 ?_, b1⟩
  have hrest : rest.map (cv (SL l' ad')) = rest.map (cv (SL l ad)) := List.map_congr_left (fun v hv => hcvs v (List.mem_append_right _ hv))
  rw [hrest] at a1
  exact a1
theorem g_callCN (hC : Cx F own cc nL rm) {y : MethodName} {cc2 : ByteArray} {nL2 : Nat} {fr lo : Nat} {rest : List Value} {id mc ms idx N : Nat} {l l' : List gE} {ad : Nat → Nat} {post : gX → Prop} (hM : Ct F.2.1 (SL l ad) y cc2 nL2 none fr lo [.ref id] X mc ms (pC N ad l' post)) (hk : MLCN own idx y cc2 nL2) (hroom : fr + 1 ≤ rm.frames ∧ 8 + (nL2 + 11) + lo ≤ rm.locals) (hW : (rest.map fun v => v.category).sum ≤ 8) (d : decode cc pc = .ok (.invokespecial idx, 3)) (hp : pc + 3 = pc') (hf : K.1 + mc ≤ rm.cells ∧ K.2 + ms ≤ rm.slots) (hr : rlt N (ls ++ rest))
    (kk : ∀ ad' X', (∀ i, i < N ∨ 5000 ≤ i → ad' i = ad i) → post X' → G F (SL l' ad') (K.1 + mc, K.2 + ms) X' pc' ls rest) : G F (SL l ad) K X pc ls (.ref id :: rest) := by
  obtain ⟨p, l0, e, R, s, m, args, below, meth, c, Γ, A, Q⟩ := F
  obtain ⟨hx, hb, hml, hown, hts, hlk, rfl, hK, hA⟩ := hC
  subst hp
  intro H locs L hL hc0 hP hD hS
  obtain ⟨host, hk1, hk2, hk3, hk4, hk5, hk6⟩ := hk
  have hrn := va_runIN (e := e) (below := below) (meth := meth) (l := l0) (R := R) (locs := locs) (cells := K.1) (slots := K.2) (b := ad id) (As := []) (rest := rest.map (cv (SL l ad))) (g := F0 m pc L ((.ref id :: rest).map (cv (SL l ad)))) ⟨hx, hb, hml, hown, hts⟩ (hM Γ A) ⟨va_cnB 0 hts hk1 rfl rfl rfl (hK.2.2 _ hk2) (hts _ hk3) hk6 hroom, hk5, hts _ hk4⟩ ⟨gPc_blind, fun U hU hWU => ⟨rfl, by rw [hU]; exact hP, gK.moved hWU hK, hc0, hD, fun q h => hA q (Nat.le_trans hS.1 (by rw [← hU]; exact h))⟩⟩ rfl rfl (by rw [← hml]; exact hL.1) rfl (lv_room (cv_sum (SL l ad) hW)) d hf
  intro T hT X1
  obtain ⟨v, st0, t, T', L2, h0, X2, hL2, e1, e2, ⟨⟨S', r, X', hret, hpost, hc2, hP2, hD2⟩, hz, hkeep⟩, hgo⟩ := hrn T hT X1
  obtain ⟨⟨ad', rfl, hag⟩, rfl, hpo⟩ := hpost
  have hv : v = none := Outcome.returned.inj hret
  subst hv
  rw [h0] at hz hkeep
  have hcvs := rlt_cv (l := l) (l' := l') hag hr
  obtain ⟨t2, a1, b1⟩ := kk ad' X' hag hpo T'.heap (locs ++ L2) L (gLoc_cv hL (fun v hv => hcvs v (List.mem_append_left _ hv))) hc2 (by rw [e1]; exact hP2) hD2
    ⟨Nat.le_trans hS.1 (by rw [e1]; exact hz), fun q h1 h2 => by rw [e1, hkeep q (Nat.lt_of_lt_of_le h1 hS.1) h2]; exact hS.2.1 q h1 h2, fun q hq => by
      rcases List.mem_append.mp hq with h | h
      · exact hS.2.2 q h
      · exact hL2 q h⟩ T' rfl X2
  refine ⟨t2, hgo t2 ?_, b1⟩
  have hrest : rest.map (cv (SL l' ad')) = rest.map (cv (SL l ad)) := List.map_congr_left (fun v hv => hcvs v (List.mem_append_right _ hv))
  rw [hrest] at a1
  exact a1
theorem g_vretC (hC : Cx F own cc nL rm) {n : Nat} {l l' : List gE} {ad ad' : Nat → Nat} {mc ms : Nat} {post : gX → Prop} (hRt : Rt F none mc ms (pC n ad l' post)) (d : decode cc pc = .ok (.return_, 1)) (hl : l = l') (hag : ∀ i, i < n ∨ 5000 ≤ i → ad' i = ad i) (hK : (mc, ms) = K) (h : post X) : G F (SL l ad') K X pc ls [] := by
  subst hl; subst hK
  exact g_vret hC hRt rfl d ⟨⟨ad', rfl, hag⟩, rfl, h⟩
end
theorem mc_X6_9 : MLC RX6 9 yX4_init cX4_init 2 := ⟨(goodTB (fun w hw => by rcases List.mem_cons.mp hw with rfl | h; exact (tb_at 67 (by decide +kernel) (by decide +kernel)); exact h)), (tb_at 65 (by decide +kernel) (by decide +kernel)), (tb_at 46 (by decide +kernel) (by decide +kernel)), (tb_at 66 (by decide +kernel) (by decide +kernel)), rfl, ⟨by decide +kernel, by decide +kernel, by decide +kernel⟩⟩
theorem mc_X6_21 : MLCN RX6 21 yX5_init cX5_init 1 := ⟨RX6, (goodTB (fun w hw => by rcases List.mem_cons.mp hw with rfl | h; exact (tb_at 125 (by decide +kernel) (by decide +kernel)); exact h)), by decide +kernel, (tb_at 48 (by decide +kernel) (by decide +kernel)), (tb_at 124 (by decide +kernel) (by decide +kernel)), rfl, ⟨by decide +kernel, by decide +kernel, by decide +kernel⟩⟩
theorem mc_X6_28 : MLC RX6 28 yX0_init cX0_init 2 := ⟨(goodTB (fun w hw => by rcases List.mem_cons.mp hw with rfl | h; exact (tb_at 161 (by decide +kernel) (by decide +kernel)); exact h)), (tb_at 159 (by decide +kernel) (by decide +kernel)), (tb_at 49 (by decide +kernel) (by decide +kernel)), (tb_at 160 (by decide +kernel) (by decide +kernel)), rfl, ⟨by decide +kernel, by decide +kernel, by decide +kernel⟩⟩
theorem mc_X6_43 : MLCN RX6 43 yX2_init cX2_init 1 := ⟨RX6, (goodTB (fun w hw => by rcases List.mem_cons.mp hw with rfl | h; exact (tb_at 178 (by decide +kernel) (by decide +kernel)); exact h)), by decide +kernel, (tb_at 50 (by decide +kernel) (by decide +kernel)), (tb_at 177 (by decide +kernel) (by decide +kernel)), rfl, ⟨by decide +kernel, by decide +kernel, by decide +kernel⟩⟩
theorem mc_X6_50 : MLCN RX6 50 yX1_init cX1_init 1 := ⟨RX6, (goodTB (fun w hw => by rcases List.mem_cons.mp hw with rfl | h; exact (tb_at 195 (by decide +kernel) (by decide +kernel)); exact h)), by decide +kernel, (tb_at 51 (by decide +kernel) (by decide +kernel)), (tb_at 194 (by decide +kernel) (by decide +kernel)), rfl, ⟨by decide +kernel, by decide +kernel, by decide +kernel⟩⟩
theorem mc_X0_21 : MLC RX0 21 yX4_init cX4_init 2 := ⟨(goodTB (fun w hw => by rcases List.mem_cons.mp hw with rfl | h; exact (tb_at 67 (by decide +kernel) (by decide +kernel)); exact h)), (tb_at 165 (by decide +kernel) (by decide +kernel)), (tb_at 46 (by decide +kernel) (by decide +kernel)), (tb_at 66 (by decide +kernel) (by decide +kernel)), rfl, ⟨by decide +kernel, by decide +kernel, by decide +kernel⟩⟩
theorem mc_X4_31 : MLCN RX4 31 yX3_init cX3_init 1 := ⟨RX6, (goodTB (fun w hw => by rcases List.mem_cons.mp hw with rfl | h; exact (tb_at 74 (by decide +kernel) (by decide +kernel)); exact h)), by decide +kernel, (tb_at 47 (by decide +kernel) (by decide +kernel)), (tb_at 73 (by decide +kernel) (by decide +kernel)), rfl, ⟨by decide +kernel, by decide +kernel, by decide +kernel⟩⟩
theorem mc_L_9 : MLC RL 9 yX6_init cX6_init 2 := ⟨(goodTB (fun w hw => by rcases List.mem_cons.mp hw with rfl | h; exact (tb_at 59 (by decide +kernel) (by decide +kernel)); exact h)), (tb_at 57 (by decide +kernel) (by decide +kernel)), (tb_at 45 (by decide +kernel) (by decide +kernel)), (tb_at 58 (by decide +kernel) (by decide +kernel)), rfl, ⟨by decide +kernel, by decide +kernel, by decide +kernel⟩⟩
theorem mc_L_12 : MLC RL 12 yX7_init cX7_init 2 := ⟨(goodTB (fun w hw => by rcases List.mem_cons.mp hw with rfl | h; exact (tb_at 633 (by decide +kernel) (by decide +kernel)); exact h)), (tb_at 631 (by decide +kernel) (by decide +kernel)), (tb_at 52 (by decide +kernel) (by decide +kernel)), (tb_at 632 (by decide +kernel) (by decide +kernel)), rfl, ⟨by decide +kernel, by decide +kernel, by decide +kernel⟩⟩
theorem cq_X0_15 : Cond.classLink RX0 15 RX4 ∈ TB := (tb_at 163 (by decide +kernel) (by decide +kernel))
theorem cq_X4_9 : Cond.classLink RX4 9 RX3 ∈ TB := (tb_at 69 (by decide +kernel) (by decide +kernel))
theorem cq_X6_7 : Cond.classLink RX6 7 RX4 ∈ TB := (tb_at 63 (by decide +kernel) (by decide +kernel))
