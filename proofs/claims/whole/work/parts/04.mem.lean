/-! rows of G for cells -/
theorem vp_inD {j n : Nat} (h : j < n) (hn : n < 2147483648) : vp_in (nI j) n := nI_in h hn
theorem clampD {j n : Nat} (h : j < n) (hn : n < 2147483648) : (nI j).toNatClampNeg = j := nI_clamp (Nat.lt_trans h hn)
theorem gfs_at {S : gS} {X : gX} {id k : Nat} {fs : List (Option (Option Nat))} {o : Option (Option Nat)} (h : fs[k]? = some o) : ((List.range fs.length).map (fun k => gfv S X id k ((fs[k]?).getD none)))[k]? = some (gfv S X id k o) := by
  have hl : k < fs.length := (List.getElem?_eq_some_iff.mp h).1
  rw [List.getElem?_map, List.getElem?_range hl]
  show some (gfv S X id k ((fs[k]?).getD none)) = _
  rw [h]
  rfl
theorem gfs_set {S : gS} {X X' : gX} {id k : Nat} {fs fs' : List (Option (Option Nat))} {v : Value} (hk : k < fs.length) (hl : fs'.length = fs.length) (hv : gfv S X' id k ((fs'[k]?).getD none) = v) (ho : ∀ j, j ≠ k → gfv S X' id j ((fs'[j]?).getD none) = gfv S X id j ((fs[j]?).getD none)) : ((List.range fs.length).map (fun k => gfv S X id k ((fs[k]?).getD none))).set k v = (List.range fs'.length).map (fun k => gfv S X' id k ((fs'[k]?).getD none)) := by
  apply List.ext_getElem?
  intro i
  by_cases hi : i = k
  · subst hi
    rw [List.getElem?_set_self (by simpa using hk), List.getElem?_map, List.getElem?_range (by omega)]
    exact congrArg some hv.symm
  · rw [List.getElem?_set_ne (Ne.symm hi), List.getElem?_map, List.getElem?_map, hl]
    by_cases hil : i < fs.length
    · rw [List.getElem?_range hil]
      exact congrArg some (ho i hi).symm
    · rw [List.getElem?_eq_none (by simpa using hil)]
      rfl
def FLD (own : String) (idx ci k : Nat) (fin : Bool) (ty : FieldType) : Prop := ∃ (C : String) (T : u_T) (N : Nat) (ty0 : Nat → FieldType), gCl[ci]? = some (C, T, N) ∧ k < N ∧ Cond.fieldLink own idx (T k).1 (T k).2.1 (T k).2.2.1 ∈ TB ∧ (∀ w ∈ u_ws C T N, w ∈ TB) ∧ (∀ k, k < N → parseFieldDescriptor (T k).2.2.1 = some (ty0 k)) ∧ (∀ a, a < N → ∀ b, b < N → a ≠ b → (T a).2.1 ≠ (T b).2.1) ∧ (T k).2.2.2 = fin ∧ ty0 k = ty
section
variable {F : gF} {own : String} {cc : ByteArray} {nL : Nat} {rm : Room} {S : gS} {K : Nat × Nat} {X : gX} {pc pc' : Nat} {ls st : List Value}
theorem g_getI (hC : Cx F own cc nL rm) {id ci k idx : Nat} {fs : List (Option (Option Nat))} {fin : Bool} {ty : FieldType} {v : Int32} (hf : FLD own idx ci k fin ty) (hsh : gat S id (.inl (ci, fs))) (hk : fs[k]? = some none) (hv : X id k = v) (d : decode cc pc = .ok (.getfield idx, 3)) (hp : pc + 3 = pc') (kk : G F S K X pc' ls (.int v :: st)) : G F S K X pc ls (.ref id :: st) := by
  obtain ⟨p, l, e, R, s, m, args, below, meth, c, Γ, A, Q⟩ := F
  obtain ⟨hx, hb, hml, hown, hts, hlk, rfl, hK, hA⟩ := hC
  subst hp
  obtain ⟨C, T, N, ty0, h1, h2, h3, h4, h5, h6, h7, h8⟩ := hf
  intro H locs L hL hc0 hP hD hS
  refine va_get (T := T) hx hb hts h4 hown hK.1 hP id (gws_at hsh) h1 k h2 (hts _ h3) (fun _ h => h) (v := .int v) ?_ d (kk H locs L hL hc0 hP hD hS)
  rw [gfs_at hk]
  exact congrArg (fun z => some (Value.int z)) hv
theorem g_getR (hC : Cx F own cc nL rm) {id ci k idx r : Nat} {fs : List (Option (Option Nat))} {fin : Bool} {ty : FieldType} (hf : FLD own idx ci k fin ty) (hsh : gat S id (.inl (ci, fs))) (hk : fs[k]? = some (some (some r))) (d : decode cc pc = .ok (.getfield idx, 3)) (hp : pc + 3 = pc') (kk : G F S K X pc' ls (.ref r :: st)) : G F S K X pc ls (.ref id :: st) := by
  obtain ⟨p, l, e, R, s, m, args, below, meth, c, Γ, A, Q⟩ := F
  obtain ⟨hx, hb, hml, hown, hts, hlk, rfl, hK, hA⟩ := hC
  subst hp
  obtain ⟨C, T, N, ty0, h1, h2, h3, h4, h5, h6, h7, h8⟩ := hf
  intro H locs L hL hc0 hP hD hS
  refine va_get (T := T) hx hb hts h4 hown hK.1 hP id (gws_at hsh) h1 k h2 (hts _ h3) (fun _ h => h) (v := .ref (S.2.2 r)) ?_ d (kk H locs L hL hc0 hP hD hS)
  rw [gfs_at hk]
  rfl
theorem g_putI (hC : Cx F own cc nL rm) {id ci k idx : Nat} {fs : List (Option (Option Nat))} {ty : FieldType} {v : Int32} (hf : FLD own idx ci k false ty) (hsh : gat S id (.inl (ci, fs))) (hk : fs[k]? = some none) (hn : narrow ty (.int v) = .int v) (hfit : fits ty (.int v) = true) (d : decode cc pc = .ok (.putfield idx, 3)) (hp : pc + 3 = pc') (kk : G F S K (gu X id k v) pc' ls st) : G F S K X pc ls (.int v :: .ref id :: st) := by
  obtain ⟨p, l, e, R, s, m, args, below, meth, c, Γ, A, Q⟩ := F
  obtain ⟨hx, hb, hml, hown, hts, hlk, rfl, hK, hA⟩ := hC
  subst hp
  obtain ⟨C, T, N, ty0, h1, h2, h3, h4, h5, h6, h7, rfl⟩ := hf
  intro H locs L hL hc0 hP hD hS
  have hl : k < fs.length := (List.getElem?_eq_some_iff.mp hk).1
  refine va_put (T := T) hx hb hts h4 ty0 h5 h6 hown hK.1 hP hD hS id (gws_at hsh) h1 k h2 (hts _ h3) (fun _ h => h) h7 (v := Value.int v) (h5 k h2) hn hfit (by simpa using hl) d (fun H1 locs1 hP1 hD1 hS1 => ?_)
  have e : (gws Γ S X).set id (S.2.2 id, .inr (ci, ((List.range fs.length).map (fun k => gfv S X id k ((fs[k]?).getD none))).set k (.int v))) = gws Γ S (gu X id k v) := by
    rw [gfs_set (X' := gu X id k v) hl rfl (by rw [hk]; exact congrArg Value.int gu_at) (fun j hj => by
      rcases (fs[j]?).getD none with _ | _ | r
      · exact congrArg Value.int (gu_other (fun h => hj h.2))
      · rfl
      · rfl)]
    exact gws_set (X' := gu X id k v) hsh gu_ne
  rw [e] at hP1 hD1
  exact kk H1 locs1 L hL hc0 hP1 hD1 hS1

theorem g_iald (hC : Cx F own cc nL rm) {id n j : Nat} {la : List Nat} {v : Int32} (hsh : gat S id (.inr (0, n, la))) (hn : n < 2147483648) (hin : j < n) (hv : X id j = v) (d : decode cc pc = .ok (.iaload, 1)) (hp : pc + 1 = pc') (k : G F S K X pc' ls (.int v :: st)) : G F S K X pc ls (.int (nI j) :: .ref id :: st) := by
  obtain ⟨p, l, e, R, s, m, args, below, meth, c, Γ, A, Q⟩ := F
  obtain ⟨hx, hb, hml, hown, hts, hlk, rfl, hK, hA⟩ := hC
  subst hp
  intro H locs L hL hc0 hP hD hS
  have ha : (gws Γ S X)[id]? = some (S.2.2 id, .inl (Γ.2 0, n, .inl (X id))) := by rw [gws_at hsh, gcell_i (by decide)]
  refine va_iald hx hb hK.1 hP id 0 ha rfl (vp_inD hin hn) d ?_
  rw [clampD hin hn, hv]
  exact k H locs L hL hc0 hP hD hS
theorem g_cald (hC : Cx F own cc nL rm) {id n j : Nat} {la : List Nat} {v : Int32} (hsh : gat S id (.inr (1, n, la))) (hn : n < 2147483648) (hin : j < n) (hv : X id j = v) (d : decode cc pc = .ok (.caload, 1)) (hp : pc + 1 = pc') (k : G F S K X pc' ls (.int v :: st)) : G F S K X pc ls (.int (nI j) :: .ref id :: st) := by
  obtain ⟨p, l, e, R, s, m, args, below, meth, c, Γ, A, Q⟩ := F
  obtain ⟨hx, hb, hml, hown, hts, hlk, rfl, hK, hA⟩ := hC
  subst hp
  intro H locs L hL hc0 hP hD hS
  have ha : (gws Γ S X)[id]? = some (S.2.2 id, .inl (Γ.2 1, n, .inl (X id))) := by rw [gws_at hsh, gcell_i (by decide)]
  refine va_cald hx hb hK.1 hP id 1 ha rfl (vp_inD hin hn) d ?_
  rw [clampD hin hn, hv]
  exact k H locs L hL hc0 hP hD hS
theorem g_zald (hC : Cx F own cc nL rm) {id n j : Nat} {la : List Nat} {v : Int32} (hsh : gat S id (.inr (2, n, la))) (hn : n < 2147483648) (hin : j < n) (hv : X id j = v) (d : decode cc pc = .ok (.baload, 1)) (hp : pc + 1 = pc') (k : G F S K X pc' ls (.int v :: st)) : G F S K X pc ls (.int (nI j) :: .ref id :: st) := by
  obtain ⟨p, l, e, R, s, m, args, below, meth, c, Γ, A, Q⟩ := F
  obtain ⟨hx, hb, hml, hown, hts, hlk, rfl, hK, hA⟩ := hC
  subst hp
  intro H locs L hL hc0 hP hD hS
  have ha : (gws Γ S X)[id]? = some (S.2.2 id, .inl (Γ.2 2, n, .inl (X id))) := by rw [gws_at hsh, gcell_i (by decide)]
  refine va_zald hx hb hK.1 hP id 2 ha rfl (vp_inD hin hn) d ?_
  rw [clampD hin hn, hv]
  exact k H locs L hL hc0 hP hD hS
theorem g_iast (hC : Cx F own cc nL rm) {id n j : Nat} {la : List Nat} {x : Int32} (hsh : gat S id (.inr (0, n, la))) (hn : n < 2147483648) (hin : j < n) (d : decode cc pc = .ok (.iastore, 1)) (hp : pc + 1 = pc') (k : G F S K (gu X id j x) pc' ls st) : G F S K X pc ls (.int x :: .int (nI j) :: .ref id :: st) := by
  obtain ⟨p, l, e, R, s, m, args, below, meth, c, Γ, A, Q⟩ := F
  obtain ⟨hx, hb, hml, hown, hts, hlk, rfl, hK, hA⟩ := hC
  subst hp
  intro H locs L hL hc0 hP hD hS
  have ha : (gws Γ S X)[id]? = some (S.2.2 id, .inl (Γ.2 0, n, .inl (X id))) := by rw [gws_at hsh, gcell_i (by decide)]
  refine va_iast hx hb hK.1 hP hD hS id 0 ha rfl (vp_inD hin hn) d (fun H1 locs1 hP1 hD1 hS1 => ?_)
  rw [clampD hin hn] at hP1 hD1
  have e : (gws Γ S X).set id (S.2.2 id, .inl (Γ.2 0, n, .inl (upd (X id) j x))) = gws Γ S (gu X id j x) := by
    have := gws_set (Γ := Γ) (X := X) (X' := gu X id j x) hsh gu_ne
    rw [gcell_i (by decide), gu_self] at this
    exact this
  rw [e] at hP1 hD1
  exact k H1 locs1 L hL hc0 hP1 hD1 hS1
theorem g_cast (hC : Cx F own cc nL rm) {id n j : Nat} {la : List Nat} {x : Int32} (hsh : gat S id (.inr (1, n, la))) (hn : n < 2147483648) (hin : j < n) (hx2 : vp_nar .char x = x) (d : decode cc pc = .ok (.castore, 1)) (hp : pc + 1 = pc') (k : G F S K (gu X id j x) pc' ls st) : G F S K X pc ls (.int x :: .int (nI j) :: .ref id :: st) := by
  obtain ⟨p, l, e, R, s, m, args, below, meth, c, Γ, A, Q⟩ := F
  obtain ⟨hx, hb, hml, hown, hts, hlk, rfl, hK, hA⟩ := hC
  subst hp
  intro H locs L hL hc0 hP hD hS
  have ha : (gws Γ S X)[id]? = some (S.2.2 id, .inl (Γ.2 1, n, .inl (X id))) := by rw [gws_at hsh, gcell_i (by decide)]
  refine va_cast hx hb hK.1 hP hD hS id 1 ha rfl (vp_inD hin hn) d (fun H1 locs1 hP1 hD1 hS1 => ?_)
  rw [clampD hin hn, hx2] at hP1 hD1
  have e : (gws Γ S X).set id (S.2.2 id, .inl (Γ.2 1, n, .inl (upd (X id) j x))) = gws Γ S (gu X id j x) := by
    have := gws_set (Γ := Γ) (X := X) (X' := gu X id j x) hsh gu_ne
    rw [gcell_i (by decide), gu_self] at this
    exact this
  rw [e] at hP1 hD1
  exact k H1 locs1 L hL hc0 hP1 hD1 hS1
theorem g_zast (hC : Cx F own cc nL rm) {id n j : Nat} {la : List Nat} {x : Int32} (hsh : gat S id (.inr (2, n, la))) (hn : n < 2147483648) (hin : j < n) (hx2 : vp_nar .boolean x = x) (d : decode cc pc = .ok (.bastore, 1)) (hp : pc + 1 = pc') (k : G F S K (gu X id j x) pc' ls st) : G F S K X pc ls (.int x :: .int (nI j) :: .ref id :: st) := by
  obtain ⟨p, l, e, R, s, m, args, below, meth, c, Γ, A, Q⟩ := F
  obtain ⟨hx, hb, hml, hown, hts, hlk, rfl, hK, hA⟩ := hC
  subst hp
  intro H locs L hL hc0 hP hD hS
  have ha : (gws Γ S X)[id]? = some (S.2.2 id, .inl (Γ.2 2, n, .inl (X id))) := by rw [gws_at hsh, gcell_i (by decide)]
  refine va_zast hx hb hK.1 hP hD hS id 2 ha rfl (vp_inD hin hn) d (fun H1 locs1 hP1 hD1 hS1 => ?_)
  rw [clampD hin hn, hx2] at hP1 hD1
  have e : (gws Γ S X).set id (S.2.2 id, .inl (Γ.2 2, n, .inl (upd (X id) j x))) = gws Γ S (gu X id j x) := by
    have := gws_set (Γ := Γ) (X := X) (X' := gu X id j x) hsh gu_ne
    rw [gcell_i (by decide), gu_self] at this
    exact this
  rw [e] at hP1 hD1
  exact k H1 locs1 L hL hc0 hP1 hD1 hS1
theorem g_aald3 (hC : Cx F own cc nL rm) {id n j r : Nat} {la : List Nat} (hsh : gat S id (.inr (3, n, la))) (hn : n < 2147483648) (hin : j < n) (hl : la[j]? = some r) (d : decode cc pc = .ok (.aaload, 1)) (hp : pc + 1 = pc') (k : G F S K X pc' ls (.ref r :: st)) : G F S K X pc ls (.int (nI j) :: .ref id :: st) := by
  obtain ⟨p, l, e, R, s, m, args, below, meth, c, Γ, A, Q⟩ := F
  obtain ⟨hx, hb, hml, hown, hts, hlk, rfl, hK, hA⟩ := hC
  subst hp
  intro H locs L hL hc0 hP hD hS
  have ha : (gws Γ S X)[id]? = some (S.2.2 id, .inl (Γ.2 3, n, .inr (.inr (.inr (.inr (fun j => (la[j]?).map S.2.2)))))) := by rw [gws_at hsh, gcell_q (by decide)]
  refine va_aldq hx hb hK.1 hP id 3 (C := RX4) ha rfl (vp_inD hin hn) d ?_
  rw [clampD hin hn, hl]
  exact k H locs L hL hc0 hP hD hS
theorem g_aald4 (hC : Cx F own cc nL rm) {id n j r : Nat} {la : List Nat} (hsh : gat S id (.inr (4, n, la))) (hn : n < 2147483648) (hin : j < n) (hl : la[j]? = some r) (d : decode cc pc = .ok (.aaload, 1)) (hp : pc + 1 = pc') (k : G F S K X pc' ls (.ref r :: st)) : G F S K X pc ls (.int (nI j) :: .ref id :: st) := by
  obtain ⟨p, l, e, R, s, m, args, below, meth, c, Γ, A, Q⟩ := F
  obtain ⟨hx, hb, hml, hown, hts, hlk, rfl, hK, hA⟩ := hC
  subst hp
  intro H locs L hL hc0 hP hD hS
  have ha : (gws Γ S X)[id]? = some (S.2.2 id, .inl (Γ.2 4, n, .inr (.inr (.inr (.inr (fun j => (la[j]?).map S.2.2)))))) := by rw [gws_at hsh, gcell_q (by decide)]
  refine va_aldq hx hb hK.1 hP id 4 (C := RX3) ha rfl (vp_inD hin hn) d ?_
  rw [clampD hin hn, hl]
  exact k H locs L hL hc0 hP hD hS
theorem g_aald5 (hC : Cx F own cc nL rm) {id n j k r : Nat} {la : List Nat} (hsh : gat S id (.inr (5, n, la))) (hn : n < 2147483648) (hin : j < n) (hX : X id j = nI k) (hk : k < 2147483648) (hl : la[k]? = some r) (d : decode cc pc = .ok (.aaload, 1)) (hp : pc + 1 = pc') (kk : G F S K X pc' ls (.ref r :: st)) : G F S K X pc ls (.int (nI j) :: .ref id :: st) := by
  obtain ⟨p, l, e, R, s, m, args, below, meth, c, Γ, A, Q⟩ := F
  obtain ⟨hx, hb, hml, hown, hts, hlk, rfl, hK, hA⟩ := hC
  subst hp
  intro H locs L hL hc0 hP hD hS
  have ha : (gws Γ S X)[id]? = some (S.2.2 id, .inl (Γ.2 3, n, .inr (.inr (.inr (.inr (fun j => (la[(X id j).toNatClampNeg]?).map S.2.2)))))) := by rw [gws_at hsh, gcell_5]
  refine va_aldq hx hb hK.1 hP id 3 (C := RX4) ha rfl (vp_inD hin hn) d ?_
  rw [clampD hin hn, hX, nI_clamp hk, hl]
  exact kk H locs L hL hc0 hP hD hS
theorem g_aast5 (hC : Cx F own cc nL rm) {id n j k r : Nat} {la : List Nat} {fs : List (Option (Option Nat))} (hsh : gat S id (.inr (5, n, la))) (hn : n < 2147483648) (hin : j < n) (hr : gat S r (.inl (4, fs))) (hk : k < 2147483648) (hl : la[k]? = some r) (d : decode cc pc = .ok (.aastore, 1)) (hp : pc + 1 = pc') (kk : G F S K (gu X id j (nI k)) pc' ls st) : G F S K X pc ls (.ref r :: .int (nI j) :: .ref id :: st) := by
  obtain ⟨p, l, e, R, s, m, args, below, meth, c, Γ, A, Q⟩ := F
  obtain ⟨hx, hb, hml, hown, hts, hlk, rfl, hK, hA⟩ := hC
  subst hp
  intro H locs L hL hc0 hP hD hS
  have ha : (gws Γ S X)[id]? = some (S.2.2 id, .inl (Γ.2 3, n, .inr (.inr (.inr (.inr (fun j => (la[(X id j).toNatClampNeg]?).map S.2.2)))))) := by rw [gws_at hsh, gcell_5]
  refine va_astq hx hb hK.1 hP hD hS id 3 r 4 (r := (RX4, TX4, 5)) ha rfl (gws_at hr) rfl (vp_inD hin hn) d (fun H1 locs1 hP1 hD1 hS1 => ?_)
  rw [clampD hin hn] at hP1 hD1
  have e : (gws Γ S X).set id (S.2.2 id, .inl (Γ.2 3, n, .inr (.inr (.inr (.inr (va_up (fun j => (la[(X id j).toNatClampNeg]?).map S.2.2) j (some (S.2.2 r)))))))) = gws Γ S (gu X id j (nI k)) := by
    have h := gws_set (Γ := Γ) (X := X) (X' := gu X id j (nI k)) hsh gu_ne
    rw [gcell_5] at h
    rw [← h]
    refine congrArg (fun z => (gws Γ S X).set id (S.2.2 id, .inl (Γ.2 3, n, .inr (.inr (.inr (.inr z)))))) ?_
    funext i
    unfold va_up
    by_cases hz : i = j
    · subst hz
      rw [if_pos rfl, gu_at, nI_clamp hk, hl]; rfl
    · rw [if_neg hz, gu_other (fun h => hz h.2)]
  rw [e] at hP1 hD1
  exact kk H1 locs1 L hL hc0 hP1 hD1 hS1
end
/-! calls -/
theorem cv_sum (S : gS) {rest : List Value} (h : (rest.map fun v => v.category).sum ≤ 8) : ((rest.map (cv S)).map fun v => v.category).sum ≤ 8 := by
  rw [List.map_map, show ((fun v : Value => v.category) ∘ cv S) = fun v => v.category from funext (cv_cat S)]
  exact h
theorem gPc_blind {Γ : gL} {A : Nat → Prop} {S : gS} {X : gX} {as : List Value} : FrameBlind (gPc Γ A S X as) := fun a U g mk q => by
  obtain ⟨q0, qP, qK, qc, qD, qA⟩ := q
  exact ⟨q0, qP, gK.same (u := U) (U := U.calling g mk a) rfl qK, qc, qD, qA⟩
def mhOk (y : MethodName) (n : Nat) : Prop := y.cls ≠ "java/lang/invoke/MethodHandle" ∧ y.cls ≠ "java/lang/invoke/VarHandle" ∧ (parseMethodDescriptor y.desc).map (fun d => d.parameters.length) = some n
def MLV (own : String) (idx : Nat) (y : MethodName) (cc : ByteArray) (nL : Nat) (rt : Option FieldType) (n : Nat) : Prop := GoodIn TB (wsV own idx y.cls y (.code y cc nL rt :: TB)) ∧ mhOk y n
def MLS (own : String) (idx : Nat) (y : MethodName) (cc : ByteArray) (nL : Nat) (rt : Option FieldType) (n : Nat) : Prop := GoodIn TB (.code y cc nL rt :: TB) ∧ Cond.methodLink own idx y ∈ TB ∧ Cond.initialized y.cls ∈ TB ∧ Cond.static y ∈ TB ∧ mhOk y n
/-- a static method of a nest mate -/
def MLN (own : String) (idx : Nat) (y : MethodName) (cc : ByteArray) (nL : Nat) (rt : Option FieldType) (n : Nat) : Prop := ∃ host : String, GoodIn TB (.code y cc nL rt :: TB) ∧ (own, idx, y, host) ∈ NW ∧ Cond.initialized y.cls ∈ TB ∧ Cond.static y ∈ TB ∧ mhOk y n
theorem goodTB {ws : List Cond} (h : ∀ w ∈ ws, w ∈ TB) : GoodIn TB ws := fun w hw => ⟨h w hw, good_of_word (tb_good w (h w hw))⟩
theorem mlv_of {own : String} {idx : Nat} {y : MethodName} {cc : ByteArray} {nL : Nat} {rt : Option FieldType} {n : Nat} (h1 : Cond.methodLink own idx y ∈ TB) (h2 : Cond.instanceMethod y ∈ TB) (h3 : Cond.selects y.cls y y ∈ TB) (h4 : Cond.initialized y.cls ∈ TB) (h5 : Cond.code y cc nL rt ∈ TB) (h6 : mhOk y n) : MLV own idx y cc nL rt n := ⟨goodTB (fun w hw => by
  simp only [wsV, List.cons_append, List.nil_append, List.mem_cons] at hw
  rcases hw with rfl | rfl | rfl | rfl | rfl | h
  · exact h1
  · exact h2
  · exact h3
  · exact h4
  · exact h5
  · exact h), h6⟩
theorem mls_of {own : String} {idx : Nat} {y : MethodName} {cc : ByteArray} {nL : Nat} {rt : Option FieldType} {n : Nat} (h1 : Cond.methodLink own idx y ∈ TB) (h2 : Cond.static y ∈ TB) (h4 : Cond.initialized y.cls ∈ TB) (h5 : Cond.code y cc nL rt ∈ TB) (h6 : mhOk y n) : MLS own idx y cc nL rt n := ⟨goodTB (fun w hw => by
  rcases List.mem_cons.mp hw with rfl | h
  · exact h5
  · exact h), h1, h4, h2, h6⟩
theorem mln_of {own host : String} {idx : Nat} {y : MethodName} {cc : ByteArray} {nL : Nat} {rt : Option FieldType} {n : Nat} (h1 : (own, idx, y, host) ∈ NW) (h2 : Cond.static y ∈ TB) (h4 : Cond.initialized y.cls ∈ TB) (h5 : Cond.code y cc nL rt ∈ TB) (h6 : mhOk y n) : MLN own idx y cc nL rt n := ⟨host, goodTB (fun w hw => by
  rcases List.mem_cons.mp hw with rfl | h
  · exact h5
  · exact h), h1, h4, h2, h6⟩
theorem cwS2 {R : Room} {s : State} {args : Array Value} {own : String} {index maxL mc ms : Nat} {y : MethodName} {bytes : ByteArray} {ret : Option FieldType} {Ts ws ws' : List Cond} {rm : Room} (n : Nat) (ht : ∀ w ∈ Ts, w.before args s = true) (hG : GoodIn Ts ws) (hw : ws = Cond.code y bytes maxL ret :: ws') (hrc : rm.cells = mc) (hrs : rm.slots = ms) (hl : (Cond.methodLink own index y).before args s = true) (hini : (Cond.initialized y.cls).before args s = true) (hst : (Cond.static y).before args s = true) (hd : mhOk y n) (hR : rm.frames + 1 ≤ R.frames ∧ 8 + (maxL + 11) + rm.locals ≤ R.locals) :
    CallB R s args own index y bytes maxL ret ws rm mc ms n ∧ (Cond.static y).before args s = true := by
  have hc : Cond.code y bytes maxL ret ∈ ws := by rw [hw]; exact List.mem_cons_self
  refine ⟨⟨hrc, hrs, hR.1, hR.2, pay_in ht hG, hc, ht _ (hG _ hc).1, hini, ⟨hd.1, hd.2.1⟩, fun sig h => ?_, hl⟩, hst⟩
  have := hd.2.2
  rw [h] at this
  exact (Option.some.inj this).symm
theorem gLoc_cv {S S' : gS} {L : Array Slot} {nL : Nat} {ls : List Value} (h : gLoc S L nL ls) (hc : ∀ v ∈ ls, cv S' v = cv S v) : gLoc S' L nL ls := ⟨h.1, h.2.1, fun i v hi hv => by rw [hc v (List.mem_of_getElem? hi)]; exact h.2.2 i v hi hv⟩
section
variable {F : gF} {own : String} {cc : ByteArray} {nL : Nat} {rm : Room} {S : gS} {K : Nat × Nat} {X : gX} {pc pc' : Nat} {ls st : List Value}

theorem g_callV0 (hC : Cx F own cc nL rm) {y : MethodName} {cc2 : ByteArray} {nL2 : Nat} {rt : Option FieldType} {fr lo : Nat} {as rest : List Value} {id ci : Nat} {fs : List (Option (Option Nat))} {mc ms idx n : Nat} {post : gS → Option Value → gX → Prop} (hM : Ct F.2.1 S y cc2 nL2 rt fr lo (.ref id :: as) X mc ms post) (hk : MLV own idx y cc2 nL2 rt n) (hsh : gat S id (.inl (ci, fs))) (hci : (gCl[ci]?).map (fun q => q.1) = some y.cls) (hroom : fr + 1 ≤ rm.frames ∧ 8 + (nL2 + 11) + lo ≤ rm.locals) (hn : as.length = n) (hst : st = as.reverse ++ .ref id :: rest) (hW : (rest.map fun v => v.category).sum ≤ 8) (d : decode cc pc = .ok (.invokevirtual idx, 3)) (hp : pc + 3 = pc') (hf : K.1 + mc ≤ rm.cells ∧ K.2 + ms ≤ rm.slots) (hcv : ∀ S' r X', post S' r X' → ∀ v ∈ ls ++ rest, cv S' v = cv S v)
    (kk : ∀ S' r X', post S' r X' → G F S' (K.1 + mc, K.2 + ms) X' pc' ls (r.toList ++ rest)) : G F S K X pc ls st := by
  obtain ⟨p, l, e, R, s, m, args, below, meth, c, Γ, A, Q⟩ := F
  obtain ⟨hx, hb, hml, hown, hts, hlk, rfl, hK, hA⟩ := hC
  subst hp
  subst hst
  intro H locs L hL hc0 hP hD hS
  obtain ⟨q, hq, hqc⟩ : ∃ q, gCl[ci]? = some q ∧ q.1 = y.cls := by
    cases h : gCl[ci]? with
    | none => rw [h] at hci; cases hci
    | some q => rw [h] at hci; exact ⟨q, rfl, Option.some.inj hci⟩
  have hcell := va_recv hK.1 hP hq (gws_at (X := X) (Γ := Γ) hsh)
  rw [hqc] at hcell
  have hr := va_runV (e := e) (below := below) (meth := meth) (l := l) (R := R) (locs := locs) (cells := K.1) (slots := K.2) (As := as.map (cv S)) (rest := rest.map (cv S)) (g := F0 m pc L ((as.reverse ++ .ref id :: rest).map (cv S))) ⟨hx, hb, hml, hown, hts⟩ (hM Γ A) (cwV n hts hk.1 rfl rfl rfl ⟨rfl, hk.2⟩ hroom) ⟨gPc_blind, hcell, fun U hU hWU => ⟨rfl, by rw [hU]; exact hP, gK.moved hWU hK, hc0, hD, fun q h => hA q (Nat.le_trans hS.1 (by rw [← hU]; exact h))⟩⟩ rfl (by rw [List.length_map]; exact hn) (by rw [← hml]; exact hL.1) (by simp [cv]) (lv_room (cv_sum S hW)) d hf
  intro T hT X1
  obtain ⟨v, st0, t, T', L2, h0, X2, hL2, e1, e2, ⟨⟨S', r, X', hret, hpost, hc2, hP2, hD2⟩, hz, hkeep⟩, hgo⟩ := hr T hT X1
  have hv : v = r.map (cv S') := Outcome.returned.inj hret
  subst hv
  rw [h0] at hz hkeep
  have hcvs := hcv S' r X' hpost
  obtain ⟨t2, a1, b1⟩ := kk S' r X' hpost T'.heap (locs ++ L2) L (gLoc_cv hL (fun v hv => hcvs v (List.mem_append_left _ hv))) hc2 (by rw [e1]; exact hP2) hD2
    ⟨Nat.le_trans hS.1 (by rw [e1]; exact hz), fun q h1 h2 => by rw [e1, hkeep q (Nat.lt_of_lt_of_le h1 hS.1) h2]; exact hS.2.1 q h1 h2, fun q hq => by
      rcases List.mem_append.mp hq with h | h
      · exact hS.2.2 q h
      · exact hL2 q h⟩ T' rfl X2
  refine ⟨t2, hgo t2 ?_, b1⟩
  have hrest : rest.map (cv S') = rest.map (cv S) := List.map_congr_left (fun v hv => hcvs v (List.mem_append_right _ hv))
  have hst2 : (r.toList ++ rest).map (cv S') = (r.map (cv S')).toList ++ rest.map (cv S) := by
    rw [List.map_append, hrest]
    cases r <;> rfl
  rw [hst2] at a1
  exact a1
theorem g_callS0 (hC : Cx F own cc nL rm) {y : MethodName} {cc2 : ByteArray} {nL2 : Nat} {rt : Option FieldType} {fr lo : Nat} {as rest : List Value} {mc ms idx n : Nat} {post : gS → Option Value → gX → Prop} (hM : Ct F.2.1 S y cc2 nL2 rt fr lo as X mc ms post) (hk : MLS own idx y cc2 nL2 rt n) (hroom : fr + 1 ≤ rm.frames ∧ 8 + (nL2 + 11) + lo ≤ rm.locals) (hn : as.length = n) (hst : st = as.reverse ++ rest) (hW : (rest.map fun v => v.category).sum ≤ 8) (d : decode cc pc = .ok (.invokestatic idx, 3)) (hp : pc + 3 = pc') (hf : K.1 + mc ≤ rm.cells ∧ K.2 + ms ≤ rm.slots) (hcv : ∀ S' r X', post S' r X' → ∀ v ∈ ls ++ rest, cv S' v = cv S v)
    (kk : ∀ S' r X', post S' r X' → G F S' (K.1 + mc, K.2 + ms) X' pc' ls (r.toList ++ rest)) : G F S K X pc ls st := by
  obtain ⟨p, l, e, R, s, m, args, below, meth, c, Γ, A, Q⟩ := F
  obtain ⟨hx, hb, hml, hown, hts, hlk, rfl, hK, hA⟩ := hC
  subst hp
  subst hst
  intro H locs L hL hc0 hP hD hS
  have hr := va_runS (e := e) (below := below) (meth := meth) (l := l) (R := R) (locs := locs) (cells := K.1) (slots := K.2) (As := as.map (cv S)) (rest := rest.map (cv S)) (g := F0 m pc L ((as.reverse ++ rest).map (cv S))) ⟨hx, hb, hml, hown, hts⟩ (hM Γ A) (cwS2 n hts hk.1 rfl rfl rfl (hts _ hk.2.1) (hts _ hk.2.2.1) (hts _ hk.2.2.2.1) hk.2.2.2.2 hroom) ⟨gPc_blind, fun U hU hWU => ⟨rfl, by rw [hU]; exact hP, gK.moved hWU hK, hc0, hD, fun q h => hA q (Nat.le_trans hS.1 (by rw [← hU]; exact h))⟩⟩ rfl (by rw [List.length_map]; exact hn) (by rw [← hml]; exact hL.1) (by simp) (lv_room (cv_sum S hW)) d hf
  intro T hT X1
  obtain ⟨v, st0, t, T', L2, h0, X2, hL2, e1, e2, ⟨⟨S', r, X', hret, hpost, hc2, hP2, hD2⟩, hz, hkeep⟩, hgo⟩ := hr T hT X1
  have hv : v = r.map (cv S') := Outcome.returned.inj hret
  subst hv
  rw [h0] at hz hkeep
  have hcvs := hcv S' r X' hpost
  obtain ⟨t2, a1, b1⟩ := kk S' r X' hpost T'.heap (locs ++ L2) L (gLoc_cv hL (fun v hv => hcvs v (List.mem_append_left _ hv))) hc2 (by rw [e1]; exact hP2) hD2
    ⟨Nat.le_trans hS.1 (by rw [e1]; exact hz), fun q h1 h2 => by rw [e1, hkeep q (Nat.lt_of_lt_of_le h1 hS.1) h2]; exact hS.2.1 q h1 h2, fun q hq => by
      rcases List.mem_append.mp hq with h | h
      · exact hS.2.2 q h
      · exact hL2 q h⟩ T' rfl X2
  refine ⟨t2, hgo t2 ?_, b1⟩
  have hrest : rest.map (cv S') = rest.map (cv S) := List.map_congr_left (fun v hv => hcvs v (List.mem_append_right _ hv))
  have hst2 : (r.toList ++ rest).map (cv S') = (r.map (cv S')).toList ++ rest.map (cv S) := by
    rw [List.map_append, hrest]
    cases r <;> rfl
  rw [hst2] at a1
  exact a1
theorem g_callN0 (hC : Cx F own cc nL rm) {y : MethodName} {cc2 : ByteArray} {nL2 : Nat} {rt : Option FieldType} {fr lo : Nat} {as rest : List Value} {mc ms idx n : Nat} {post : gS → Option Value → gX → Prop} (hM : Ct F.2.1 S y cc2 nL2 rt fr lo as X mc ms post) (hk : MLN own idx y cc2 nL2 rt n) (hroom : fr + 1 ≤ rm.frames ∧ 8 + (nL2 + 11) + lo ≤ rm.locals) (hn : as.length = n) (hst : st = as.reverse ++ rest) (hW : (rest.map fun v => v.category).sum ≤ 8) (d : decode cc pc = .ok (.invokestatic idx, 3)) (hp : pc + 3 = pc') (hf : K.1 + mc ≤ rm.cells ∧ K.2 + ms ≤ rm.slots) (hcv : ∀ S' r X', post S' r X' → ∀ v ∈ ls ++ rest, cv S' v = cv S v)
    (kk : ∀ S' r X', post S' r X' → G F S' (K.1 + mc, K.2 + ms) X' pc' ls (r.toList ++ rest)) : G F S K X pc ls st := by
  obtain ⟨p, l, e, R, s, m, args, below, meth, c, Γ, A, Q⟩ := F
  obtain ⟨hx, hb, hml, hown, hts, hlk, rfl, hK, hA⟩ := hC
  subst hp
  subst hst
  intro H locs L hL hc0 hP hD hS
  obtain ⟨host, hk1, hk2, hk3, hk4, hk5⟩ := hk
  have hr := va_runSN (e := e) (below := below) (meth := meth) (l := l) (R := R) (locs := locs) (cells := K.1) (slots := K.2) (As := as.map (cv S)) (rest := rest.map (cv S)) (g := F0 m pc L ((as.reverse ++ rest).map (cv S))) ⟨hx, hb, hml, hown, hts⟩ (hM Γ A) ⟨va_cnB n hts hk1 rfl rfl rfl (hK.2.2 _ hk2) (hts _ hk3) hk5 hroom, hts _ hk4, trivial⟩ ⟨gPc_blind, fun U hU hWU => ⟨rfl, by rw [hU]; exact hP, gK.moved hWU hK, hc0, hD, fun q h => hA q (Nat.le_trans hS.1 (by rw [← hU]; exact h))⟩⟩ rfl (by rw [List.length_map]; exact hn) (by rw [← hml]; exact hL.1) (by simp) (lv_room (cv_sum S hW)) d hf
  intro T hT X1
  obtain ⟨v, st0, t, T', L2, h0, X2, hL2, e1, e2, ⟨⟨S', r, X', hret, hpost, hc2, hP2, hD2⟩, hz, hkeep⟩, hgo⟩ := hr T hT X1
  have hv : v = r.map (cv S') := Outcome.returned.inj hret
  subst hv
  rw [h0] at hz hkeep
  have hcvs := hcv S' r X' hpost
  obtain ⟨t2, a1, b1⟩ := kk S' r X' hpost T'.heap (locs ++ L2) L (gLoc_cv hL (fun v hv => hcvs v (List.mem_append_left _ hv))) hc2 (by rw [e1]; exact hP2) hD2
    ⟨Nat.le_trans hS.1 (by rw [e1]; exact hz), fun q h1 h2 => by rw [e1, hkeep q (Nat.lt_of_lt_of_le h1 hS.1) h2]; exact hS.2.1 q h1 h2, fun q hq => by
      rcases List.mem_append.mp hq with h | h
      · exact hS.2.2 q h
      · exact hL2 q h⟩ T' rfl X2
  refine ⟨t2, hgo t2 ?_, b1⟩
  have hrest : rest.map (cv S') = rest.map (cv S) := List.map_congr_left (fun v hv => hcvs v (List.mem_append_right _ hv))
  have hst2 : (r.toList ++ rest).map (cv S') = (r.map (cv S')).toList ++ rest.map (cv S) := by
    rw [List.map_append, hrest]
    cases r <;> rfl
  rw [hst2] at a1
  exact a1
theorem g_callV0I (hC : Cx F own cc nL rm) {y : MethodName} {cc2 : ByteArray} {nL2 : Nat} {rt : Option FieldType} {fr lo : Nat} {rest : List Value} {id ci : Nat} {fs : List (Option (Option Nat))} {idx : Nat} {post : Int32 → gX → Prop} (hM : Ct F.2.1 S y cc2 nL2 rt fr lo [.ref id] X 0 0 (pI S post)) (hk : MLV own idx y cc2 nL2 rt 0) (hsh : gat S id (.inl (ci, fs))) (hci : (gCl[ci]?).map (fun q => q.1) = some y.cls) (hroom : fr + 1 ≤ rm.frames ∧ 8 + (nL2 + 11) + lo ≤ rm.locals) (hW : (rest.map fun v => v.category).sum ≤ 8) (d : decode cc pc = .ok (.invokevirtual idx, 3)) (hp : pc + 3 = pc') (hf : K.1 ≤ rm.cells ∧ K.2 ≤ rm.slots) (kk : ∀ v X', post v X' → G F S K X' pc' ls (.int v :: rest)) : G F S K X pc ls (.ref id :: rest) :=
  g_callV0 hC (as := []) (rest := rest) hM hk hsh hci hroom rfl rfl hW d hp hf (fun S' r X' h => by obtain ⟨rfl, -⟩ := h; exact fun _ _ => rfl) (fun S' r X' h => by obtain ⟨rfl, v, rfl, hp⟩ := h; exact kk v X' hp)
theorem g_callV0V (hC : Cx F own cc nL rm) {y : MethodName} {cc2 : ByteArray} {nL2 : Nat} {rt : Option FieldType} {fr lo : Nat} {rest : List Value} {id ci : Nat} {fs : List (Option (Option Nat))} {idx : Nat} {post : gX → Prop} (hM : Ct F.2.1 S y cc2 nL2 rt fr lo [.ref id] X 0 0 (pV S post)) (hk : MLV own idx y cc2 nL2 rt 0) (hsh : gat S id (.inl (ci, fs))) (hci : (gCl[ci]?).map (fun q => q.1) = some y.cls) (hroom : fr + 1 ≤ rm.frames ∧ 8 + (nL2 + 11) + lo ≤ rm.locals) (hW : (rest.map fun v => v.category).sum ≤ 8) (d : decode cc pc = .ok (.invokevirtual idx, 3)) (hp : pc + 3 = pc') (hf : K.1 ≤ rm.cells ∧ K.2 ≤ rm.slots) (kk : ∀ X', post X' → G F S K X' pc' ls rest) : G F S K X pc ls (.ref id :: rest) :=
  g_callV0 hC (as := []) (rest := rest) hM hk hsh hci hroom rfl rfl hW d hp hf (fun S' r X' h => by obtain ⟨rfl, -⟩ := h; exact fun _ _ => rfl) (fun S' r X' h => by obtain ⟨rfl, rfl, hp⟩ := h; exact kk X' hp)
theorem g_callV1I (hC : Cx F own cc nL rm) {y : MethodName} {cc2 : ByteArray} {nL2 : Nat} {rt : Option FieldType} {fr lo : Nat} {a0 : Value} {rest : List Value} {id ci : Nat} {fs : List (Option (Option Nat))} {idx : Nat} {post : Int32 → gX → Prop} (hM : Ct F.2.1 S y cc2 nL2 rt fr lo [.ref id, a0] X 0 0 (pI S post)) (hk : MLV own idx y cc2 nL2 rt 1) (hsh : gat S id (.inl (ci, fs))) (hci : (gCl[ci]?).map (fun q => q.1) = some y.cls) (hroom : fr + 1 ≤ rm.frames ∧ 8 + (nL2 + 11) + lo ≤ rm.locals) (hW : (rest.map fun v => v.category).sum ≤ 8) (d : decode cc pc = .ok (.invokevirtual idx, 3)) (hp : pc + 3 = pc') (hf : K.1 ≤ rm.cells ∧ K.2 ≤ rm.slots) (kk : ∀ v X', post v X' → G F S K X' pc' ls (.int v :: rest)) : G F S K X pc ls (a0 :: .ref id :: rest) :=
  g_callV0 hC (as := [a0]) (rest := rest) hM hk hsh hci hroom rfl rfl hW d hp hf (fun S' r X' h => by obtain ⟨rfl, -⟩ := h; exact fun _ _ => rfl) (fun S' r X' h => by obtain ⟨rfl, v, rfl, hp⟩ := h; exact kk v X' hp)
theorem g_callV1V (hC : Cx F own cc nL rm) {y : MethodName} {cc2 : ByteArray} {nL2 : Nat} {rt : Option FieldType} {fr lo : Nat} {a0 : Value} {rest : List Value} {id ci : Nat} {fs : List (Option (Option Nat))} {idx : Nat} {post : gX → Prop} (hM : Ct F.2.1 S y cc2 nL2 rt fr lo [.ref id, a0] X 0 0 (pV S post)) (hk : MLV own idx y cc2 nL2 rt 1) (hsh : gat S id (.inl (ci, fs))) (hci : (gCl[ci]?).map (fun q => q.1) = some y.cls) (hroom : fr + 1 ≤ rm.frames ∧ 8 + (nL2 + 11) + lo ≤ rm.locals) (hW : (rest.map fun v => v.category).sum ≤ 8) (d : decode cc pc = .ok (.invokevirtual idx, 3)) (hp : pc + 3 = pc') (hf : K.1 ≤ rm.cells ∧ K.2 ≤ rm.slots) (kk : ∀ X', post X' → G F S K X' pc' ls rest) : G F S K X pc ls (a0 :: .ref id :: rest) :=
  g_callV0 hC (as := [a0]) (rest := rest) hM hk hsh hci hroom rfl rfl hW d hp hf (fun S' r X' h => by obtain ⟨rfl, -⟩ := h; exact fun _ _ => rfl) (fun S' r X' h => by obtain ⟨rfl, rfl, hp⟩ := h; exact kk X' hp)
theorem g_callV2I (hC : Cx F own cc nL rm) {y : MethodName} {cc2 : ByteArray} {nL2 : Nat} {rt : Option FieldType} {fr lo : Nat} {a0 a1 : Value} {rest : List Value} {id ci : Nat} {fs : List (Option (Option Nat))} {idx : Nat} {post : Int32 → gX → Prop} (hM : Ct F.2.1 S y cc2 nL2 rt fr lo [.ref id, a0, a1] X 0 0 (pI S post)) (hk : MLV own idx y cc2 nL2 rt 2) (hsh : gat S id (.inl (ci, fs))) (hci : (gCl[ci]?).map (fun q => q.1) = some y.cls) (hroom : fr + 1 ≤ rm.frames ∧ 8 + (nL2 + 11) + lo ≤ rm.locals) (hW : (rest.map fun v => v.category).sum ≤ 8) (d : decode cc pc = .ok (.invokevirtual idx, 3)) (hp : pc + 3 = pc') (hf : K.1 ≤ rm.cells ∧ K.2 ≤ rm.slots) (kk : ∀ v X', post v X' → G F S K X' pc' ls (.int v :: rest)) : G F S K X pc ls (a1 :: a0 :: .ref id :: rest) :=
  g_callV0 hC (as := [a0, a1]) (rest := rest) hM hk hsh hci hroom rfl rfl hW d hp hf (fun S' r X' h => by obtain ⟨rfl, -⟩ := h; exact fun _ _ => rfl) (fun S' r X' h => by obtain ⟨rfl, v, rfl, hp⟩ := h; exact kk v X' hp)
theorem g_callV2V (hC : Cx F own cc nL rm) {y : MethodName} {cc2 : ByteArray} {nL2 : Nat} {rt : Option FieldType} {fr lo : Nat} {a0 a1 : Value} {rest : List Value} {id ci : Nat} {fs : List (Option (Option Nat))} {idx : Nat} {post : gX → Prop} (hM : Ct F.2.1 S y cc2 nL2 rt fr lo [.ref id, a0, a1] X 0 0 (pV S post)) (hk : MLV own idx y cc2 nL2 rt 2) (hsh : gat S id (.inl (ci, fs))) (hci : (gCl[ci]?).map (fun q => q.1) = some y.cls) (hroom : fr + 1 ≤ rm.frames ∧ 8 + (nL2 + 11) + lo ≤ rm.locals) (hW : (rest.map fun v => v.category).sum ≤ 8) (d : decode cc pc = .ok (.invokevirtual idx, 3)) (hp : pc + 3 = pc') (hf : K.1 ≤ rm.cells ∧ K.2 ≤ rm.slots) (kk : ∀ X', post X' → G F S K X' pc' ls rest) : G F S K X pc ls (a1 :: a0 :: .ref id :: rest) :=
  g_callV0 hC (as := [a0, a1]) (rest := rest) hM hk hsh hci hroom rfl rfl hW d hp hf (fun S' r X' h => by obtain ⟨rfl, -⟩ := h; exact fun _ _ => rfl) (fun S' r X' h => by obtain ⟨rfl, rfl, hp⟩ := h; exact kk X' hp)
theorem g_callV3I (hC : Cx F own cc nL rm) {y : MethodName} {cc2 : ByteArray} {nL2 : Nat} {rt : Option FieldType} {fr lo : Nat} {a0 a1 a2 : Value} {rest : List Value} {id ci : Nat} {fs : List (Option (Option Nat))} {idx : Nat} {post : Int32 → gX → Prop} (hM : Ct F.2.1 S y cc2 nL2 rt fr lo [.ref id, a0, a1, a2] X 0 0 (pI S post)) (hk : MLV own idx y cc2 nL2 rt 3) (hsh : gat S id (.inl (ci, fs))) (hci : (gCl[ci]?).map (fun q => q.1) = some y.cls) (hroom : fr + 1 ≤ rm.frames ∧ 8 + (nL2 + 11) + lo ≤ rm.locals) (hW : (rest.map fun v => v.category).sum ≤ 8) (d : decode cc pc = .ok (.invokevirtual idx, 3)) (hp : pc + 3 = pc') (hf : K.1 ≤ rm.cells ∧ K.2 ≤ rm.slots) (kk : ∀ v X', post v X' → G F S K X' pc' ls (.int v :: rest)) : G F S K X pc ls (a2 :: a1 :: a0 :: .ref id :: rest) :=
  g_callV0 hC (as := [a0, a1, a2]) (rest := rest) hM hk hsh hci hroom rfl rfl hW d hp hf (fun S' r X' h => by obtain ⟨rfl, -⟩ := h; exact fun _ _ => rfl) (fun S' r X' h => by obtain ⟨rfl, v, rfl, hp⟩ := h; exact kk v X' hp)
theorem g_callV3V (hC : Cx F own cc nL rm) {y : MethodName} {cc2 : ByteArray} {nL2 : Nat} {rt : Option FieldType} {fr lo : Nat} {a0 a1 a2 : Value} {rest : List Value} {id ci : Nat} {fs : List (Option (Option Nat))} {idx : Nat} {post : gX → Prop} (hM : Ct F.2.1 S y cc2 nL2 rt fr lo [.ref id, a0, a1, a2] X 0 0 (pV S post)) (hk : MLV own idx y cc2 nL2 rt 3) (hsh : gat S id (.inl (ci, fs))) (hci : (gCl[ci]?).map (fun q => q.1) = some y.cls) (hroom : fr + 1 ≤ rm.frames ∧ 8 + (nL2 + 11) + lo ≤ rm.locals) (hW : (rest.map fun v => v.category).sum ≤ 8) (d : decode cc pc = .ok (.invokevirtual idx, 3)) (hp : pc + 3 = pc') (hf : K.1 ≤ rm.cells ∧ K.2 ≤ rm.slots) (kk : ∀ X', post X' → G F S K X' pc' ls rest) : G F S K X pc ls (a2 :: a1 :: a0 :: .ref id :: rest) :=
  g_callV0 hC (as := [a0, a1, a2]) (rest := rest) hM hk hsh hci hroom rfl rfl hW d hp hf (fun S' r X' h => by obtain ⟨rfl, -⟩ := h; exact fun _ _ => rfl) (fun S' r X' h => by obtain ⟨rfl, rfl, hp⟩ := h; exact kk X' hp)
theorem g_callV4I (hC : Cx F own cc nL rm) {y : MethodName} {cc2 : ByteArray} {nL2 : Nat} {rt : Option FieldType} {fr lo : Nat} {a0 a1 a2 a3 : Value} {rest : List Value} {id ci : Nat} {fs : List (Option (Option Nat))} {idx : Nat} {post : Int32 → gX → Prop} (hM : Ct F.2.1 S y cc2 nL2 rt fr lo [.ref id, a0, a1, a2, a3] X 0 0 (pI S post)) (hk : MLV own idx y cc2 nL2 rt 4) (hsh : gat S id (.inl (ci, fs))) (hci : (gCl[ci]?).map (fun q => q.1) = some y.cls) (hroom : fr + 1 ≤ rm.frames ∧ 8 + (nL2 + 11) + lo ≤ rm.locals) (hW : (rest.map fun v => v.category).sum ≤ 8) (d : decode cc pc = .ok (.invokevirtual idx, 3)) (hp : pc + 3 = pc') (hf : K.1 ≤ rm.cells ∧ K.2 ≤ rm.slots) (kk : ∀ v X', post v X' → G F S K X' pc' ls (.int v :: rest)) : G F S K X pc ls (a3 :: a2 :: a1 :: a0 :: .ref id :: rest) :=
  g_callV0 hC (as := [a0, a1, a2, a3]) (rest := rest) hM hk hsh hci hroom rfl rfl hW d hp hf (fun S' r X' h => by obtain ⟨rfl, -⟩ := h; exact fun _ _ => rfl) (fun S' r X' h => by obtain ⟨rfl, v, rfl, hp⟩ := h; exact kk v X' hp)
theorem g_callV4V (hC : Cx F own cc nL rm) {y : MethodName} {cc2 : ByteArray} {nL2 : Nat} {rt : Option FieldType} {fr lo : Nat} {a0 a1 a2 a3 : Value} {rest : List Value} {id ci : Nat} {fs : List (Option (Option Nat))} {idx : Nat} {post : gX → Prop} (hM : Ct F.2.1 S y cc2 nL2 rt fr lo [.ref id, a0, a1, a2, a3] X 0 0 (pV S post)) (hk : MLV own idx y cc2 nL2 rt 4) (hsh : gat S id (.inl (ci, fs))) (hci : (gCl[ci]?).map (fun q => q.1) = some y.cls) (hroom : fr + 1 ≤ rm.frames ∧ 8 + (nL2 + 11) + lo ≤ rm.locals) (hW : (rest.map fun v => v.category).sum ≤ 8) (d : decode cc pc = .ok (.invokevirtual idx, 3)) (hp : pc + 3 = pc') (hf : K.1 ≤ rm.cells ∧ K.2 ≤ rm.slots) (kk : ∀ X', post X' → G F S K X' pc' ls rest) : G F S K X pc ls (a3 :: a2 :: a1 :: a0 :: .ref id :: rest) :=
  g_callV0 hC (as := [a0, a1, a2, a3]) (rest := rest) hM hk hsh hci hroom rfl rfl hW d hp hf (fun S' r X' h => by obtain ⟨rfl, -⟩ := h; exact fun _ _ => rfl) (fun S' r X' h => by obtain ⟨rfl, rfl, hp⟩ := h; exact kk X' hp)
theorem g_callS1I (hC : Cx F own cc nL rm) {y : MethodName} {cc2 : ByteArray} {nL2 : Nat} {rt : Option FieldType} {fr lo : Nat} {a0 : Value} {rest : List Value} {idx : Nat} {post : Int32 → gX → Prop} (hM : Ct F.2.1 S y cc2 nL2 rt fr lo [a0] X 0 0 (pI S post)) (hk : MLS own idx y cc2 nL2 rt 1) (hroom : fr + 1 ≤ rm.frames ∧ 8 + (nL2 + 11) + lo ≤ rm.locals) (hW : (rest.map fun v => v.category).sum ≤ 8) (d : decode cc pc = .ok (.invokestatic idx, 3)) (hp : pc + 3 = pc') (hf : K.1 ≤ rm.cells ∧ K.2 ≤ rm.slots) (kk : ∀ v X', post v X' → G F S K X' pc' ls (.int v :: rest)) : G F S K X pc ls (a0 :: rest) :=
  g_callS0 hC (as := [a0]) (rest := rest) hM hk hroom rfl rfl hW d hp hf (fun S' r X' h => by obtain ⟨rfl, -⟩ := h; exact fun _ _ => rfl) (fun S' r X' h => by obtain ⟨rfl, v, rfl, hp⟩ := h; exact kk v X' hp)
theorem g_callS1V (hC : Cx F own cc nL rm) {y : MethodName} {cc2 : ByteArray} {nL2 : Nat} {rt : Option FieldType} {fr lo : Nat} {a0 : Value} {rest : List Value} {idx : Nat} {post : gX → Prop} (hM : Ct F.2.1 S y cc2 nL2 rt fr lo [a0] X 0 0 (pV S post)) (hk : MLS own idx y cc2 nL2 rt 1) (hroom : fr + 1 ≤ rm.frames ∧ 8 + (nL2 + 11) + lo ≤ rm.locals) (hW : (rest.map fun v => v.category).sum ≤ 8) (d : decode cc pc = .ok (.invokestatic idx, 3)) (hp : pc + 3 = pc') (hf : K.1 ≤ rm.cells ∧ K.2 ≤ rm.slots) (kk : ∀ X', post X' → G F S K X' pc' ls rest) : G F S K X pc ls (a0 :: rest) :=
  g_callS0 hC (as := [a0]) (rest := rest) hM hk hroom rfl rfl hW d hp hf (fun S' r X' h => by obtain ⟨rfl, -⟩ := h; exact fun _ _ => rfl) (fun S' r X' h => by obtain ⟨rfl, rfl, hp⟩ := h; exact kk X' hp)
theorem g_callS2I (hC : Cx F own cc nL rm) {y : MethodName} {cc2 : ByteArray} {nL2 : Nat} {rt : Option FieldType} {fr lo : Nat} {a0 a1 : Value} {rest : List Value} {idx : Nat} {post : Int32 → gX → Prop} (hM : Ct F.2.1 S y cc2 nL2 rt fr lo [a0, a1] X 0 0 (pI S post)) (hk : MLS own idx y cc2 nL2 rt 2) (hroom : fr + 1 ≤ rm.frames ∧ 8 + (nL2 + 11) + lo ≤ rm.locals) (hW : (rest.map fun v => v.category).sum ≤ 8) (d : decode cc pc = .ok (.invokestatic idx, 3)) (hp : pc + 3 = pc') (hf : K.1 ≤ rm.cells ∧ K.2 ≤ rm.slots) (kk : ∀ v X', post v X' → G F S K X' pc' ls (.int v :: rest)) : G F S K X pc ls (a1 :: a0 :: rest) :=
  g_callS0 hC (as := [a0, a1]) (rest := rest) hM hk hroom rfl rfl hW d hp hf (fun S' r X' h => by obtain ⟨rfl, -⟩ := h; exact fun _ _ => rfl) (fun S' r X' h => by obtain ⟨rfl, v, rfl, hp⟩ := h; exact kk v X' hp)
theorem g_callS2V (hC : Cx F own cc nL rm) {y : MethodName} {cc2 : ByteArray} {nL2 : Nat} {rt : Option FieldType} {fr lo : Nat} {a0 a1 : Value} {rest : List Value} {idx : Nat} {post : gX → Prop} (hM : Ct F.2.1 S y cc2 nL2 rt fr lo [a0, a1] X 0 0 (pV S post)) (hk : MLS own idx y cc2 nL2 rt 2) (hroom : fr + 1 ≤ rm.frames ∧ 8 + (nL2 + 11) + lo ≤ rm.locals) (hW : (rest.map fun v => v.category).sum ≤ 8) (d : decode cc pc = .ok (.invokestatic idx, 3)) (hp : pc + 3 = pc') (hf : K.1 ≤ rm.cells ∧ K.2 ≤ rm.slots) (kk : ∀ X', post X' → G F S K X' pc' ls rest) : G F S K X pc ls (a1 :: a0 :: rest) :=
  g_callS0 hC (as := [a0, a1]) (rest := rest) hM hk hroom rfl rfl hW d hp hf (fun S' r X' h => by obtain ⟨rfl, -⟩ := h; exact fun _ _ => rfl) (fun S' r X' h => by obtain ⟨rfl, rfl, hp⟩ := h; exact kk X' hp)
theorem g_callS3I (hC : Cx F own cc nL rm) {y : MethodName} {cc2 : ByteArray} {nL2 : Nat} {rt : Option FieldType} {fr lo : Nat} {a0 a1 a2 : Value} {rest : List Value} {idx : Nat} {post : Int32 → gX → Prop} (hM : Ct F.2.1 S y cc2 nL2 rt fr lo [a0, a1, a2] X 0 0 (pI S post)) (hk : MLS own idx y cc2 nL2 rt 3) (hroom : fr + 1 ≤ rm.frames ∧ 8 + (nL2 + 11) + lo ≤ rm.locals) (hW : (rest.map fun v => v.category).sum ≤ 8) (d : decode cc pc = .ok (.invokestatic idx, 3)) (hp : pc + 3 = pc') (hf : K.1 ≤ rm.cells ∧ K.2 ≤ rm.slots) (kk : ∀ v X', post v X' → G F S K X' pc' ls (.int v :: rest)) : G F S K X pc ls (a2 :: a1 :: a0 :: rest) :=
  g_callS0 hC (as := [a0, a1, a2]) (rest := rest) hM hk hroom rfl rfl hW d hp hf (fun S' r X' h => by obtain ⟨rfl, -⟩ := h; exact fun _ _ => rfl) (fun S' r X' h => by obtain ⟨rfl, v, rfl, hp⟩ := h; exact kk v X' hp)
theorem g_callS3V (hC : Cx F own cc nL rm) {y : MethodName} {cc2 : ByteArray} {nL2 : Nat} {rt : Option FieldType} {fr lo : Nat} {a0 a1 a2 : Value} {rest : List Value} {idx : Nat} {post : gX → Prop} (hM : Ct F.2.1 S y cc2 nL2 rt fr lo [a0, a1, a2] X 0 0 (pV S post)) (hk : MLS own idx y cc2 nL2 rt 3) (hroom : fr + 1 ≤ rm.frames ∧ 8 + (nL2 + 11) + lo ≤ rm.locals) (hW : (rest.map fun v => v.category).sum ≤ 8) (d : decode cc pc = .ok (.invokestatic idx, 3)) (hp : pc + 3 = pc') (hf : K.1 ≤ rm.cells ∧ K.2 ≤ rm.slots) (kk : ∀ X', post X' → G F S K X' pc' ls rest) : G F S K X pc ls (a2 :: a1 :: a0 :: rest) :=
  g_callS0 hC (as := [a0, a1, a2]) (rest := rest) hM hk hroom rfl rfl hW d hp hf (fun S' r X' h => by obtain ⟨rfl, -⟩ := h; exact fun _ _ => rfl) (fun S' r X' h => by obtain ⟨rfl, rfl, hp⟩ := h; exact kk X' hp)
theorem g_callS4I (hC : Cx F own cc nL rm) {y : MethodName} {cc2 : ByteArray} {nL2 : Nat} {rt : Option FieldType} {fr lo : Nat} {a0 a1 a2 a3 : Value} {rest : List Value} {idx : Nat} {post : Int32 → gX → Prop} (hM : Ct F.2.1 S y cc2 nL2 rt fr lo [a0, a1, a2, a3] X 0 0 (pI S post)) (hk : MLS own idx y cc2 nL2 rt 4) (hroom : fr + 1 ≤ rm.frames ∧ 8 + (nL2 + 11) + lo ≤ rm.locals) (hW : (rest.map fun v => v.category).sum ≤ 8) (d : decode cc pc = .ok (.invokestatic idx, 3)) (hp : pc + 3 = pc') (hf : K.1 ≤ rm.cells ∧ K.2 ≤ rm.slots) (kk : ∀ v X', post v X' → G F S K X' pc' ls (.int v :: rest)) : G F S K X pc ls (a3 :: a2 :: a1 :: a0 :: rest) :=
  g_callS0 hC (as := [a0, a1, a2, a3]) (rest := rest) hM hk hroom rfl rfl hW d hp hf (fun S' r X' h => by obtain ⟨rfl, -⟩ := h; exact fun _ _ => rfl) (fun S' r X' h => by obtain ⟨rfl, v, rfl, hp⟩ := h; exact kk v X' hp)
theorem g_callS4V (hC : Cx F own cc nL rm) {y : MethodName} {cc2 : ByteArray} {nL2 : Nat} {rt : Option FieldType} {fr lo : Nat} {a0 a1 a2 a3 : Value} {rest : List Value} {idx : Nat} {post : gX → Prop} (hM : Ct F.2.1 S y cc2 nL2 rt fr lo [a0, a1, a2, a3] X 0 0 (pV S post)) (hk : MLS own idx y cc2 nL2 rt 4) (hroom : fr + 1 ≤ rm.frames ∧ 8 + (nL2 + 11) + lo ≤ rm.locals) (hW : (rest.map fun v => v.category).sum ≤ 8) (d : decode cc pc = .ok (.invokestatic idx, 3)) (hp : pc + 3 = pc') (hf : K.1 ≤ rm.cells ∧ K.2 ≤ rm.slots) (kk : ∀ X', post X' → G F S K X' pc' ls rest) : G F S K X pc ls (a3 :: a2 :: a1 :: a0 :: rest) :=
  g_callS0 hC (as := [a0, a1, a2, a3]) (rest := rest) hM hk hroom rfl rfl hW d hp hf (fun S' r X' h => by obtain ⟨rfl, -⟩ := h; exact fun _ _ => rfl) (fun S' r X' h => by obtain ⟨rfl, rfl, hp⟩ := h; exact kk X' hp)
theorem g_callN1I (hC : Cx F own cc nL rm) {y : MethodName} {cc2 : ByteArray} {nL2 : Nat} {rt : Option FieldType} {fr lo : Nat} {a0 : Value} {rest : List Value} {idx : Nat} {post : Int32 → gX → Prop} (hM : Ct F.2.1 S y cc2 nL2 rt fr lo [a0] X 0 0 (pI S post)) (hk : MLN own idx y cc2 nL2 rt 1) (hroom : fr + 1 ≤ rm.frames ∧ 8 + (nL2 + 11) + lo ≤ rm.locals) (hW : (rest.map fun v => v.category).sum ≤ 8) (d : decode cc pc = .ok (.invokestatic idx, 3)) (hp : pc + 3 = pc') (hf : K.1 ≤ rm.cells ∧ K.2 ≤ rm.slots) (kk : ∀ v X', post v X' → G F S K X' pc' ls (.int v :: rest)) : G F S K X pc ls (a0 :: rest) :=
  g_callN0 hC (as := [a0]) (rest := rest) hM hk hroom rfl rfl hW d hp hf (fun S' r X' h => by obtain ⟨rfl, -⟩ := h; exact fun _ _ => rfl) (fun S' r X' h => by obtain ⟨rfl, v, rfl, hp⟩ := h; exact kk v X' hp)
theorem g_callN1V (hC : Cx F own cc nL rm) {y : MethodName} {cc2 : ByteArray} {nL2 : Nat} {rt : Option FieldType} {fr lo : Nat} {a0 : Value} {rest : List Value} {idx : Nat} {post : gX → Prop} (hM : Ct F.2.1 S y cc2 nL2 rt fr lo [a0] X 0 0 (pV S post)) (hk : MLN own idx y cc2 nL2 rt 1) (hroom : fr + 1 ≤ rm.frames ∧ 8 + (nL2 + 11) + lo ≤ rm.locals) (hW : (rest.map fun v => v.category).sum ≤ 8) (d : decode cc pc = .ok (.invokestatic idx, 3)) (hp : pc + 3 = pc') (hf : K.1 ≤ rm.cells ∧ K.2 ≤ rm.slots) (kk : ∀ X', post X' → G F S K X' pc' ls rest) : G F S K X pc ls (a0 :: rest) :=
  g_callN0 hC (as := [a0]) (rest := rest) hM hk hroom rfl rfl hW d hp hf (fun S' r X' h => by obtain ⟨rfl, -⟩ := h; exact fun _ _ => rfl) (fun S' r X' h => by obtain ⟨rfl, rfl, hp⟩ := h; exact kk X' hp)
theorem g_callN2I (hC : Cx F own cc nL rm) {y : MethodName} {cc2 : ByteArray} {nL2 : Nat} {rt : Option FieldType} {fr lo : Nat} {a0 a1 : Value} {rest : List Value} {idx : Nat} {post : Int32 → gX → Prop} (hM : Ct F.2.1 S y cc2 nL2 rt fr lo [a0, a1] X 0 0 (pI S post)) (hk : MLN own idx y cc2 nL2 rt 2) (hroom : fr + 1 ≤ rm.frames ∧ 8 + (nL2 + 11) + lo ≤ rm.locals) (hW : (rest.map fun v => v.category).sum ≤ 8) (d : decode cc pc = .ok (.invokestatic idx, 3)) (hp : pc + 3 = pc') (hf : K.1 ≤ rm.cells ∧ K.2 ≤ rm.slots) (kk : ∀ v X', post v X' → G F S K X' pc' ls (.int v :: rest)) : G F S K X pc ls (a1 :: a0 :: rest) :=
  g_callN0 hC (as := [a0, a1]) (rest := rest) hM hk hroom rfl rfl hW d hp hf (fun S' r X' h => by obtain ⟨rfl, -⟩ := h; exact fun _ _ => rfl) (fun S' r X' h => by obtain ⟨rfl, v, rfl, hp⟩ := h; exact kk v X' hp)
theorem g_callN2V (hC : Cx F own cc nL rm) {y : MethodName} {cc2 : ByteArray} {nL2 : Nat} {rt : Option FieldType} {fr lo : Nat} {a0 a1 : Value} {rest : List Value} {idx : Nat} {post : gX → Prop} (hM : Ct F.2.1 S y cc2 nL2 rt fr lo [a0, a1] X 0 0 (pV S post)) (hk : MLN own idx y cc2 nL2 rt 2) (hroom : fr + 1 ≤ rm.frames ∧ 8 + (nL2 + 11) + lo ≤ rm.locals) (hW : (rest.map fun v => v.category).sum ≤ 8) (d : decode cc pc = .ok (.invokestatic idx, 3)) (hp : pc + 3 = pc') (hf : K.1 ≤ rm.cells ∧ K.2 ≤ rm.slots) (kk : ∀ X', post X' → G F S K X' pc' ls rest) : G F S K X pc ls (a1 :: a0 :: rest) :=
  g_callN0 hC (as := [a0, a1]) (rest := rest) hM hk hroom rfl rfl hW d hp hf (fun S' r X' h => by obtain ⟨rfl, -⟩ := h; exact fun _ _ => rfl) (fun S' r X' h => by obtain ⟨rfl, rfl, hp⟩ := h; exact kk X' hp)
theorem g_callN3I (hC : Cx F own cc nL rm) {y : MethodName} {cc2 : ByteArray} {nL2 : Nat} {rt : Option FieldType} {fr lo : Nat} {a0 a1 a2 : Value} {rest : List Value} {idx : Nat} {post : Int32 → gX → Prop} (hM : Ct F.2.1 S y cc2 nL2 rt fr lo [a0, a1, a2] X 0 0 (pI S post)) (hk : MLN own idx y cc2 nL2 rt 3) (hroom : fr + 1 ≤ rm.frames ∧ 8 + (nL2 + 11) + lo ≤ rm.locals) (hW : (rest.map fun v => v.category).sum ≤ 8) (d : decode cc pc = .ok (.invokestatic idx, 3)) (hp : pc + 3 = pc') (hf : K.1 ≤ rm.cells ∧ K.2 ≤ rm.slots) (kk : ∀ v X', post v X' → G F S K X' pc' ls (.int v :: rest)) : G F S K X pc ls (a2 :: a1 :: a0 :: rest) :=
  g_callN0 hC (as := [a0, a1, a2]) (rest := rest) hM hk hroom rfl rfl hW d hp hf (fun S' r X' h => by obtain ⟨rfl, -⟩ := h; exact fun _ _ => rfl) (fun S' r X' h => by obtain ⟨rfl, v, rfl, hp⟩ := h; exact kk v X' hp)
theorem g_callN3V (hC : Cx F own cc nL rm) {y : MethodName} {cc2 : ByteArray} {nL2 : Nat} {rt : Option FieldType} {fr lo : Nat} {a0 a1 a2 : Value} {rest : List Value} {idx : Nat} {post : gX → Prop} (hM : Ct F.2.1 S y cc2 nL2 rt fr lo [a0, a1, a2] X 0 0 (pV S post)) (hk : MLN own idx y cc2 nL2 rt 3) (hroom : fr + 1 ≤ rm.frames ∧ 8 + (nL2 + 11) + lo ≤ rm.locals) (hW : (rest.map fun v => v.category).sum ≤ 8) (d : decode cc pc = .ok (.invokestatic idx, 3)) (hp : pc + 3 = pc') (hf : K.1 ≤ rm.cells ∧ K.2 ≤ rm.slots) (kk : ∀ X', post X' → G F S K X' pc' ls rest) : G F S K X pc ls (a2 :: a1 :: a0 :: rest) :=
  g_callN0 hC (as := [a0, a1, a2]) (rest := rest) hM hk hroom rfl rfl hW d hp hf (fun S' r X' h => by obtain ⟨rfl, -⟩ := h; exact fun _ _ => rfl) (fun S' r X' h => by obtain ⟨rfl, rfl, hp⟩ := h; exact kk X' hp)
theorem g_callN4I (hC : Cx F own cc nL rm) {y : MethodName} {cc2 : ByteArray} {nL2 : Nat} {rt : Option FieldType} {fr lo : Nat} {a0 a1 a2 a3 : Value} {rest : List Value} {idx : Nat} {post : Int32 → gX → Prop} (hM : Ct F.2.1 S y cc2 nL2 rt fr lo [a0, a1, a2, a3] X 0 0 (pI S post)) (hk : MLN own idx y cc2 nL2 rt 4) (hroom : fr + 1 ≤ rm.frames ∧ 8 + (nL2 + 11) + lo ≤ rm.locals) (hW : (rest.map fun v => v.category).sum ≤ 8) (d : decode cc pc = .ok (.invokestatic idx, 3)) (hp : pc + 3 = pc') (hf : K.1 ≤ rm.cells ∧ K.2 ≤ rm.slots) (kk : ∀ v X', post v X' → G F S K X' pc' ls (.int v :: rest)) : G F S K X pc ls (a3 :: a2 :: a1 :: a0 :: rest) :=
  g_callN0 hC (as := [a0, a1, a2, a3]) (rest := rest) hM hk hroom rfl rfl hW d hp hf (fun S' r X' h => by obtain ⟨rfl, -⟩ := h; exact fun _ _ => rfl) (fun S' r X' h => by obtain ⟨rfl, v, rfl, hp⟩ := h; exact kk v X' hp)
theorem g_callN4V (hC : Cx F own cc nL rm) {y : MethodName} {cc2 : ByteArray} {nL2 : Nat} {rt : Option FieldType} {fr lo : Nat} {a0 a1 a2 a3 : Value} {rest : List Value} {idx : Nat} {post : gX → Prop} (hM : Ct F.2.1 S y cc2 nL2 rt fr lo [a0, a1, a2, a3] X 0 0 (pV S post)) (hk : MLN own idx y cc2 nL2 rt 4) (hroom : fr + 1 ≤ rm.frames ∧ 8 + (nL2 + 11) + lo ≤ rm.locals) (hW : (rest.map fun v => v.category).sum ≤ 8) (d : decode cc pc = .ok (.invokestatic idx, 3)) (hp : pc + 3 = pc') (hf : K.1 ≤ rm.cells ∧ K.2 ≤ rm.slots) (kk : ∀ X', post X' → G F S K X' pc' ls rest) : G F S K X pc ls (a3 :: a2 :: a1 :: a0 :: rest) :=
  g_callN0 hC (as := [a0, a1, a2, a3]) (rest := rest) hM hk hroom rfl rfl hW d hp hf (fun S' r X' h => by obtain ⟨rfl, -⟩ := h; exact fun _ _ => rfl) (fun S' r X' h => by obtain ⟨rfl, rfl, hp⟩ := h; exact kk X' hp)
end
