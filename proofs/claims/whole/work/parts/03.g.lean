/-! The judgement G: the machine at a place of a method, over ONE world of cells: a shape (which cell is what), addresses, and numbers X cell place. -/
def TB : List Cond := lw_tbl.filter goodWord
theorem tb_in {w : Cond} (h : w ∈ lw_tbl) (hg : goodWord w = true) : w ∈ TB := List.mem_filter.mpr ⟨h, hg⟩
theorem tb_good : ∀ w ∈ TB, goodWord w = true := fun _ h => (List.mem_filter.mp h).2
abbrev gE : Type := (Nat × List (Option (Option Nat))) ⊕ (Nat × Nat × List Nat)
abbrev gS : Type := Nat × (Nat → gE) × (Nat → Nat)
abbrev gX : Type := Nat → Nat → Int32
abbrev gL : Type := va_G × (Nat → ClassId)
abbrev gF : Type := Program × Launch × Env × Room × State × MethodId × Array Value × List Frame × Method × Code × gL × (Nat → Prop) × (State → Prop)
abbrev gCl : List vw_C := [(RX0, TX0, 2), (RX1, TX1, 5), (RX2, TX2, 2), (RX3, TX3, 5), (RX4, TX4, 5), (RX5, TX5, 8), (RX6, TX6, 8), (RX7, TX7, 19)]
def gfv (S : gS) (X : gX) (id k : Nat) : Option (Option Nat) → Value
  | none => .int (X id k)
  | some none => .null
  | some (some r) => .ref (S.2.2 r)
def gcell (Γ : gL) (S : gS) (X : gX) (id : Nat) : gE → va_E
  | .inl (ci, fs) => .inr (ci, (List.range fs.length).map (fun k => gfv S X id k ((fs[k]?).getD none)))
  | .inr (t, n, l) => .inl (Γ.2 (if t = 5 then 3 else t), n, if t < 3 then .inl (X id) else .inr (.inr (.inr (.inr (fun j => (l[if t = 5 then (X id j).toNatClampNeg else j]?).map S.2.2)))))
def gws (Γ : gL) (S : gS) (X : gX) : va_W := (List.range S.1).map (fun id => (S.2.2 id, gcell Γ S X id (S.2.1 id)))
def gty (Γ : gL) : List (ClassId × FieldType) := [(Γ.2 0, .int), (Γ.2 1, .char), (Γ.2 2, .boolean), (Γ.2 3, .object RX4), (Γ.2 4, .object RX3)]
/-- the cell id is of this shape -/
def gat (S : gS) (id : Nat) (e : gE) : Prop := id < S.1 ∧ S.2.1 id = e
def grefs : gE → List Nat
  | .inl (_, fs) => fs.filterMap (fun o => match o with | some (some r) => some r | _ => none)
  | .inr (_, _, l) => l
/-- every reference that the world holds is a cell of it -/
def gcl (S : gS) : Prop := ∀ id, id < S.1 → ∀ r ∈ grefs (S.2.1 id), r < S.1
/-- the links between nest mates, by the tables -/
def NW : List (String × Nat × MethodName × String) := [(RX4, 31, yX3_init, RX6), (RX6, 21, yX5_init, RX6), (RX6, 43, yX2_init, RX6), (RX6, 50, yX1_init, RX6), (RX4, 55, yX6_isField, RX6), (RX4, 58, yX6_isValue, RX6), (RX4, 61, yX6_isPressure, RX6), (RX2, 21, yX6_isWithin, RX6), (RX1, 50, yX6_isPressure, RX6)]
def gK (Γ : gL) (U : State) : Prop := va_K Γ.1 gCl (gty Γ) U ∧ (va_AO RX3 U ∧ va_AO RX4 U) ∧ ∀ q ∈ NW, va_Nw (.methodLinkNest q.1 q.2.1 q.2.2.1 q.2.2.2) U
theorem gK.moved {Γ : gL} {u U : State} (hW : u.WarmedH U.vm) (h : gK Γ u) : gK Γ U := ⟨va_K.moved hW.alike h.1, ⟨va_AO.moved hW.alike h.2.1.1, va_AO.moved hW.alike h.2.1.2⟩, fun q hq => va_Nw.warmM hW (h.2.2 q hq)⟩
theorem gK.same {Γ : gL} {u U : State} (hv : u.vm = U.vm) (h : gK Γ u) : gK Γ U := by
  have ha : u.vm.Alike U.vm := by rw [hv]; exact Vm.Alike.refl _
  exact ⟨va_K.moved ha h.1, ⟨va_AO.moved ha h.2.1.1, va_AO.moved ha h.2.1.2⟩, fun q hq => va_Nw.same rfl hv (h.2.2 q hq)⟩
def cv (S : gS) : Value → Value
  | .ref r => .ref (S.2.2 r)
  | v => v
theorem cv_cat (S : gS) (v : Value) : (cv S v).category = v.category := by cases v <;> rfl
def gLoc (S : gS) (L : Array Slot) (nL : Nat) (ls : List Value) : Prop := L.size = nL ∧ lv_wf L ∧ ∀ (i : Nat) (v : Value), ls[i]? = some v → v ≠ .null → L[i]? = some (.val (cv S v))
def G (F : gF) (S : gS) (K : Nat × Nat) (X : gX) (pc : Nat) (ls st : List Value) : Prop := match F with
  | (p, l, e, R, s, m, args, below, meth, c, Γ, A, Q) => ∀ (H : Heap) (locs : List Loc) (L : Array Slot), gLoc S L c.maxLocals ls → gcl S → va_P Γ.1 gCl (gws Γ S X) H → va_D A (gws Γ S X) → va_S A s.heap H locs → W p l e R s m args below meth c H locs K.1 K.2 Q (F0 m pc L (st.map (cv S)))
def Cx (F : gF) (own : String) (cc : ByteArray) (nL : Nat) (rm : Room) : Prop := match F with
  | (p, _, _, R, s, m, args, _, meth, c, Γ, A, _) => p.tables.exec = Jvm.exec ∧ c.code = cc ∧ c.maxLocals = nL ∧ s.vm.findClass own = some m.cls ∧ (∀ w ∈ TB, w.before args s = true) ∧ meth.locks = false ∧ R = rm ∧ gK Γ s ∧ ∀ q : Nat, s.heap.size ≤ q → A q
def gQ (Γ : gL) (A : Nat → Prop) (post : gS → Option Value → gX → Prop) : Array Value → State → Outcome → State → Prop := fun _ st o t =>
  (∃ (S' : gS) (r : Option Value) (X' : gX), o = .returned (r.map (cv S')) ∧ post S' r X' ∧ gcl S' ∧ va_P Γ.1 gCl (gws Γ S' X') t.heap ∧ va_D A (gws Γ S' X')) ∧ va_F A st t
def Rt (F : gF) (rt : Option FieldType) (mc ms : Nat) (post : gS → Option Value → gX → Prop) : Prop := match F with
  | (_, _, _, _, s, _, args, below, meth, _, Γ, A, Q) => meth.sig.returnType = rt ∧ Q = MQ below (gQ Γ A post) args s mc ms A
def gPc (Γ : gL) (A : Nat → Prop) (S : gS) (X : gX) (as : List Value) : Array Value → State → Prop := va_Pc (as.map (cv S)) (fun U => va_P Γ.1 gCl (gws Γ S X) U.heap ∧ gK Γ U ∧ gcl S ∧ va_D A (gws Γ S X) ∧ ∀ q : Nat, U.heap.size ≤ q → A q)
/-- a contract: from every heap that holds the world (S, X), with the arguments as, the method returns, and post holds of the world and the answer behind it -/
def Ct (l : Launch) (S : gS) (y : MethodName) (cc : ByteArray) (nL : Nat) (rt : Option FieldType) (fr lo : Nat) (as : List Value) (X : gX) (mc ms : Nat) (post : gS → Option Value → gX → Prop) : Prop :=
  ∀ (Γ : gL) (A : Nat → Prop), Met l y (.code y cc nL rt :: TB) { frames := fr, cells := mc, slots := ms, locals := lo } (gPc Γ A S X as) (gQ Γ A post) mc ms A
/-- the post of a method that makes nothing and answers an int (or boolean) -/
def pI (S : gS) (post : Int32 → gX → Prop) : gS → Option Value → gX → Prop := fun S' r X' => S' = S ∧ ∃ v, r = some (.int v) ∧ post v X'
def pV (S : gS) (post : gX → Prop) : gS → Option Value → gX → Prop := fun S' r X' => S' = S ∧ r = none ∧ post X'
def zI (b : Bool) : Int32 := if b then 1 else 0
/-! the world's list -/
theorem gws_at {Γ : gL} {S : gS} {X : gX} {id : Nat} {e : gE} (h : gat S id e) : (gws Γ S X)[id]? = some (S.2.2 id, gcell Γ S X id e) := by
  unfold gws
  rw [List.getElem?_map, List.getElem?_range h.1]
  show some (S.2.2 id, gcell Γ S X id (S.2.1 id)) = _
  rw [h.2]
theorem gcell_congr {Γ : gL} {S : gS} {X X' : gX} {id : Nat} (h : X id = X' id) (e : gE) : gcell Γ S X id e = gcell Γ S X' id e := by
  rcases e with ⟨ci, fs⟩ | ⟨t, n, l⟩
  · have : (fun k => gfv S X id k ((fs[k]?).getD none)) = (fun k => gfv S X' id k ((fs[k]?).getD none)) := by
      funext k
      rcases (fs[k]?).getD none with _ | _ | r
      · simp only [gfv, h]
      · rfl
      · rfl
    simp only [gcell, this]
  · simp only [gcell, h]
theorem gws_len {Γ : gL} {S : gS} {X : gX} : (gws Γ S X).length = S.1 := by simp [gws]
theorem gws_set {Γ : gL} {S : gS} {X X' : gX} {id : Nat} {e : gE} (h : gat S id e) (ho : ∀ i, i ≠ id → X' i = X i) : (gws Γ S X).set id (S.2.2 id, gcell Γ S X' id e) = gws Γ S X' := by
  apply List.ext_getElem?
  intro i
  by_cases hi : i = id
  · subst hi
    rw [List.getElem?_set_self (by rw [gws_len]; exact h.1), gws_at h]
  · rw [List.getElem?_set_ne (Ne.symm hi)]
    by_cases hil : i < S.1
    · rw [gws_at ⟨hil, rfl⟩, gws_at ⟨hil, rfl⟩, gcell_congr (ho i hi).symm]
    · rw [List.getElem?_eq_none (by rw [gws_len]; omega), List.getElem?_eq_none (by rw [gws_len]; omega)]
theorem gcell_i {Γ : gL} {S : gS} {X : gX} {id t n : Nat} {l : List Nat} (ht : t < 3) : gcell Γ S X id (.inr (t, n, l)) = .inl (Γ.2 t, n, .inl (X id)) := by
  have h5 : t ≠ 5 := by omega
  simp [gcell, ht, h5]
theorem gcell_q {Γ : gL} {S : gS} {X : gX} {id t n : Nat} {l : List Nat} (ht : ¬ t < 3 ∧ t ≠ 5) : gcell Γ S X id (.inr (t, n, l)) = .inl (Γ.2 t, n, .inr (.inr (.inr (.inr (fun j => (l[j]?).map S.2.2))))) := by simp [gcell, ht.1, ht.2]
/-- kind 5: an array of states whose places are written anew: X says which of the list lies where -/
theorem gcell_5 {Γ : gL} {S : gS} {X : gX} {id n : Nat} {l : List Nat} : gcell Γ S X id (.inr (5, n, l)) = .inl (Γ.2 3, n, .inr (.inr (.inr (.inr (fun j => (l[(X id j).toNatClampNeg]?).map S.2.2))))) := by simp [gcell]
def gu (X : gX) (id j : Nat) (x : Int32) : gX := fun i => if i = id then upd (X id) j x else X i
theorem gu_self {X : gX} {id j : Nat} {x : Int32} : gu X id j x id = upd (X id) j x := by simp [gu]
theorem gu_ne {X : gX} {id j : Nat} {x : Int32} : ∀ i, i ≠ id → gu X id j x i = X i := fun i h => by simp [gu, h]
theorem gu_at {X : gX} {id j : Nat} {x : Int32} : gu X id j x id j = x := by simp [gu, upd]
theorem gu_other {X : gX} {id j i k : Nat} {x : Int32} (h : ¬ (i = id ∧ k = j)) : gu X id j x i k = X i k := by
  by_cases hi : i = id
  · subst hi
    have hk : k ≠ j := fun e => h ⟨rfl, e⟩
    simp [gu, upd, hk]
  · simp [gu, hi]
/-! locals -/
def gent : List Value → List Value
  | [] => []
  | v :: vs => if v.category = 2 then v :: .null :: gent vs else v :: gent vs
theorem gent_in (S : gS) : ∀ (vs : List Value) (b i : Nat) (v : Value), (gent vs)[i]? = some v → v ≠ .null → (b + i, cv S v) ∈ lv_args b (vs.map (cv S)) := by
  intro vs
  induction vs with
  | nil => intro b i v h; simp [gent] at h
  | cons a vs ih =>
    intro b i v h hv
    simp only [List.map_cons, lv_args, cv_cat]
    by_cases hc : a.category = 2
    · simp only [gent, hc, if_true] at h ⊢
      match i, h with
      | 0, h => simp at h; subst h; exact List.mem_cons_self
      | 1, h => simp at h; exact absurd h.symm hv
      | i + 2, h =>
        simp at h
        have := ih (b + 2) i v h hv
        rw [show b + 2 + i = b + (i + 2) by omega] at this
        exact List.mem_cons_of_mem _ this
    · simp only [gent, hc, if_false] at h ⊢
      match i, h with
      | 0, h => simp at h; subst h; exact List.mem_cons_self
      | i + 1, h =>
        simp at h
        have := ih (b + 1) i v h hv
        rw [show b + 1 + i = b + (i + 1) by omega] at this
        exact List.mem_cons_of_mem _ this
theorem gent_len (S : gS) : ∀ (vs : List Value), (lg_sl (vs.map (cv S))).length = (gent vs).length := by
  intro vs
  induction vs with
  | nil => rfl
  | cons a vs ih =>
    have e : lg_sl ((a :: vs).map (cv S)) = (if a.category = 2 then [.val (cv S a), .second] else [.val (cv S a)]) ++ lg_sl (vs.map (cv S)) := by
      simp [lg_sl, cv_cat]
    rw [e, List.length_append, ih]
    by_cases hc : a.category = 2
    · simp [gent, hc]; omega
    · simp [gent, hc]; omega
theorem gLoc_entry {S : gS} {as ls : List Value} {nL k : Nat} (h0 : gent as ++ List.replicate k .null = ls) (hk : (gent as).length ≤ nL) :
    gLoc S ((lg_sl (as.map (cv S)) ++ List.replicate (nL - (lg_sl (as.map (cv S))).length) Slot.unset).toArray) nL ls := by
  have h := lv_entry (as.map (cv S)) (n := nL) (by rw [gent_len]; exact hk)
  refine ⟨h.1, h.2.1, fun i v hi hv => ?_⟩
  subst h0
  by_cases hl : i < (gent as).length
  · rw [List.getElem?_append_left hl] at hi
    have := gent_in S as 0 i v hi hv
    rw [Nat.zero_add] at this
    exact h.2.2 _ this
  · rw [List.getElem?_append_right (by omega)] at hi
    have := List.mem_of_getElem? hi
    exact absurd (List.eq_of_mem_replicate this) hv
def gass (S : gS) (ls : List Value) : List (Nat × Value) := (List.range ls.length).filterMap (fun i => match ls[i]? with | none => none | some Value.null => none | some v => some (i, cv S v))
theorem gass_mem {S : gS} {ls : List Value} {i : Nat} {v : Value} (h : ls[i]? = some v) (hv : v ≠ .null) : (i, cv S v) ∈ gass S ls := by
  have hl : i < ls.length := (List.getElem?_eq_some_iff.mp h).1
  refine List.mem_filterMap.mpr ⟨i, List.mem_range.mpr hl, ?_⟩
  rw [h]
  cases v with
  | null => exact absurd rfl hv
  | _ => rfl
theorem gass_has {S : gS} {L : Array Slot} {nL : Nat} {ls : List Value} (h : gLoc S L nL ls) : lv_has L nL (gass S ls) := by
  refine ⟨h.1, h.2.1, fun q hq => ?_⟩
  obtain ⟨i, -, hi⟩ := List.mem_filterMap.mp hq
  cases hv : ls[i]? with
  | none => rw [hv] at hi; cases hi
  | some v =>
    rw [hv] at hi
    have hn : v ≠ .null := by intro e; subst e; cases hi
    have : q = (i, cv S v) := by
      cases v with
      | null => exact absurd rfl hn
      | _ => exact (Option.some.inj hi).symm
    subst this
    exact h.2.2 i v hv hn
/-- what a store of one slot leaves -/
theorem gLoc_st1 {S : gS} {L' : Array Slot} {nL i : Nat} {ls : List Value} {v : Value} (h : lv_has L' nL ((i, cv S v) :: (gass S ls).filter (fun q => !(q.1 == i) && !(q.1 + 1 == i && q.2.category == 2)))) (hc : ∀ w, ls[i - 1]? = some w → 0 < i → w.category = 1) : gLoc S L' nL (ls.set i v) := by
  refine ⟨h.1, h.2.1, fun j w hj hw => ?_⟩
  by_cases hji : j = i
  · subst hji
    rw [List.getElem?_set] at hj
    split at hj
    · split at hj
      · cases hj; exact h.2.2 _ List.mem_cons_self
      · cases hj
    · exact absurd rfl ‹_›
  · rw [List.getElem?_set_ne (Ne.symm hji)] at hj
    refine h.2.2 (j, cv S w) (List.mem_cons_of_mem _ (List.mem_filter.mpr ⟨gass_mem hj hw, ?_⟩))
    by_cases hji1 : j + 1 = i
    · have h1 := hc w (by rw [← hji1]; simpa using hj) (by omega)
      simp [cv_cat, h1, hji]
    · simp [hji, hji1]
theorem gLoc_st2 {S : gS} {L' : Array Slot} {nL i : Nat} {ls : List Value} {v : Value} (h : lv_has L' nL ((i, cv S v) :: (gass S ls).filter (fun q => !(q.1 == i) && (!(q.1 == i + 1) && !(q.1 + 1 == i && q.2.category == 2))))) (hc : ∀ w, ls[i - 1]? = some w → 0 < i → w.category = 1) : gLoc S L' nL ((ls.set i v).set (i + 1) .null) := by
  refine ⟨h.1, h.2.1, fun j w hj hw => ?_⟩
  by_cases hj2 : j = i + 1
  · subst hj2
    rw [List.getElem?_set] at hj
    split at hj
    · split at hj
      · cases hj; exact absurd rfl hw
      · cases hj
    · exact absurd rfl ‹_›
  · rw [List.getElem?_set_ne (Ne.symm hj2)] at hj
    by_cases hji : j = i
    · subst hji
      rw [List.getElem?_set] at hj
      split at hj
      · split at hj
        · cases hj; exact h.2.2 _ List.mem_cons_self
        · cases hj
      · exact absurd rfl ‹_›
    · rw [List.getElem?_set_ne (Ne.symm hji)] at hj
      refine h.2.2 (j, cv S w) (List.mem_cons_of_mem _ (List.mem_filter.mpr ⟨gass_mem hj hw, ?_⟩))
      by_cases hji1 : j + 1 = i
      · have h1 := hc w (by rw [← hji1]; simpa using hj) (by omega)
        simp [cv_cat, h1, hji, hj2]
      · simp [hji, hji1, hj2]
/-! opening a contract -/
theorem Ct.of {l : Launch} {S : gS} {y : MethodName} {cc : ByteArray} {nL : Nat} {rt : Option FieldType} {fr lo : Nat} {as : List Value} {X : gX} {mc ms : Nat} {post : gS → Option Value → gX → Prop} (ls : List Value) (k : Nat) (hy : plainName y.cls = true) (h0 : gent as ++ List.replicate k .null = ls) (hk : (gent as).length ≤ nL)
    (body : ∀ (F : gF), F.2.1 = l → Cx F y.cls cc nL { frames := fr, cells := mc, slots := ms, locals := lo } → Rt F rt mc ms post → (y.name = "<init>" → F.2.2.2.2.2.2.2.2.1.name = "<init>") → G F S (0, 0) X 0 ls []) : Ct l S y cc nL rt fr lo as X mc ms post := by
  intro Γ A
  refine Met.ofW (cc := cc) (maxL := nL) (ret := rt) hy rfl ?_
  intro p e s m args below meth c s₁ B hml hv
  obtain ⟨rfl, hP, hK, hc0, hD, hA⟩ := hv
  have hts0 := atoms_spec (ws := .code y cc nL rt :: TB) B.pre
  have hown : s.vm.findClass y.cls = some m.cls := findClass_of_methodNamed B.named
  have g := body (p, l, e, { frames := fr, cells := mc, slots := ms, locals := lo }, s, m, (as.map (cv S)).toArray, below, meth, c, Γ, A, MQ below (gQ Γ A post) (as.map (cv S)).toArray s mc ms A) rfl
    ⟨B.exec, B.bytes, hml, hown, fun w hw => hts0 w (List.mem_cons_of_mem _ hw), B.notSynchronized, rfl, hK, hA⟩ ⟨B.returns, rfl⟩ (fun hi => by
      have := (name_of_methodNamed B.named B.method).1
      exact this.trans hi)
  rw [lg_entry_eq]
  refine g s.heap [] _ ?_ hc0 hP hD va_S.rf
  rw [hml]
  exact gLoc_entry h0 hk
section
variable {F : gF} {own : String} {cc : ByteArray} {nL : Nat} {rm : Room} {S : gS} {K : Nat × Nat} {X : gX} {pc pc' : Nat} {ls st : List Value}

theorem g_iconst (hC : Cx F own cc nL rm) {n : Int} {v : Int32} (d : decode cc pc = .ok (.iconst n, 1)) (hv : Int32.ofInt n = v) (hp : pc + 1 = pc') (k : G F S K X pc' ls (.int v :: st)) : G F S K X pc ls (st) := by
  obtain ⟨p, l, e, R, s, m, args, below, meth, c, Γ, A, Q⟩ := F
  obtain ⟨hx, hb, hml, hown, hts, hlk, rfl, hK, hA⟩ := hC
  subst hp
  intro H locs L hL hc0 hP hD hS
  exact lv_iconst hx hb d hv (k H locs L hL hc0 hP hD hS)
theorem g_bipush (hC : Cx F own cc nL rm) {n : Int} {v : Int32} (d : decode cc pc = .ok (.bipush n, 2)) (hv : (Int8.ofInt n).toInt32 = v) (hp : pc + 2 = pc') (k : G F S K X pc' ls (.int v :: st)) : G F S K X pc ls (st) := by
  obtain ⟨p, l, e, R, s, m, args, below, meth, c, Γ, A, Q⟩ := F
  obtain ⟨hx, hb, hml, hown, hts, hlk, rfl, hK, hA⟩ := hC
  subst hp
  intro H locs L hL hc0 hP hD hS
  exact lv_bipush hx hb d hv (k H locs L hL hc0 hP hD hS)
theorem g_sipush (hC : Cx F own cc nL rm) {n : Int} {v : Int32} (d : decode cc pc = .ok (.sipush n, 3)) (hv : (Int16.ofInt n).toInt32 = v) (hp : pc + 3 = pc') (k : G F S K X pc' ls (.int v :: st)) : G F S K X pc ls (st) := by
  obtain ⟨p, l, e, R, s, m, args, below, meth, c, Γ, A, Q⟩ := F
  obtain ⟨hx, hb, hml, hown, hts, hlk, rfl, hK, hA⟩ := hC
  subst hp
  intro H locs L hL hc0 hP hD hS
  exact lv_sipush hx hb d hv (k H locs L hL hc0 hP hD hS)
theorem g_lconst (hC : Cx F own cc nL rm) {n : Fin 2} {v : Int64} (d : decode cc pc = .ok (.lconst n, 1)) (hv : Int64.ofNat (n : Nat) = v) (hp : pc + 1 = pc') (k : G F S K X pc' ls (.long v :: st)) : G F S K X pc ls (st) := by
  obtain ⟨p, l, e, R, s, m, args, below, meth, c, Γ, A, Q⟩ := F
  obtain ⟨hx, hb, hml, hown, hts, hlk, rfl, hK, hA⟩ := hC
  subst hp
  intro H locs L hL hc0 hP hD hS
  exact lv_lconst hx hb d hv (k H locs L hL hc0 hP hD hS)
theorem g_iadd (hC : Cx F own cc nL rm) {x y : Int32} (d : decode cc pc = .ok (.iadd, 1)) (hp : pc + 1 = pc') (k : G F S K X pc' ls (.int (x + y) :: st)) : G F S K X pc ls (.int y :: .int x :: st) := by
  obtain ⟨p, l, e, R, s, m, args, below, meth, c, Γ, A, Q⟩ := F
  obtain ⟨hx, hb, hml, hown, hts, hlk, rfl, hK, hA⟩ := hC
  subst hp
  intro H locs L hL hc0 hP hD hS
  exact lv_iadd hx hb d (k H locs L hL hc0 hP hD hS)
theorem g_isub (hC : Cx F own cc nL rm) {x y : Int32} (d : decode cc pc = .ok (.isub, 1)) (hp : pc + 1 = pc') (k : G F S K X pc' ls (.int (x - y) :: st)) : G F S K X pc ls (.int y :: .int x :: st) := by
  obtain ⟨p, l, e, R, s, m, args, below, meth, c, Γ, A, Q⟩ := F
  obtain ⟨hx, hb, hml, hown, hts, hlk, rfl, hK, hA⟩ := hC
  subst hp
  intro H locs L hL hc0 hP hD hS
  exact lv_isub hx hb d (k H locs L hL hc0 hP hD hS)
theorem g_imul (hC : Cx F own cc nL rm) {x y : Int32} (d : decode cc pc = .ok (.imul, 1)) (hp : pc + 1 = pc') (k : G F S K X pc' ls (.int (x * y) :: st)) : G F S K X pc ls (.int y :: .int x :: st) := by
  obtain ⟨p, l, e, R, s, m, args, below, meth, c, Γ, A, Q⟩ := F
  obtain ⟨hx, hb, hml, hown, hts, hlk, rfl, hK, hA⟩ := hC
  subst hp
  intro H locs L hL hc0 hP hD hS
  exact lv_imul hx hb d (k H locs L hL hc0 hP hD hS)
theorem g_iand (hC : Cx F own cc nL rm) {x y : Int32} (d : decode cc pc = .ok (.iand, 1)) (hp : pc + 1 = pc') (k : G F S K X pc' ls (.int (x &&& y) :: st)) : G F S K X pc ls (.int y :: .int x :: st) := by
  obtain ⟨p, l, e, R, s, m, args, below, meth, c, Γ, A, Q⟩ := F
  obtain ⟨hx, hb, hml, hown, hts, hlk, rfl, hK, hA⟩ := hC
  subst hp
  intro H locs L hL hc0 hP hD hS
  exact lv_iand hx hb d (k H locs L hL hc0 hP hD hS)
theorem g_ior (hC : Cx F own cc nL rm) {x y : Int32} (d : decode cc pc = .ok (.ior, 1)) (hp : pc + 1 = pc') (k : G F S K X pc' ls (.int (x ||| y) :: st)) : G F S K X pc ls (.int y :: .int x :: st) := by
  obtain ⟨p, l, e, R, s, m, args, below, meth, c, Γ, A, Q⟩ := F
  obtain ⟨hx, hb, hml, hown, hts, hlk, rfl, hK, hA⟩ := hC
  subst hp
  intro H locs L hL hc0 hP hD hS
  exact lv_ior hx hb d (k H locs L hL hc0 hP hD hS)
theorem g_ishl (hC : Cx F own cc nL rm) {x y : Int32} (d : decode cc pc = .ok (.ishl, 1)) (hp : pc + 1 = pc') (k : G F S K X pc' ls (.int (x <<< (y &&& 31)) :: st)) : G F S K X pc ls (.int y :: .int x :: st) := by
  obtain ⟨p, l, e, R, s, m, args, below, meth, c, Γ, A, Q⟩ := F
  obtain ⟨hx, hb, hml, hown, hts, hlk, rfl, hK, hA⟩ := hC
  subst hp
  intro H locs L hL hc0 hP hD hS
  exact lv_ishl hx hb d (k H locs L hL hc0 hP hD hS)
theorem g_ishr (hC : Cx F own cc nL rm) {x y : Int32} (d : decode cc pc = .ok (.ishr, 1)) (hp : pc + 1 = pc') (k : G F S K X pc' ls (.int (x >>> (y &&& 31)) :: st)) : G F S K X pc ls (.int y :: .int x :: st) := by
  obtain ⟨p, l, e, R, s, m, args, below, meth, c, Γ, A, Q⟩ := F
  obtain ⟨hx, hb, hml, hown, hts, hlk, rfl, hK, hA⟩ := hC
  subst hp
  intro H locs L hL hc0 hP hD hS
  exact lv_ishr hx hb d (k H locs L hL hc0 hP hD hS)
theorem g_idiv (hC : Cx F own cc nL rm) {x y : Int32} (d : decode cc pc = .ok (.idiv, 1)) (hne : ¬ y = 0) (hp : pc + 1 = pc') (k : G F S K X pc' ls (.int (x / y) :: st)) : G F S K X pc ls (.int y :: .int x :: st) := by
  obtain ⟨p, l, e, R, s, m, args, below, meth, c, Γ, A, Q⟩ := F
  obtain ⟨hx, hb, hml, hown, hts, hlk, rfl, hK, hA⟩ := hC
  subst hp
  intro H locs L hL hc0 hP hD hS
  exact lv_idiv hx hb d hne (k H locs L hL hc0 hP hD hS)
theorem g_irem (hC : Cx F own cc nL rm) {x y : Int32} (d : decode cc pc = .ok (.irem, 1)) (hne : ¬ y = 0) (hp : pc + 1 = pc') (k : G F S K X pc' ls (.int (x - x / y * y) :: st)) : G F S K X pc ls (.int y :: .int x :: st) := by
  obtain ⟨p, l, e, R, s, m, args, below, meth, c, Γ, A, Q⟩ := F
  obtain ⟨hx, hb, hml, hown, hts, hlk, rfl, hK, hA⟩ := hC
  subst hp
  intro H locs L hL hc0 hP hD hS
  exact lv_irem hx hb d hne (k H locs L hL hc0 hP hD hS)
theorem g_land (hC : Cx F own cc nL rm) {x y : Int64} (d : decode cc pc = .ok (.land, 1)) (hp : pc + 1 = pc') (k : G F S K X pc' ls (.long (x &&& y) :: st)) : G F S K X pc ls (.long y :: .long x :: st) := by
  obtain ⟨p, l, e, R, s, m, args, below, meth, c, Γ, A, Q⟩ := F
  obtain ⟨hx, hb, hml, hown, hts, hlk, rfl, hK, hA⟩ := hC
  subst hp
  intro H locs L hL hc0 hP hD hS
  exact lv_land hx hb d (k H locs L hL hc0 hP hD hS)
theorem g_lor (hC : Cx F own cc nL rm) {x y : Int64} (d : decode cc pc = .ok (.lor, 1)) (hp : pc + 1 = pc') (k : G F S K X pc' ls (.long (x ||| y) :: st)) : G F S K X pc ls (.long y :: .long x :: st) := by
  obtain ⟨p, l, e, R, s, m, args, below, meth, c, Γ, A, Q⟩ := F
  obtain ⟨hx, hb, hml, hown, hts, hlk, rfl, hK, hA⟩ := hC
  subst hp
  intro H locs L hL hc0 hP hD hS
  exact lv_lor hx hb d (k H locs L hL hc0 hP hD hS)
theorem g_lshl (hC : Cx F own cc nL rm) {x v : Int64} {y : Int32} (d : decode cc pc = .ok (.lshl, 1)) (hv : x <<< (y.toInt64 &&& 63) = v) (hp : pc + 1 = pc') (k : G F S K X pc' ls (.long v :: st)) : G F S K X pc ls (.int y :: .long x :: st) := by
  obtain ⟨p, l, e, R, s, m, args, below, meth, c, Γ, A, Q⟩ := F
  obtain ⟨hx, hb, hml, hown, hts, hlk, rfl, hK, hA⟩ := hC
  subst hp
  intro H locs L hL hc0 hP hD hS
  exact lv_lshl hx hb d hv (k H locs L hL hc0 hP hD hS)
theorem g_lushr (hC : Cx F own cc nL rm) {x v : Int64} {y : Int32} (d : decode cc pc = .ok (.lushr, 1)) (hv : (x.toUInt64 >>> (y.toInt64.toUInt64 &&& Int64.toUInt64 63)).toInt64 = v) (hp : pc + 1 = pc') (k : G F S K X pc' ls (.long v :: st)) : G F S K X pc ls (.int y :: .long x :: st) := by
  obtain ⟨p, l, e, R, s, m, args, below, meth, c, Γ, A, Q⟩ := F
  obtain ⟨hx, hb, hml, hown, hts, hlk, rfl, hK, hA⟩ := hC
  subst hp
  intro H locs L hL hc0 hP hD hS
  exact lv_lushr hx hb d hv (k H locs L hL hc0 hP hD hS)
theorem g_l2i (hC : Cx F own cc nL rm) {x : Int64} {v : Int32} (d : decode cc pc = .ok (.l2i, 1)) (hv : x.toInt32 = v) (hp : pc + 1 = pc') (k : G F S K X pc' ls (.int v :: st)) : G F S K X pc ls (.long x :: st) := by
  obtain ⟨p, l, e, R, s, m, args, below, meth, c, Γ, A, Q⟩ := F
  obtain ⟨hx, hb, hml, hown, hts, hlk, rfl, hK, hA⟩ := hC
  subst hp
  intro H locs L hL hc0 hP hD hS
  exact lv_l2i hx hb d hv (k H locs L hL hc0 hP hD hS)
theorem g_i2l (hC : Cx F own cc nL rm) {x : Int32} {v : Int64} (d : decode cc pc = .ok (.i2l, 1)) (hv : x.toInt64 = v) (hp : pc + 1 = pc') (k : G F S K X pc' ls (.long v :: st)) : G F S K X pc ls (.int x :: st) := by
  obtain ⟨p, l, e, R, s, m, args, below, meth, c, Γ, A, Q⟩ := F
  obtain ⟨hx, hb, hml, hown, hts, hlk, rfl, hK, hA⟩ := hC
  subst hp
  intro H locs L hL hc0 hP hD hS
  exact lv_i2l hx hb d hv (k H locs L hL hc0 hP hD hS)
theorem g_i2c (hC : Cx F own cc nL rm) {x v : Int32} (d : decode cc pc = .ok (.i2c, 1)) (hv : (x.toUInt32 % 65536).toInt32 = v) (hp : pc + 1 = pc') (k : G F S K X pc' ls (.int v :: st)) : G F S K X pc ls (.int x :: st) := by
  obtain ⟨p, l, e, R, s, m, args, below, meth, c, Γ, A, Q⟩ := F
  obtain ⟨hx, hb, hml, hown, hts, hlk, rfl, hK, hA⟩ := hC
  subst hp
  intro H locs L hL hc0 hP hD hS
  exact lv_i2c hx hb d hv (k H locs L hL hc0 hP hD hS)
theorem g_lcmp (hC : Cx F own cc nL rm) {x y : Int64} (d : decode cc pc = .ok (.lcmp, 1)) (hp : pc + 1 = pc') (k : G F S K X pc' ls (.int (lg_cmp x y) :: st)) : G F S K X pc ls (.long y :: .long x :: st) := by
  obtain ⟨p, l, e, R, s, m, args, below, meth, c, Γ, A, Q⟩ := F
  obtain ⟨hx, hb, hml, hown, hts, hlk, rfl, hK, hA⟩ := hC
  subst hp
  intro H locs L hL hc0 hP hD hS
  exact W.lcmp hx hb d (k H locs L hL hc0 hP hD hS)
theorem g_dup (hC : Cx F own cc nL rm) {v : Value} (d : decode cc pc = .ok (.dup, 1)) (hv : v.category = 1) (hp : pc + 1 = pc') (k : G F S K X pc' ls (v :: v :: st)) : G F S K X pc ls (v :: st) := by
  obtain ⟨p, l, e, R, s, m, args, below, meth, c, Γ, A, Q⟩ := F
  obtain ⟨hx, hb, hml, hown, hts, hlk, rfl, hK, hA⟩ := hC
  subst hp
  intro H locs L hL hc0 hP hD hS
  exact lv_dup hx hb d (by rw [cv_cat]; exact hv) (k H locs L hL hc0 hP hD hS)
theorem g_pop (hC : Cx F own cc nL rm) {v : Value} (d : decode cc pc = .ok (.pop, 1)) (hv : v.category = 1) (hp : pc + 1 = pc') (k : G F S K X pc' ls (st)) : G F S K X pc ls (v :: st) := by
  obtain ⟨p, l, e, R, s, m, args, below, meth, c, Γ, A, Q⟩ := F
  obtain ⟨hx, hb, hml, hown, hts, hlk, rfl, hK, hA⟩ := hC
  subst hp
  intro H locs L hL hc0 hP hD hS
  exact lv_pop hx hb d (by rw [cv_cat]; exact hv) (k H locs L hL hc0 hP hD hS)
theorem g_dup2 (hC : Cx F own cc nL rm) {v u : Value} (d : decode cc pc = .ok (.dup2, 1)) (hv : v.category = 1) (hu : u.category = 1) (hp : pc + 1 = pc') (k : G F S K X pc' ls (v :: u :: v :: u :: st)) : G F S K X pc ls (v :: u :: st) := by
  obtain ⟨p, l, e, R, s, m, args, below, meth, c, Γ, A, Q⟩ := F
  obtain ⟨hx, hb, hml, hown, hts, hlk, rfl, hK, hA⟩ := hC
  subst hp
  intro H locs L hL hc0 hP hD hS
  exact lv_dup2_11 hx hb d (by rw [cv_cat]; exact hv) (by rw [cv_cat]; exact hu) (k H locs L hL hc0 hP hD hS)
theorem g_ldc2 (hC : Cx F own cc nL rm) {i : Nat} {v : Int64} (hw : Cond.constantLong own i v ∈ TB) (d : decode cc pc = .ok (.ldc2_w i, 3)) (hp : pc + 3 = pc') (k : G F S K X pc' ls (.long v :: st)) : G F S K X pc ls st := by
  obtain ⟨p, l, e, R, s, m, args, below, meth, c, Γ, A, Q⟩ := F
  obtain ⟨hx, hb, hml, hown, hts, hlk, rfl, hK, hA⟩ := hC
  subst hp
  intro H locs L hL hc0 hP hD hS
  exact lv_ldc2 hx hb hown (hts _ hw) d (k H locs L hL hc0 hP hD hS)
theorem g_goto (hC : Cx F own cc nL rm) {off : Int} {tgt : Nat} (d : decode cc pc = .ok (.goto off, 3)) (ht : (pc : Int) + off = (tgt : Int)) (k : G F S K X tgt ls st) : G F S K X pc ls st := by
  obtain ⟨p, l, e, R, s, m, args, below, meth, c, Γ, A, Q⟩ := F
  obtain ⟨hx, hb, hml, hown, hts, hlk, rfl, hK, hA⟩ := hC
  intro H locs L hL hc0 hP hD hS
  exact lv_goto hx hb d ht (k H locs L hL hc0 hP hD hS)
theorem g_if_eq (hC : Cx F own cc nL rm) {x : Int32} {off : Int} {tgt : Nat} (d : decode cc pc = .ok (.ifCond .eq off, 3)) (ht : (pc : Int) + off = (tgt : Int)) (hp : pc + 3 = pc') (kt : x = 0 → G F S K X tgt ls st) (kf : ¬ x = 0 → G F S K X pc' ls st) : G F S K X pc ls (.int x :: st) := by
  obtain ⟨p, l, e, R, s, m, args, below, meth, c, Γ, A, Q⟩ := F
  obtain ⟨hx, hb, hml, hown, hts, hlk, rfl, hK, hA⟩ := hC
  subst hp
  intro H locs L hL hc0 hP hD hS
  exact lv_if_eq hx hb d ht (fun h => kt h H locs L hL hc0 hP hD hS) (fun h => kf h H locs L hL hc0 hP hD hS)
theorem g_icmp_eq (hC : Cx F own cc nL rm) {x y : Int32} {off : Int} {tgt : Nat} (d : decode cc pc = .ok (.if_icmp .eq off, 3)) (ht : (pc : Int) + off = (tgt : Int)) (hp : pc + 3 = pc') (kt : x = y → G F S K X tgt ls st) (kf : ¬ x = y → G F S K X pc' ls st) : G F S K X pc ls (.int y :: .int x :: st) := by
  obtain ⟨p, l, e, R, s, m, args, below, meth, c, Γ, A, Q⟩ := F
  obtain ⟨hx, hb, hml, hown, hts, hlk, rfl, hK, hA⟩ := hC
  subst hp
  intro H locs L hL hc0 hP hD hS
  exact lv_icmp_eq hx hb d ht (fun h => kt h H locs L hL hc0 hP hD hS) (fun h => kf h H locs L hL hc0 hP hD hS)
theorem g_if_ne (hC : Cx F own cc nL rm) {x : Int32} {off : Int} {tgt : Nat} (d : decode cc pc = .ok (.ifCond .ne off, 3)) (ht : (pc : Int) + off = (tgt : Int)) (hp : pc + 3 = pc') (kt : ¬ x = 0 → G F S K X tgt ls st) (kf : x = 0 → G F S K X pc' ls st) : G F S K X pc ls (.int x :: st) := by
  obtain ⟨p, l, e, R, s, m, args, below, meth, c, Γ, A, Q⟩ := F
  obtain ⟨hx, hb, hml, hown, hts, hlk, rfl, hK, hA⟩ := hC
  subst hp
  intro H locs L hL hc0 hP hD hS
  exact lv_if_ne hx hb d ht (fun h => kt h H locs L hL hc0 hP hD hS) (fun h => kf h H locs L hL hc0 hP hD hS)
theorem g_icmp_ne (hC : Cx F own cc nL rm) {x y : Int32} {off : Int} {tgt : Nat} (d : decode cc pc = .ok (.if_icmp .ne off, 3)) (ht : (pc : Int) + off = (tgt : Int)) (hp : pc + 3 = pc') (kt : ¬ x = y → G F S K X tgt ls st) (kf : x = y → G F S K X pc' ls st) : G F S K X pc ls (.int y :: .int x :: st) := by
  obtain ⟨p, l, e, R, s, m, args, below, meth, c, Γ, A, Q⟩ := F
  obtain ⟨hx, hb, hml, hown, hts, hlk, rfl, hK, hA⟩ := hC
  subst hp
  intro H locs L hL hc0 hP hD hS
  exact lv_icmp_ne hx hb d ht (fun h => kt h H locs L hL hc0 hP hD hS) (fun h => kf h H locs L hL hc0 hP hD hS)
theorem g_if_lt (hC : Cx F own cc nL rm) {x : Int32} {off : Int} {tgt : Nat} (d : decode cc pc = .ok (.ifCond .lt off, 3)) (ht : (pc : Int) + off = (tgt : Int)) (hp : pc + 3 = pc') (kt : x < 0 → G F S K X tgt ls st) (kf : ¬ x < 0 → G F S K X pc' ls st) : G F S K X pc ls (.int x :: st) := by
  obtain ⟨p, l, e, R, s, m, args, below, meth, c, Γ, A, Q⟩ := F
  obtain ⟨hx, hb, hml, hown, hts, hlk, rfl, hK, hA⟩ := hC
  subst hp
  intro H locs L hL hc0 hP hD hS
  exact lv_if_lt hx hb d ht (fun h => kt h H locs L hL hc0 hP hD hS) (fun h => kf h H locs L hL hc0 hP hD hS)
theorem g_icmp_lt (hC : Cx F own cc nL rm) {x y : Int32} {off : Int} {tgt : Nat} (d : decode cc pc = .ok (.if_icmp .lt off, 3)) (ht : (pc : Int) + off = (tgt : Int)) (hp : pc + 3 = pc') (kt : x < y → G F S K X tgt ls st) (kf : ¬ x < y → G F S K X pc' ls st) : G F S K X pc ls (.int y :: .int x :: st) := by
  obtain ⟨p, l, e, R, s, m, args, below, meth, c, Γ, A, Q⟩ := F
  obtain ⟨hx, hb, hml, hown, hts, hlk, rfl, hK, hA⟩ := hC
  subst hp
  intro H locs L hL hc0 hP hD hS
  exact lv_icmp_lt hx hb d ht (fun h => kt h H locs L hL hc0 hP hD hS) (fun h => kf h H locs L hL hc0 hP hD hS)
theorem g_if_ge (hC : Cx F own cc nL rm) {x : Int32} {off : Int} {tgt : Nat} (d : decode cc pc = .ok (.ifCond .ge off, 3)) (ht : (pc : Int) + off = (tgt : Int)) (hp : pc + 3 = pc') (kt : 0 ≤ x → G F S K X tgt ls st) (kf : ¬ 0 ≤ x → G F S K X pc' ls st) : G F S K X pc ls (.int x :: st) := by
  obtain ⟨p, l, e, R, s, m, args, below, meth, c, Γ, A, Q⟩ := F
  obtain ⟨hx, hb, hml, hown, hts, hlk, rfl, hK, hA⟩ := hC
  subst hp
  intro H locs L hL hc0 hP hD hS
  exact lv_if_ge hx hb d ht (fun h => kt h H locs L hL hc0 hP hD hS) (fun h => kf h H locs L hL hc0 hP hD hS)
theorem g_icmp_ge (hC : Cx F own cc nL rm) {x y : Int32} {off : Int} {tgt : Nat} (d : decode cc pc = .ok (.if_icmp .ge off, 3)) (ht : (pc : Int) + off = (tgt : Int)) (hp : pc + 3 = pc') (kt : y ≤ x → G F S K X tgt ls st) (kf : ¬ y ≤ x → G F S K X pc' ls st) : G F S K X pc ls (.int y :: .int x :: st) := by
  obtain ⟨p, l, e, R, s, m, args, below, meth, c, Γ, A, Q⟩ := F
  obtain ⟨hx, hb, hml, hown, hts, hlk, rfl, hK, hA⟩ := hC
  subst hp
  intro H locs L hL hc0 hP hD hS
  exact lv_icmp_ge hx hb d ht (fun h => kt h H locs L hL hc0 hP hD hS) (fun h => kf h H locs L hL hc0 hP hD hS)
theorem g_if_gt (hC : Cx F own cc nL rm) {x : Int32} {off : Int} {tgt : Nat} (d : decode cc pc = .ok (.ifCond .gt off, 3)) (ht : (pc : Int) + off = (tgt : Int)) (hp : pc + 3 = pc') (kt : 0 < x → G F S K X tgt ls st) (kf : ¬ 0 < x → G F S K X pc' ls st) : G F S K X pc ls (.int x :: st) := by
  obtain ⟨p, l, e, R, s, m, args, below, meth, c, Γ, A, Q⟩ := F
  obtain ⟨hx, hb, hml, hown, hts, hlk, rfl, hK, hA⟩ := hC
  subst hp
  intro H locs L hL hc0 hP hD hS
  exact lv_if_gt hx hb d ht (fun h => kt h H locs L hL hc0 hP hD hS) (fun h => kf h H locs L hL hc0 hP hD hS)
theorem g_icmp_gt (hC : Cx F own cc nL rm) {x y : Int32} {off : Int} {tgt : Nat} (d : decode cc pc = .ok (.if_icmp .gt off, 3)) (ht : (pc : Int) + off = (tgt : Int)) (hp : pc + 3 = pc') (kt : y < x → G F S K X tgt ls st) (kf : ¬ y < x → G F S K X pc' ls st) : G F S K X pc ls (.int y :: .int x :: st) := by
  obtain ⟨p, l, e, R, s, m, args, below, meth, c, Γ, A, Q⟩ := F
  obtain ⟨hx, hb, hml, hown, hts, hlk, rfl, hK, hA⟩ := hC
  subst hp
  intro H locs L hL hc0 hP hD hS
  exact lv_icmp_gt hx hb d ht (fun h => kt h H locs L hL hc0 hP hD hS) (fun h => kf h H locs L hL hc0 hP hD hS)
theorem g_if_le (hC : Cx F own cc nL rm) {x : Int32} {off : Int} {tgt : Nat} (d : decode cc pc = .ok (.ifCond .le off, 3)) (ht : (pc : Int) + off = (tgt : Int)) (hp : pc + 3 = pc') (kt : x ≤ 0 → G F S K X tgt ls st) (kf : ¬ x ≤ 0 → G F S K X pc' ls st) : G F S K X pc ls (.int x :: st) := by
  obtain ⟨p, l, e, R, s, m, args, below, meth, c, Γ, A, Q⟩ := F
  obtain ⟨hx, hb, hml, hown, hts, hlk, rfl, hK, hA⟩ := hC
  subst hp
  intro H locs L hL hc0 hP hD hS
  exact lv_if_le hx hb d ht (fun h => kt h H locs L hL hc0 hP hD hS) (fun h => kf h H locs L hL hc0 hP hD hS)
theorem g_icmp_le (hC : Cx F own cc nL rm) {x y : Int32} {off : Int} {tgt : Nat} (d : decode cc pc = .ok (.if_icmp .le off, 3)) (ht : (pc : Int) + off = (tgt : Int)) (hp : pc + 3 = pc') (kt : x ≤ y → G F S K X tgt ls st) (kf : ¬ x ≤ y → G F S K X pc' ls st) : G F S K X pc ls (.int y :: .int x :: st) := by
  obtain ⟨p, l, e, R, s, m, args, below, meth, c, Γ, A, Q⟩ := F
  obtain ⟨hx, hb, hml, hown, hts, hlk, rfl, hK, hA⟩ := hC
  subst hp
  intro H locs L hL hc0 hP hD hS
  exact lv_icmp_le hx hb d ht (fun h => kt h H locs L hL hc0 hP hD hS) (fun h => kf h H locs L hL hc0 hP hD hS)
theorem nI_ltD {a b : Nat} (ha : a < 2147483648) (hb : b < 2147483648) : nI a < nI b ↔ a < b := nI_ltI ha hb
theorem nI_leD {a b : Nat} (ha : a < 2147483648) (hb : b < 2147483648) : nI a ≤ nI b ↔ a ≤ b := nI_leI ha hb
theorem nI_eqD {a b : Nat} (ha : a < 2147483648) (hb : b < 2147483648) : nI a = nI b ↔ a = b := nI_eq ha hb
theorem nI_eq0 {a : Nat} (ha : a < 2147483648) : nI a = 0 ↔ a = 0 := by rw [← nI_0]; exact nI_eqD ha (by omega)
theorem nI_gt0 {a : Nat} (ha : a < 2147483648) : 0 < nI a ↔ 0 < a := by rw [← nI_0]; exact nI_ltD (by omega) ha
theorem nI_le0 {a : Nat} (ha : a < 2147483648) : nI a ≤ 0 ↔ a = 0 := by rw [← nI_0]; exact (nI_leD ha (by omega)).trans (by omega)
theorem zI_eq0 {b : Bool} : zI b = 0 ↔ b = false := by cases b <;> decide
theorem g_icmpN_eq (hC : Cx F own cc nL rm) {a b : Nat} {off : Int} {tgt : Nat} (d : decode cc pc = .ok (.if_icmp .eq off, 3)) (ht : (pc : Int) + off = (tgt : Int)) (hp : pc + 3 = pc') (ha : a < 2147483648) (hb : b < 2147483648) (kt : a = b → G F S K X tgt ls st) (kf : ¬ a = b → G F S K X pc' ls st) : G F S K X pc ls (.int (nI b) :: .int (nI a) :: st) := g_icmp_eq hC d ht hp (fun h => kt ((nI_eqD ha hb).mp h)) (fun h => kf (fun z => h ((nI_eqD ha hb).mpr z)))
theorem g_icmpN_ne (hC : Cx F own cc nL rm) {a b : Nat} {off : Int} {tgt : Nat} (d : decode cc pc = .ok (.if_icmp .ne off, 3)) (ht : (pc : Int) + off = (tgt : Int)) (hp : pc + 3 = pc') (ha : a < 2147483648) (hb : b < 2147483648) (kt : ¬ a = b → G F S K X tgt ls st) (kf : a = b → G F S K X pc' ls st) : G F S K X pc ls (.int (nI b) :: .int (nI a) :: st) := g_icmp_ne hC d ht hp (fun h => kt (fun z => h ((nI_eqD ha hb).mpr z))) (fun h => kf ((nI_eqD ha hb).mp (h)))
theorem g_icmpN_lt (hC : Cx F own cc nL rm) {a b : Nat} {off : Int} {tgt : Nat} (d : decode cc pc = .ok (.if_icmp .lt off, 3)) (ht : (pc : Int) + off = (tgt : Int)) (hp : pc + 3 = pc') (ha : a < 2147483648) (hb : b < 2147483648) (kt : a < b → G F S K X tgt ls st) (kf : b ≤ a → G F S K X pc' ls st) : G F S K X pc ls (.int (nI b) :: .int (nI a) :: st) := g_icmp_lt hC d ht hp (fun h => kt ((nI_ltD ha hb).mp h)) (fun h => kf (Nat.not_lt.mp fun z => h ((nI_ltD ha hb).mpr z)))
theorem g_icmpN_ge (hC : Cx F own cc nL rm) {a b : Nat} {off : Int} {tgt : Nat} (d : decode cc pc = .ok (.if_icmp .ge off, 3)) (ht : (pc : Int) + off = (tgt : Int)) (hp : pc + 3 = pc') (ha : a < 2147483648) (hb : b < 2147483648) (kt : b ≤ a → G F S K X tgt ls st) (kf : a < b → G F S K X pc' ls st) : G F S K X pc ls (.int (nI b) :: .int (nI a) :: st) := g_icmp_ge hC d ht hp (fun h => kt ((nI_leD hb ha).mp h)) (fun h => kf (Nat.not_le.mp fun z => h ((nI_leD hb ha).mpr z)))
theorem g_icmpN_gt (hC : Cx F own cc nL rm) {a b : Nat} {off : Int} {tgt : Nat} (d : decode cc pc = .ok (.if_icmp .gt off, 3)) (ht : (pc : Int) + off = (tgt : Int)) (hp : pc + 3 = pc') (ha : a < 2147483648) (hb : b < 2147483648) (kt : b < a → G F S K X tgt ls st) (kf : a ≤ b → G F S K X pc' ls st) : G F S K X pc ls (.int (nI b) :: .int (nI a) :: st) := g_icmp_gt hC d ht hp (fun h => kt ((nI_ltD hb ha).mp h)) (fun h => kf (Nat.not_lt.mp fun z => h ((nI_ltD hb ha).mpr z)))
theorem g_icmpN_le (hC : Cx F own cc nL rm) {a b : Nat} {off : Int} {tgt : Nat} (d : decode cc pc = .ok (.if_icmp .le off, 3)) (ht : (pc : Int) + off = (tgt : Int)) (hp : pc + 3 = pc') (ha : a < 2147483648) (hb : b < 2147483648) (kt : a ≤ b → G F S K X tgt ls st) (kf : b < a → G F S K X pc' ls st) : G F S K X pc ls (.int (nI b) :: .int (nI a) :: st) := g_icmp_le hC d ht hp (fun h => kt ((nI_leD ha hb).mp h)) (fun h => kf (Nat.not_le.mp fun z => h ((nI_leD ha hb).mpr z)))
theorem g_ifN_eq (hC : Cx F own cc nL rm) {a : Nat} {off : Int} {tgt : Nat} (d : decode cc pc = .ok (.ifCond .eq off, 3)) (ht : (pc : Int) + off = (tgt : Int)) (hp : pc + 3 = pc') (ha : a < 2147483648) (kt : a = 0 → G F S K X tgt ls st) (kf : ¬ a = 0 → G F S K X pc' ls st) : G F S K X pc ls (.int (nI a) :: st) := g_if_eq hC d ht hp (fun h => kt ((nI_eq0 ha).mp h)) (fun h => kf (fun z => h ((nI_eq0 ha).mpr z)))
theorem g_ifN_ne (hC : Cx F own cc nL rm) {a : Nat} {off : Int} {tgt : Nat} (d : decode cc pc = .ok (.ifCond .ne off, 3)) (ht : (pc : Int) + off = (tgt : Int)) (hp : pc + 3 = pc') (ha : a < 2147483648) (kt : ¬ a = 0 → G F S K X tgt ls st) (kf : a = 0 → G F S K X pc' ls st) : G F S K X pc ls (.int (nI a) :: st) := g_if_ne hC d ht hp (fun h => kt (fun z => h ((nI_eq0 ha).mpr z))) (fun h => kf ((nI_eq0 ha).mp (h)))
theorem g_ifN_gt (hC : Cx F own cc nL rm) {a : Nat} {off : Int} {tgt : Nat} (d : decode cc pc = .ok (.ifCond .gt off, 3)) (ht : (pc : Int) + off = (tgt : Int)) (hp : pc + 3 = pc') (ha : a < 2147483648) (kt : 0 < a → G F S K X tgt ls st) (kf : a = 0 → G F S K X pc' ls st) : G F S K X pc ls (.int (nI a) :: st) := g_if_gt hC d ht hp (fun h => kt ((nI_gt0 ha).mp h)) (fun h => kf (Nat.eq_zero_of_not_pos fun z => h ((nI_gt0 ha).mpr z)))
theorem g_ifN_le (hC : Cx F own cc nL rm) {a : Nat} {off : Int} {tgt : Nat} (d : decode cc pc = .ok (.ifCond .le off, 3)) (ht : (pc : Int) + off = (tgt : Int)) (hp : pc + 3 = pc') (ha : a < 2147483648) (kt : a = 0 → G F S K X tgt ls st) (kf : 0 < a → G F S K X pc' ls st) : G F S K X pc ls (.int (nI a) :: st) := g_if_le hC d ht hp (fun h => kt ((nI_le0 ha).mp h)) (fun h => kf (Nat.pos_of_ne_zero fun z => h ((nI_le0 ha).mpr z)))
theorem g_ifZ_eq (hC : Cx F own cc nL rm) {b : Bool} {off : Int} {tgt : Nat} (d : decode cc pc = .ok (.ifCond .eq off, 3)) (ht : (pc : Int) + off = (tgt : Int)) (hp : pc + 3 = pc') (kt : b = false → G F S K X tgt ls st) (kf : b = true → G F S K X pc' ls st) : G F S K X pc ls (.int (zI b) :: st) := g_if_eq hC d ht hp (fun h => kt (zI_eq0.mp h)) (fun h => kf (by cases b with | false => exact absurd (zI_eq0.mpr rfl) h | true => rfl))
theorem g_ifZ_ne (hC : Cx F own cc nL rm) {b : Bool} {off : Int} {tgt : Nat} (d : decode cc pc = .ok (.ifCond .ne off, 3)) (ht : (pc : Int) + off = (tgt : Int)) (hp : pc + 3 = pc') (kt : b = true → G F S K X tgt ls st) (kf : b = false → G F S K X pc' ls st) : G F S K X pc ls (.int (zI b) :: st) := g_if_ne hC d ht hp (fun h => kt (by cases b with | false => exact absurd (zI_eq0.mpr rfl) h | true => rfl)) (fun h => kf (zI_eq0.mp (h)))
theorem nI_subD {a b : Nat} (h : b ≤ a) : nI a - nI b = nI (a - b) := pk_sub h
theorem g_iaddN (hC : Cx F own cc nL rm) {a b : Nat} (d : decode cc pc = .ok (.iadd, 1)) (hp : pc + 1 = pc') (k : G F S K X pc' ls (.int (nI (a + b)) :: st)) : G F S K X pc ls (.int (nI b) :: .int (nI a) :: st) := g_iadd hC d hp (by rw [nI_add]; exact k)
theorem g_isubN (hC : Cx F own cc nL rm) {a b : Nat} (d : decode cc pc = .ok (.isub, 1)) (hp : pc + 1 = pc') (h : b ≤ a) (k : G F S K X pc' ls (.int (nI (a - b)) :: st)) : G F S K X pc ls (.int (nI b) :: .int (nI a) :: st) := g_isub hC d hp (by rw [pk_sub h]; exact k)
theorem g_imulN (hC : Cx F own cc nL rm) {a b : Nat} (d : decode cc pc = .ok (.imul, 1)) (hp : pc + 1 = pc') (k : G F S K X pc' ls (.int (nI (a * b)) :: st)) : G F S K X pc ls (.int (nI b) :: .int (nI a) :: st) := g_imul hC d hp (by rw [pk_mul]; exact k)
theorem nI_ne0D {b : Nat} (h0 : 0 < b) (hb : b < 2147483648) : ¬ nI b = 0 := fun h => by have := (nI_eq0 hb).mp h; omega
theorem g_idivN (hC : Cx F own cc nL rm) {a b : Nat} (d : decode cc pc = .ok (.idiv, 1)) (hp : pc + 1 = pc') (ha : a < 2147483648) (h0 : 0 < b) (hb : b < 2147483648) (k : G F S K X pc' ls (.int (nI (a / b)) :: st)) : G F S K X pc ls (.int (nI b) :: .int (nI a) :: st) := g_idiv hC d (nI_ne0D h0 hb) hp (by rw [pk_div ha h0 hb]; exact k)
theorem g_iremN (hC : Cx F own cc nL rm) {a b : Nat} (d : decode cc pc = .ok (.irem, 1)) (hp : pc + 1 = pc') (ha : a < 2147483648) (h0 : 0 < b) (hb : b < 2147483648) (k : G F S K X pc' ls (.int (nI (a % b)) :: st)) : G F S K X pc ls (.int (nI b) :: .int (nI a) :: st) := g_irem hC d (nI_ne0D h0 hb) hp (by rw [pk_rem ha h0 hb]; exact k)
theorem sh_l : ∀ n, n < 32 → ((nI n &&& 31).toBitVec.smod 32).toNat = n := by decide +kernel
theorem nI_shl {a b : Nat} (hb : b < 32) (h : a * 2 ^ b < 2 ^ 32) : nI a <<< (nI b &&& 31) = nI (a * 2 ^ b) := pk_shlN _ b (sh_l b hb) h
theorem nI_shr {a b : Nat} (hb : b < 32) (h : a < 2147483648) : nI a >>> (nI b &&& 31) = nI (a / 2 ^ b) := pk_shrN h _ b (sh_l b hb)
theorem nI_and (a b : Nat) : nI a &&& nI b = nI (a &&& b) := by
  apply Int32.toBitVec_inj.1
  show BitVec.ofNat 32 a &&& BitVec.ofNat 32 b = BitVec.ofNat 32 (a &&& b)
  apply BitVec.eq_of_getLsbD_eq
  intro i hi
  simp [hi]
theorem nI_or (a b : Nat) : nI a ||| nI b = nI (a ||| b) := by
  apply Int32.toBitVec_inj.1
  show BitVec.ofNat 32 a ||| BitVec.ofNat 32 b = BitVec.ofNat 32 (a ||| b)
  apply BitVec.eq_of_getLsbD_eq
  intro i hi
  simp [hi]
theorem g_ishlN (hC : Cx F own cc nL rm) {a b : Nat} (d : decode cc pc = .ok (.ishl, 1)) (hp : pc + 1 = pc') (hb : b < 32) (h : a * 2 ^ b < 2 ^ 32) (k : G F S K X pc' ls (.int (nI (a * 2 ^ b)) :: st)) : G F S K X pc ls (.int (nI b) :: .int (nI a) :: st) := g_ishl hC d hp (by rw [nI_shl hb h]; exact k)
theorem g_ishrN (hC : Cx F own cc nL rm) {a b : Nat} (d : decode cc pc = .ok (.ishr, 1)) (hp : pc + 1 = pc') (hb : b < 32) (h : a < 2147483648) (k : G F S K X pc' ls (.int (nI (a / 2 ^ b)) :: st)) : G F S K X pc ls (.int (nI b) :: .int (nI a) :: st) := g_ishr hC d hp (by rw [nI_shr hb h]; exact k)
theorem g_iandN (hC : Cx F own cc nL rm) {a b : Nat} (d : decode cc pc = .ok (.iand, 1)) (hp : pc + 1 = pc') (k : G F S K X pc' ls (.int (nI (a &&& b)) :: st)) : G F S K X pc ls (.int (nI b) :: .int (nI a) :: st) := g_iand hC d hp (by rw [nI_and]; exact k)
theorem g_iorN (hC : Cx F own cc nL rm) {a b : Nat} (d : decode cc pc = .ok (.ior, 1)) (hp : pc + 1 = pc') (k : G F S K X pc' ls (.int (nI (a ||| b)) :: st)) : G F S K X pc ls (.int (nI b) :: .int (nI a) :: st) := g_ior hC d hp (by rw [nI_or]; exact k)
theorem g_iload_0 (hC : Cx F own cc nL rm) {r : List Value} {x : Int32} (d : decode cc pc = .ok (.iload_n 0, 1)) (hp : pc + 1 = pc') (k : G F S K X pc' (.int x :: r) (.int x :: st)) : G F S K X pc (.int x :: r) st := by
  obtain ⟨p, l, e, R, s, m, args, below, meth, c, Γ, A, Q⟩ := F
  obtain ⟨hx, hb, hml, hown, hts, hlk, rfl, hK, hA⟩ := hC
  subst hp
  intro H locs L hL hc0 hP hD hS
  exact lv_iload_n hx hb d rfl (hL.2.2 0 (.int x) rfl (fun h => by cases h)) (k H locs L hL hc0 hP hD hS)
theorem g_iload_1 (hC : Cx F own cc nL rm) {v0 : Value} {r : List Value} {x : Int32} (d : decode cc pc = .ok (.iload_n 1, 1)) (hp : pc + 1 = pc') (k : G F S K X pc' (v0 :: .int x :: r) (.int x :: st)) : G F S K X pc (v0 :: .int x :: r) st := by
  obtain ⟨p, l, e, R, s, m, args, below, meth, c, Γ, A, Q⟩ := F
  obtain ⟨hx, hb, hml, hown, hts, hlk, rfl, hK, hA⟩ := hC
  subst hp
  intro H locs L hL hc0 hP hD hS
  exact lv_iload_n hx hb d rfl (hL.2.2 1 (.int x) rfl (fun h => by cases h)) (k H locs L hL hc0 hP hD hS)
theorem g_iload_2 (hC : Cx F own cc nL rm) {v0 v1 : Value} {r : List Value} {x : Int32} (d : decode cc pc = .ok (.iload_n 2, 1)) (hp : pc + 1 = pc') (k : G F S K X pc' (v0 :: v1 :: .int x :: r) (.int x :: st)) : G F S K X pc (v0 :: v1 :: .int x :: r) st := by
  obtain ⟨p, l, e, R, s, m, args, below, meth, c, Γ, A, Q⟩ := F
  obtain ⟨hx, hb, hml, hown, hts, hlk, rfl, hK, hA⟩ := hC
  subst hp
  intro H locs L hL hc0 hP hD hS
  exact lv_iload_n hx hb d rfl (hL.2.2 2 (.int x) rfl (fun h => by cases h)) (k H locs L hL hc0 hP hD hS)
theorem g_iload_3 (hC : Cx F own cc nL rm) {v0 v1 v2 : Value} {r : List Value} {x : Int32} (d : decode cc pc = .ok (.iload_n 3, 1)) (hp : pc + 1 = pc') (k : G F S K X pc' (v0 :: v1 :: v2 :: .int x :: r) (.int x :: st)) : G F S K X pc (v0 :: v1 :: v2 :: .int x :: r) st := by
  obtain ⟨p, l, e, R, s, m, args, below, meth, c, Γ, A, Q⟩ := F
  obtain ⟨hx, hb, hml, hown, hts, hlk, rfl, hK, hA⟩ := hC
  subst hp
  intro H locs L hL hc0 hP hD hS
  exact lv_iload_n hx hb d rfl (hL.2.2 3 (.int x) rfl (fun h => by cases h)) (k H locs L hL hc0 hP hD hS)
theorem g_iload_4 (hC : Cx F own cc nL rm) {v0 v1 v2 v3 : Value} {r : List Value} {x : Int32} (d : decode cc pc = .ok (.iload 4, 2)) (hp : pc + 2 = pc') (k : G F S K X pc' (v0 :: v1 :: v2 :: v3 :: .int x :: r) (.int x :: st)) : G F S K X pc (v0 :: v1 :: v2 :: v3 :: .int x :: r) st := by
  obtain ⟨p, l, e, R, s, m, args, below, meth, c, Γ, A, Q⟩ := F
  obtain ⟨hx, hb, hml, hown, hts, hlk, rfl, hK, hA⟩ := hC
  subst hp
  intro H locs L hL hc0 hP hD hS
  exact lv_iload hx hb d (hL.2.2 4 (.int x) rfl (fun h => by cases h)) (k H locs L hL hc0 hP hD hS)
theorem g_iload_5 (hC : Cx F own cc nL rm) {v0 v1 v2 v3 v4 : Value} {r : List Value} {x : Int32} (d : decode cc pc = .ok (.iload 5, 2)) (hp : pc + 2 = pc') (k : G F S K X pc' (v0 :: v1 :: v2 :: v3 :: v4 :: .int x :: r) (.int x :: st)) : G F S K X pc (v0 :: v1 :: v2 :: v3 :: v4 :: .int x :: r) st := by
  obtain ⟨p, l, e, R, s, m, args, below, meth, c, Γ, A, Q⟩ := F
  obtain ⟨hx, hb, hml, hown, hts, hlk, rfl, hK, hA⟩ := hC
  subst hp
  intro H locs L hL hc0 hP hD hS
  exact lv_iload hx hb d (hL.2.2 5 (.int x) rfl (fun h => by cases h)) (k H locs L hL hc0 hP hD hS)
theorem g_iload_6 (hC : Cx F own cc nL rm) {v0 v1 v2 v3 v4 v5 : Value} {r : List Value} {x : Int32} (d : decode cc pc = .ok (.iload 6, 2)) (hp : pc + 2 = pc') (k : G F S K X pc' (v0 :: v1 :: v2 :: v3 :: v4 :: v5 :: .int x :: r) (.int x :: st)) : G F S K X pc (v0 :: v1 :: v2 :: v3 :: v4 :: v5 :: .int x :: r) st := by
  obtain ⟨p, l, e, R, s, m, args, below, meth, c, Γ, A, Q⟩ := F
  obtain ⟨hx, hb, hml, hown, hts, hlk, rfl, hK, hA⟩ := hC
  subst hp
  intro H locs L hL hc0 hP hD hS
  exact lv_iload hx hb d (hL.2.2 6 (.int x) rfl (fun h => by cases h)) (k H locs L hL hc0 hP hD hS)
theorem g_iload_7 (hC : Cx F own cc nL rm) {v0 v1 v2 v3 v4 v5 v6 : Value} {r : List Value} {x : Int32} (d : decode cc pc = .ok (.iload 7, 2)) (hp : pc + 2 = pc') (k : G F S K X pc' (v0 :: v1 :: v2 :: v3 :: v4 :: v5 :: v6 :: .int x :: r) (.int x :: st)) : G F S K X pc (v0 :: v1 :: v2 :: v3 :: v4 :: v5 :: v6 :: .int x :: r) st := by
  obtain ⟨p, l, e, R, s, m, args, below, meth, c, Γ, A, Q⟩ := F
  obtain ⟨hx, hb, hml, hown, hts, hlk, rfl, hK, hA⟩ := hC
  subst hp
  intro H locs L hL hc0 hP hD hS
  exact lv_iload hx hb d (hL.2.2 7 (.int x) rfl (fun h => by cases h)) (k H locs L hL hc0 hP hD hS)
theorem g_iload_8 (hC : Cx F own cc nL rm) {v0 v1 v2 v3 v4 v5 v6 v7 : Value} {r : List Value} {x : Int32} (d : decode cc pc = .ok (.iload 8, 2)) (hp : pc + 2 = pc') (k : G F S K X pc' (v0 :: v1 :: v2 :: v3 :: v4 :: v5 :: v6 :: v7 :: .int x :: r) (.int x :: st)) : G F S K X pc (v0 :: v1 :: v2 :: v3 :: v4 :: v5 :: v6 :: v7 :: .int x :: r) st := by
  obtain ⟨p, l, e, R, s, m, args, below, meth, c, Γ, A, Q⟩ := F
  obtain ⟨hx, hb, hml, hown, hts, hlk, rfl, hK, hA⟩ := hC
  subst hp
  intro H locs L hL hc0 hP hD hS
  exact lv_iload hx hb d (hL.2.2 8 (.int x) rfl (fun h => by cases h)) (k H locs L hL hc0 hP hD hS)
theorem g_iload_9 (hC : Cx F own cc nL rm) {v0 v1 v2 v3 v4 v5 v6 v7 v8 : Value} {r : List Value} {x : Int32} (d : decode cc pc = .ok (.iload 9, 2)) (hp : pc + 2 = pc') (k : G F S K X pc' (v0 :: v1 :: v2 :: v3 :: v4 :: v5 :: v6 :: v7 :: v8 :: .int x :: r) (.int x :: st)) : G F S K X pc (v0 :: v1 :: v2 :: v3 :: v4 :: v5 :: v6 :: v7 :: v8 :: .int x :: r) st := by
  obtain ⟨p, l, e, R, s, m, args, below, meth, c, Γ, A, Q⟩ := F
  obtain ⟨hx, hb, hml, hown, hts, hlk, rfl, hK, hA⟩ := hC
  subst hp
  intro H locs L hL hc0 hP hD hS
  exact lv_iload hx hb d (hL.2.2 9 (.int x) rfl (fun h => by cases h)) (k H locs L hL hc0 hP hD hS)
theorem g_iload_10 (hC : Cx F own cc nL rm) {v0 v1 v2 v3 v4 v5 v6 v7 v8 v9 : Value} {r : List Value} {x : Int32} (d : decode cc pc = .ok (.iload 10, 2)) (hp : pc + 2 = pc') (k : G F S K X pc' (v0 :: v1 :: v2 :: v3 :: v4 :: v5 :: v6 :: v7 :: v8 :: v9 :: .int x :: r) (.int x :: st)) : G F S K X pc (v0 :: v1 :: v2 :: v3 :: v4 :: v5 :: v6 :: v7 :: v8 :: v9 :: .int x :: r) st := by
  obtain ⟨p, l, e, R, s, m, args, below, meth, c, Γ, A, Q⟩ := F
  obtain ⟨hx, hb, hml, hown, hts, hlk, rfl, hK, hA⟩ := hC
  subst hp
  intro H locs L hL hc0 hP hD hS
  exact lv_iload hx hb d (hL.2.2 10 (.int x) rfl (fun h => by cases h)) (k H locs L hL hc0 hP hD hS)
theorem g_iload_11 (hC : Cx F own cc nL rm) {v0 v1 v2 v3 v4 v5 v6 v7 v8 v9 v10 : Value} {r : List Value} {x : Int32} (d : decode cc pc = .ok (.iload 11, 2)) (hp : pc + 2 = pc') (k : G F S K X pc' (v0 :: v1 :: v2 :: v3 :: v4 :: v5 :: v6 :: v7 :: v8 :: v9 :: v10 :: .int x :: r) (.int x :: st)) : G F S K X pc (v0 :: v1 :: v2 :: v3 :: v4 :: v5 :: v6 :: v7 :: v8 :: v9 :: v10 :: .int x :: r) st := by
  obtain ⟨p, l, e, R, s, m, args, below, meth, c, Γ, A, Q⟩ := F
  obtain ⟨hx, hb, hml, hown, hts, hlk, rfl, hK, hA⟩ := hC
  subst hp
  intro H locs L hL hc0 hP hD hS
  exact lv_iload hx hb d (hL.2.2 11 (.int x) rfl (fun h => by cases h)) (k H locs L hL hc0 hP hD hS)
theorem g_aload_0 (hC : Cx F own cc nL rm) {r : List Value} {x : Nat} (d : decode cc pc = .ok (.aload_n 0, 1)) (hp : pc + 1 = pc') (k : G F S K X pc' (.ref x :: r) (.ref x :: st)) : G F S K X pc (.ref x :: r) st := by
  obtain ⟨p, l, e, R, s, m, args, below, meth, c, Γ, A, Q⟩ := F
  obtain ⟨hx, hb, hml, hown, hts, hlk, rfl, hK, hA⟩ := hC
  subst hp
  intro H locs L hL hc0 hP hD hS
  exact lv_aload_n hx hb d rfl (hL.2.2 0 (.ref x) rfl (fun h => by cases h)) (k H locs L hL hc0 hP hD hS)
theorem g_aload_1 (hC : Cx F own cc nL rm) {v0 : Value} {r : List Value} {x : Nat} (d : decode cc pc = .ok (.aload_n 1, 1)) (hp : pc + 1 = pc') (k : G F S K X pc' (v0 :: .ref x :: r) (.ref x :: st)) : G F S K X pc (v0 :: .ref x :: r) st := by
  obtain ⟨p, l, e, R, s, m, args, below, meth, c, Γ, A, Q⟩ := F
  obtain ⟨hx, hb, hml, hown, hts, hlk, rfl, hK, hA⟩ := hC
  subst hp
  intro H locs L hL hc0 hP hD hS
  exact lv_aload_n hx hb d rfl (hL.2.2 1 (.ref x) rfl (fun h => by cases h)) (k H locs L hL hc0 hP hD hS)
theorem g_aload_2 (hC : Cx F own cc nL rm) {v0 v1 : Value} {r : List Value} {x : Nat} (d : decode cc pc = .ok (.aload_n 2, 1)) (hp : pc + 1 = pc') (k : G F S K X pc' (v0 :: v1 :: .ref x :: r) (.ref x :: st)) : G F S K X pc (v0 :: v1 :: .ref x :: r) st := by
  obtain ⟨p, l, e, R, s, m, args, below, meth, c, Γ, A, Q⟩ := F
  obtain ⟨hx, hb, hml, hown, hts, hlk, rfl, hK, hA⟩ := hC
  subst hp
  intro H locs L hL hc0 hP hD hS
  exact lv_aload_n hx hb d rfl (hL.2.2 2 (.ref x) rfl (fun h => by cases h)) (k H locs L hL hc0 hP hD hS)
theorem g_aload_3 (hC : Cx F own cc nL rm) {v0 v1 v2 : Value} {r : List Value} {x : Nat} (d : decode cc pc = .ok (.aload_n 3, 1)) (hp : pc + 1 = pc') (k : G F S K X pc' (v0 :: v1 :: v2 :: .ref x :: r) (.ref x :: st)) : G F S K X pc (v0 :: v1 :: v2 :: .ref x :: r) st := by
  obtain ⟨p, l, e, R, s, m, args, below, meth, c, Γ, A, Q⟩ := F
  obtain ⟨hx, hb, hml, hown, hts, hlk, rfl, hK, hA⟩ := hC
  subst hp
  intro H locs L hL hc0 hP hD hS
  exact lv_aload_n hx hb d rfl (hL.2.2 3 (.ref x) rfl (fun h => by cases h)) (k H locs L hL hc0 hP hD hS)
theorem g_aload_4 (hC : Cx F own cc nL rm) {v0 v1 v2 v3 : Value} {r : List Value} {x : Nat} (d : decode cc pc = .ok (.aload 4, 2)) (hp : pc + 2 = pc') (k : G F S K X pc' (v0 :: v1 :: v2 :: v3 :: .ref x :: r) (.ref x :: st)) : G F S K X pc (v0 :: v1 :: v2 :: v3 :: .ref x :: r) st := by
  obtain ⟨p, l, e, R, s, m, args, below, meth, c, Γ, A, Q⟩ := F
  obtain ⟨hx, hb, hml, hown, hts, hlk, rfl, hK, hA⟩ := hC
  subst hp
  intro H locs L hL hc0 hP hD hS
  exact lv_aload hx hb d (hL.2.2 4 (.ref x) rfl (fun h => by cases h)) (k H locs L hL hc0 hP hD hS)
theorem g_aload_5 (hC : Cx F own cc nL rm) {v0 v1 v2 v3 v4 : Value} {r : List Value} {x : Nat} (d : decode cc pc = .ok (.aload 5, 2)) (hp : pc + 2 = pc') (k : G F S K X pc' (v0 :: v1 :: v2 :: v3 :: v4 :: .ref x :: r) (.ref x :: st)) : G F S K X pc (v0 :: v1 :: v2 :: v3 :: v4 :: .ref x :: r) st := by
  obtain ⟨p, l, e, R, s, m, args, below, meth, c, Γ, A, Q⟩ := F
  obtain ⟨hx, hb, hml, hown, hts, hlk, rfl, hK, hA⟩ := hC
  subst hp
  intro H locs L hL hc0 hP hD hS
  exact lv_aload hx hb d (hL.2.2 5 (.ref x) rfl (fun h => by cases h)) (k H locs L hL hc0 hP hD hS)
theorem g_aload_6 (hC : Cx F own cc nL rm) {v0 v1 v2 v3 v4 v5 : Value} {r : List Value} {x : Nat} (d : decode cc pc = .ok (.aload 6, 2)) (hp : pc + 2 = pc') (k : G F S K X pc' (v0 :: v1 :: v2 :: v3 :: v4 :: v5 :: .ref x :: r) (.ref x :: st)) : G F S K X pc (v0 :: v1 :: v2 :: v3 :: v4 :: v5 :: .ref x :: r) st := by
  obtain ⟨p, l, e, R, s, m, args, below, meth, c, Γ, A, Q⟩ := F
  obtain ⟨hx, hb, hml, hown, hts, hlk, rfl, hK, hA⟩ := hC
  subst hp
  intro H locs L hL hc0 hP hD hS
  exact lv_aload hx hb d (hL.2.2 6 (.ref x) rfl (fun h => by cases h)) (k H locs L hL hc0 hP hD hS)
theorem g_aload_7 (hC : Cx F own cc nL rm) {v0 v1 v2 v3 v4 v5 v6 : Value} {r : List Value} {x : Nat} (d : decode cc pc = .ok (.aload 7, 2)) (hp : pc + 2 = pc') (k : G F S K X pc' (v0 :: v1 :: v2 :: v3 :: v4 :: v5 :: v6 :: .ref x :: r) (.ref x :: st)) : G F S K X pc (v0 :: v1 :: v2 :: v3 :: v4 :: v5 :: v6 :: .ref x :: r) st := by
  obtain ⟨p, l, e, R, s, m, args, below, meth, c, Γ, A, Q⟩ := F
  obtain ⟨hx, hb, hml, hown, hts, hlk, rfl, hK, hA⟩ := hC
  subst hp
  intro H locs L hL hc0 hP hD hS
  exact lv_aload hx hb d (hL.2.2 7 (.ref x) rfl (fun h => by cases h)) (k H locs L hL hc0 hP hD hS)
theorem g_aload_8 (hC : Cx F own cc nL rm) {v0 v1 v2 v3 v4 v5 v6 v7 : Value} {r : List Value} {x : Nat} (d : decode cc pc = .ok (.aload 8, 2)) (hp : pc + 2 = pc') (k : G F S K X pc' (v0 :: v1 :: v2 :: v3 :: v4 :: v5 :: v6 :: v7 :: .ref x :: r) (.ref x :: st)) : G F S K X pc (v0 :: v1 :: v2 :: v3 :: v4 :: v5 :: v6 :: v7 :: .ref x :: r) st := by
  obtain ⟨p, l, e, R, s, m, args, below, meth, c, Γ, A, Q⟩ := F
  obtain ⟨hx, hb, hml, hown, hts, hlk, rfl, hK, hA⟩ := hC
  subst hp
  intro H locs L hL hc0 hP hD hS
  exact lv_aload hx hb d (hL.2.2 8 (.ref x) rfl (fun h => by cases h)) (k H locs L hL hc0 hP hD hS)
theorem g_aload_9 (hC : Cx F own cc nL rm) {v0 v1 v2 v3 v4 v5 v6 v7 v8 : Value} {r : List Value} {x : Nat} (d : decode cc pc = .ok (.aload 9, 2)) (hp : pc + 2 = pc') (k : G F S K X pc' (v0 :: v1 :: v2 :: v3 :: v4 :: v5 :: v6 :: v7 :: v8 :: .ref x :: r) (.ref x :: st)) : G F S K X pc (v0 :: v1 :: v2 :: v3 :: v4 :: v5 :: v6 :: v7 :: v8 :: .ref x :: r) st := by
  obtain ⟨p, l, e, R, s, m, args, below, meth, c, Γ, A, Q⟩ := F
  obtain ⟨hx, hb, hml, hown, hts, hlk, rfl, hK, hA⟩ := hC
  subst hp
  intro H locs L hL hc0 hP hD hS
  exact lv_aload hx hb d (hL.2.2 9 (.ref x) rfl (fun h => by cases h)) (k H locs L hL hc0 hP hD hS)
theorem g_aload_10 (hC : Cx F own cc nL rm) {v0 v1 v2 v3 v4 v5 v6 v7 v8 v9 : Value} {r : List Value} {x : Nat} (d : decode cc pc = .ok (.aload 10, 2)) (hp : pc + 2 = pc') (k : G F S K X pc' (v0 :: v1 :: v2 :: v3 :: v4 :: v5 :: v6 :: v7 :: v8 :: v9 :: .ref x :: r) (.ref x :: st)) : G F S K X pc (v0 :: v1 :: v2 :: v3 :: v4 :: v5 :: v6 :: v7 :: v8 :: v9 :: .ref x :: r) st := by
  obtain ⟨p, l, e, R, s, m, args, below, meth, c, Γ, A, Q⟩ := F
  obtain ⟨hx, hb, hml, hown, hts, hlk, rfl, hK, hA⟩ := hC
  subst hp
  intro H locs L hL hc0 hP hD hS
  exact lv_aload hx hb d (hL.2.2 10 (.ref x) rfl (fun h => by cases h)) (k H locs L hL hc0 hP hD hS)
theorem g_aload_11 (hC : Cx F own cc nL rm) {v0 v1 v2 v3 v4 v5 v6 v7 v8 v9 v10 : Value} {r : List Value} {x : Nat} (d : decode cc pc = .ok (.aload 11, 2)) (hp : pc + 2 = pc') (k : G F S K X pc' (v0 :: v1 :: v2 :: v3 :: v4 :: v5 :: v6 :: v7 :: v8 :: v9 :: v10 :: .ref x :: r) (.ref x :: st)) : G F S K X pc (v0 :: v1 :: v2 :: v3 :: v4 :: v5 :: v6 :: v7 :: v8 :: v9 :: v10 :: .ref x :: r) st := by
  obtain ⟨p, l, e, R, s, m, args, below, meth, c, Γ, A, Q⟩ := F
  obtain ⟨hx, hb, hml, hown, hts, hlk, rfl, hK, hA⟩ := hC
  subst hp
  intro H locs L hL hc0 hP hD hS
  exact lv_aload hx hb d (hL.2.2 11 (.ref x) rfl (fun h => by cases h)) (k H locs L hL hc0 hP hD hS)
theorem g_lload_0 (hC : Cx F own cc nL rm) {r : List Value} {x : Int64} (d : decode cc pc = .ok (.lload_n 0, 1)) (hp : pc + 1 = pc') (k : G F S K X pc' (.long x :: r) (.long x :: st)) : G F S K X pc (.long x :: r) st := by
  obtain ⟨p, l, e, R, s, m, args, below, meth, c, Γ, A, Q⟩ := F
  obtain ⟨hx, hb, hml, hown, hts, hlk, rfl, hK, hA⟩ := hC
  subst hp
  intro H locs L hL hc0 hP hD hS
  exact lv_lload_n hx hb d rfl (hL.2.2 0 (.long x) rfl (fun h => by cases h)) (k H locs L hL hc0 hP hD hS)
theorem g_lload_1 (hC : Cx F own cc nL rm) {v0 : Value} {r : List Value} {x : Int64} (d : decode cc pc = .ok (.lload_n 1, 1)) (hp : pc + 1 = pc') (k : G F S K X pc' (v0 :: .long x :: r) (.long x :: st)) : G F S K X pc (v0 :: .long x :: r) st := by
  obtain ⟨p, l, e, R, s, m, args, below, meth, c, Γ, A, Q⟩ := F
  obtain ⟨hx, hb, hml, hown, hts, hlk, rfl, hK, hA⟩ := hC
  subst hp
  intro H locs L hL hc0 hP hD hS
  exact lv_lload_n hx hb d rfl (hL.2.2 1 (.long x) rfl (fun h => by cases h)) (k H locs L hL hc0 hP hD hS)
theorem g_lload_2 (hC : Cx F own cc nL rm) {v0 v1 : Value} {r : List Value} {x : Int64} (d : decode cc pc = .ok (.lload_n 2, 1)) (hp : pc + 1 = pc') (k : G F S K X pc' (v0 :: v1 :: .long x :: r) (.long x :: st)) : G F S K X pc (v0 :: v1 :: .long x :: r) st := by
  obtain ⟨p, l, e, R, s, m, args, below, meth, c, Γ, A, Q⟩ := F
  obtain ⟨hx, hb, hml, hown, hts, hlk, rfl, hK, hA⟩ := hC
  subst hp
  intro H locs L hL hc0 hP hD hS
  exact lv_lload_n hx hb d rfl (hL.2.2 2 (.long x) rfl (fun h => by cases h)) (k H locs L hL hc0 hP hD hS)
theorem g_lload_3 (hC : Cx F own cc nL rm) {v0 v1 v2 : Value} {r : List Value} {x : Int64} (d : decode cc pc = .ok (.lload_n 3, 1)) (hp : pc + 1 = pc') (k : G F S K X pc' (v0 :: v1 :: v2 :: .long x :: r) (.long x :: st)) : G F S K X pc (v0 :: v1 :: v2 :: .long x :: r) st := by
  obtain ⟨p, l, e, R, s, m, args, below, meth, c, Γ, A, Q⟩ := F
  obtain ⟨hx, hb, hml, hown, hts, hlk, rfl, hK, hA⟩ := hC
  subst hp
  intro H locs L hL hc0 hP hD hS
  exact lv_lload_n hx hb d rfl (hL.2.2 3 (.long x) rfl (fun h => by cases h)) (k H locs L hL hc0 hP hD hS)
theorem g_lload_4 (hC : Cx F own cc nL rm) {v0 v1 v2 v3 : Value} {r : List Value} {x : Int64} (d : decode cc pc = .ok (.lload 4, 2)) (hp : pc + 2 = pc') (k : G F S K X pc' (v0 :: v1 :: v2 :: v3 :: .long x :: r) (.long x :: st)) : G F S K X pc (v0 :: v1 :: v2 :: v3 :: .long x :: r) st := by
  obtain ⟨p, l, e, R, s, m, args, below, meth, c, Γ, A, Q⟩ := F
  obtain ⟨hx, hb, hml, hown, hts, hlk, rfl, hK, hA⟩ := hC
  subst hp
  intro H locs L hL hc0 hP hD hS
  exact lv_lload hx hb d (hL.2.2 4 (.long x) rfl (fun h => by cases h)) (k H locs L hL hc0 hP hD hS)
theorem g_lload_5 (hC : Cx F own cc nL rm) {v0 v1 v2 v3 v4 : Value} {r : List Value} {x : Int64} (d : decode cc pc = .ok (.lload 5, 2)) (hp : pc + 2 = pc') (k : G F S K X pc' (v0 :: v1 :: v2 :: v3 :: v4 :: .long x :: r) (.long x :: st)) : G F S K X pc (v0 :: v1 :: v2 :: v3 :: v4 :: .long x :: r) st := by
  obtain ⟨p, l, e, R, s, m, args, below, meth, c, Γ, A, Q⟩ := F
  obtain ⟨hx, hb, hml, hown, hts, hlk, rfl, hK, hA⟩ := hC
  subst hp
  intro H locs L hL hc0 hP hD hS
  exact lv_lload hx hb d (hL.2.2 5 (.long x) rfl (fun h => by cases h)) (k H locs L hL hc0 hP hD hS)
theorem g_lload_6 (hC : Cx F own cc nL rm) {v0 v1 v2 v3 v4 v5 : Value} {r : List Value} {x : Int64} (d : decode cc pc = .ok (.lload 6, 2)) (hp : pc + 2 = pc') (k : G F S K X pc' (v0 :: v1 :: v2 :: v3 :: v4 :: v5 :: .long x :: r) (.long x :: st)) : G F S K X pc (v0 :: v1 :: v2 :: v3 :: v4 :: v5 :: .long x :: r) st := by
  obtain ⟨p, l, e, R, s, m, args, below, meth, c, Γ, A, Q⟩ := F
  obtain ⟨hx, hb, hml, hown, hts, hlk, rfl, hK, hA⟩ := hC
  subst hp
  intro H locs L hL hc0 hP hD hS
  exact lv_lload hx hb d (hL.2.2 6 (.long x) rfl (fun h => by cases h)) (k H locs L hL hc0 hP hD hS)
theorem g_lload_7 (hC : Cx F own cc nL rm) {v0 v1 v2 v3 v4 v5 v6 : Value} {r : List Value} {x : Int64} (d : decode cc pc = .ok (.lload 7, 2)) (hp : pc + 2 = pc') (k : G F S K X pc' (v0 :: v1 :: v2 :: v3 :: v4 :: v5 :: v6 :: .long x :: r) (.long x :: st)) : G F S K X pc (v0 :: v1 :: v2 :: v3 :: v4 :: v5 :: v6 :: .long x :: r) st := by
  obtain ⟨p, l, e, R, s, m, args, below, meth, c, Γ, A, Q⟩ := F
  obtain ⟨hx, hb, hml, hown, hts, hlk, rfl, hK, hA⟩ := hC
  subst hp
  intro H locs L hL hc0 hP hD hS
  exact lv_lload hx hb d (hL.2.2 7 (.long x) rfl (fun h => by cases h)) (k H locs L hL hc0 hP hD hS)
theorem g_lload_8 (hC : Cx F own cc nL rm) {v0 v1 v2 v3 v4 v5 v6 v7 : Value} {r : List Value} {x : Int64} (d : decode cc pc = .ok (.lload 8, 2)) (hp : pc + 2 = pc') (k : G F S K X pc' (v0 :: v1 :: v2 :: v3 :: v4 :: v5 :: v6 :: v7 :: .long x :: r) (.long x :: st)) : G F S K X pc (v0 :: v1 :: v2 :: v3 :: v4 :: v5 :: v6 :: v7 :: .long x :: r) st := by
  obtain ⟨p, l, e, R, s, m, args, below, meth, c, Γ, A, Q⟩ := F
  obtain ⟨hx, hb, hml, hown, hts, hlk, rfl, hK, hA⟩ := hC
  subst hp
  intro H locs L hL hc0 hP hD hS
  exact lv_lload hx hb d (hL.2.2 8 (.long x) rfl (fun h => by cases h)) (k H locs L hL hc0 hP hD hS)
theorem g_lload_9 (hC : Cx F own cc nL rm) {v0 v1 v2 v3 v4 v5 v6 v7 v8 : Value} {r : List Value} {x : Int64} (d : decode cc pc = .ok (.lload 9, 2)) (hp : pc + 2 = pc') (k : G F S K X pc' (v0 :: v1 :: v2 :: v3 :: v4 :: v5 :: v6 :: v7 :: v8 :: .long x :: r) (.long x :: st)) : G F S K X pc (v0 :: v1 :: v2 :: v3 :: v4 :: v5 :: v6 :: v7 :: v8 :: .long x :: r) st := by
  obtain ⟨p, l, e, R, s, m, args, below, meth, c, Γ, A, Q⟩ := F
  obtain ⟨hx, hb, hml, hown, hts, hlk, rfl, hK, hA⟩ := hC
  subst hp
  intro H locs L hL hc0 hP hD hS
  exact lv_lload hx hb d (hL.2.2 9 (.long x) rfl (fun h => by cases h)) (k H locs L hL hc0 hP hD hS)
theorem g_lload_10 (hC : Cx F own cc nL rm) {v0 v1 v2 v3 v4 v5 v6 v7 v8 v9 : Value} {r : List Value} {x : Int64} (d : decode cc pc = .ok (.lload 10, 2)) (hp : pc + 2 = pc') (k : G F S K X pc' (v0 :: v1 :: v2 :: v3 :: v4 :: v5 :: v6 :: v7 :: v8 :: v9 :: .long x :: r) (.long x :: st)) : G F S K X pc (v0 :: v1 :: v2 :: v3 :: v4 :: v5 :: v6 :: v7 :: v8 :: v9 :: .long x :: r) st := by
  obtain ⟨p, l, e, R, s, m, args, below, meth, c, Γ, A, Q⟩ := F
  obtain ⟨hx, hb, hml, hown, hts, hlk, rfl, hK, hA⟩ := hC
  subst hp
  intro H locs L hL hc0 hP hD hS
  exact lv_lload hx hb d (hL.2.2 10 (.long x) rfl (fun h => by cases h)) (k H locs L hL hc0 hP hD hS)
theorem g_lload_11 (hC : Cx F own cc nL rm) {v0 v1 v2 v3 v4 v5 v6 v7 v8 v9 v10 : Value} {r : List Value} {x : Int64} (d : decode cc pc = .ok (.lload 11, 2)) (hp : pc + 2 = pc') (k : G F S K X pc' (v0 :: v1 :: v2 :: v3 :: v4 :: v5 :: v6 :: v7 :: v8 :: v9 :: v10 :: .long x :: r) (.long x :: st)) : G F S K X pc (v0 :: v1 :: v2 :: v3 :: v4 :: v5 :: v6 :: v7 :: v8 :: v9 :: v10 :: .long x :: r) st := by
  obtain ⟨p, l, e, R, s, m, args, below, meth, c, Γ, A, Q⟩ := F
  obtain ⟨hx, hb, hml, hown, hts, hlk, rfl, hK, hA⟩ := hC
  subst hp
  intro H locs L hL hc0 hP hD hS
  exact lv_lload hx hb d (hL.2.2 11 (.long x) rfl (fun h => by cases h)) (k H locs L hL hc0 hP hD hS)
theorem g_istore_0 (hC : Cx F own cc nL rm) {r : List Value} {x : Int32} {v : Value} (d : decode cc pc = .ok (.istore_n 0, 1)) (hp : pc + 1 = pc') (hn : 0 < nL) (k : G F S K X pc' (.int x :: r) st) : G F S K X pc (v :: r) (.int x :: st) := by
  obtain ⟨p, l, e, R, s, m, args, below, meth, c, Γ, A, Q⟩ := F
  obtain ⟨hx, hb, hml, hown, hts, hlk, rfl, hK, hA⟩ := hC
  subst hp
  intro H locs L hL hc0 hP hD hS
  refine lv_istore_n hx hb d rfl (gass_has hL) (by rw [hml]; exact hn) rfl (fun L' h' => k H locs L' ?_ hc0 hP hD hS)
  exact gLoc_st1 (S := S) (v := .int x) (ls := v :: r) h' (fun w _ h0 => absurd h0 (Nat.lt_irrefl 0))
theorem g_istore_1 (hC : Cx F own cc nL rm) {v0 : Value} {r : List Value} {x : Int32} {v : Value} (d : decode cc pc = .ok (.istore_n 1, 1)) (hp : pc + 1 = pc') (hn : 1 < nL) (hc : v0.category = 1) (k : G F S K X pc' (v0 :: .int x :: r) st) : G F S K X pc (v0 :: v :: r) (.int x :: st) := by
  obtain ⟨p, l, e, R, s, m, args, below, meth, c, Γ, A, Q⟩ := F
  obtain ⟨hx, hb, hml, hown, hts, hlk, rfl, hK, hA⟩ := hC
  subst hp
  intro H locs L hL hc0 hP hD hS
  refine lv_istore_n hx hb d rfl (gass_has hL) (by rw [hml]; exact hn) rfl (fun L' h' => k H locs L' ?_ hc0 hP hD hS)
  exact gLoc_st1 (S := S) (v := .int x) (ls := v0 :: v :: r) h' (fun w hw _ => by cases hw; exact hc)
theorem g_istore_2 (hC : Cx F own cc nL rm) {v0 v1 : Value} {r : List Value} {x : Int32} {v : Value} (d : decode cc pc = .ok (.istore_n 2, 1)) (hp : pc + 1 = pc') (hn : 2 < nL) (hc : v1.category = 1) (k : G F S K X pc' (v0 :: v1 :: .int x :: r) st) : G F S K X pc (v0 :: v1 :: v :: r) (.int x :: st) := by
  obtain ⟨p, l, e, R, s, m, args, below, meth, c, Γ, A, Q⟩ := F
  obtain ⟨hx, hb, hml, hown, hts, hlk, rfl, hK, hA⟩ := hC
  subst hp
  intro H locs L hL hc0 hP hD hS
  refine lv_istore_n hx hb d rfl (gass_has hL) (by rw [hml]; exact hn) rfl (fun L' h' => k H locs L' ?_ hc0 hP hD hS)
  exact gLoc_st1 (S := S) (v := .int x) (ls := v0 :: v1 :: v :: r) h' (fun w hw _ => by cases hw; exact hc)
theorem g_istore_3 (hC : Cx F own cc nL rm) {v0 v1 v2 : Value} {r : List Value} {x : Int32} {v : Value} (d : decode cc pc = .ok (.istore_n 3, 1)) (hp : pc + 1 = pc') (hn : 3 < nL) (hc : v2.category = 1) (k : G F S K X pc' (v0 :: v1 :: v2 :: .int x :: r) st) : G F S K X pc (v0 :: v1 :: v2 :: v :: r) (.int x :: st) := by
  obtain ⟨p, l, e, R, s, m, args, below, meth, c, Γ, A, Q⟩ := F
  obtain ⟨hx, hb, hml, hown, hts, hlk, rfl, hK, hA⟩ := hC
  subst hp
  intro H locs L hL hc0 hP hD hS
  refine lv_istore_n hx hb d rfl (gass_has hL) (by rw [hml]; exact hn) rfl (fun L' h' => k H locs L' ?_ hc0 hP hD hS)
  exact gLoc_st1 (S := S) (v := .int x) (ls := v0 :: v1 :: v2 :: v :: r) h' (fun w hw _ => by cases hw; exact hc)
theorem g_istore_4 (hC : Cx F own cc nL rm) {v0 v1 v2 v3 : Value} {r : List Value} {x : Int32} {v : Value} (d : decode cc pc = .ok (.istore 4, 2)) (hp : pc + 2 = pc') (hn : 4 < nL) (hc : v3.category = 1) (k : G F S K X pc' (v0 :: v1 :: v2 :: v3 :: .int x :: r) st) : G F S K X pc (v0 :: v1 :: v2 :: v3 :: v :: r) (.int x :: st) := by
  obtain ⟨p, l, e, R, s, m, args, below, meth, c, Γ, A, Q⟩ := F
  obtain ⟨hx, hb, hml, hown, hts, hlk, rfl, hK, hA⟩ := hC
  subst hp
  intro H locs L hL hc0 hP hD hS
  refine lv_istore hx hb d (gass_has hL) (by rw [hml]; exact hn) rfl (fun L' h' => k H locs L' ?_ hc0 hP hD hS)
  exact gLoc_st1 (S := S) (v := .int x) (ls := v0 :: v1 :: v2 :: v3 :: v :: r) h' (fun w hw _ => by cases hw; exact hc)
theorem g_istore_5 (hC : Cx F own cc nL rm) {v0 v1 v2 v3 v4 : Value} {r : List Value} {x : Int32} {v : Value} (d : decode cc pc = .ok (.istore 5, 2)) (hp : pc + 2 = pc') (hn : 5 < nL) (hc : v4.category = 1) (k : G F S K X pc' (v0 :: v1 :: v2 :: v3 :: v4 :: .int x :: r) st) : G F S K X pc (v0 :: v1 :: v2 :: v3 :: v4 :: v :: r) (.int x :: st) := by
  obtain ⟨p, l, e, R, s, m, args, below, meth, c, Γ, A, Q⟩ := F
  obtain ⟨hx, hb, hml, hown, hts, hlk, rfl, hK, hA⟩ := hC
  subst hp
  intro H locs L hL hc0 hP hD hS
  refine lv_istore hx hb d (gass_has hL) (by rw [hml]; exact hn) rfl (fun L' h' => k H locs L' ?_ hc0 hP hD hS)
  exact gLoc_st1 (S := S) (v := .int x) (ls := v0 :: v1 :: v2 :: v3 :: v4 :: v :: r) h' (fun w hw _ => by cases hw; exact hc)
theorem g_istore_6 (hC : Cx F own cc nL rm) {v0 v1 v2 v3 v4 v5 : Value} {r : List Value} {x : Int32} {v : Value} (d : decode cc pc = .ok (.istore 6, 2)) (hp : pc + 2 = pc') (hn : 6 < nL) (hc : v5.category = 1) (k : G F S K X pc' (v0 :: v1 :: v2 :: v3 :: v4 :: v5 :: .int x :: r) st) : G F S K X pc (v0 :: v1 :: v2 :: v3 :: v4 :: v5 :: v :: r) (.int x :: st) := by
  obtain ⟨p, l, e, R, s, m, args, below, meth, c, Γ, A, Q⟩ := F
  obtain ⟨hx, hb, hml, hown, hts, hlk, rfl, hK, hA⟩ := hC
  subst hp
  intro H locs L hL hc0 hP hD hS
  refine lv_istore hx hb d (gass_has hL) (by rw [hml]; exact hn) rfl (fun L' h' => k H locs L' ?_ hc0 hP hD hS)
  exact gLoc_st1 (S := S) (v := .int x) (ls := v0 :: v1 :: v2 :: v3 :: v4 :: v5 :: v :: r) h' (fun w hw _ => by cases hw; exact hc)
theorem g_istore_7 (hC : Cx F own cc nL rm) {v0 v1 v2 v3 v4 v5 v6 : Value} {r : List Value} {x : Int32} {v : Value} (d : decode cc pc = .ok (.istore 7, 2)) (hp : pc + 2 = pc') (hn : 7 < nL) (hc : v6.category = 1) (k : G F S K X pc' (v0 :: v1 :: v2 :: v3 :: v4 :: v5 :: v6 :: .int x :: r) st) : G F S K X pc (v0 :: v1 :: v2 :: v3 :: v4 :: v5 :: v6 :: v :: r) (.int x :: st) := by
  obtain ⟨p, l, e, R, s, m, args, below, meth, c, Γ, A, Q⟩ := F
  obtain ⟨hx, hb, hml, hown, hts, hlk, rfl, hK, hA⟩ := hC
  subst hp
  intro H locs L hL hc0 hP hD hS
  refine lv_istore hx hb d (gass_has hL) (by rw [hml]; exact hn) rfl (fun L' h' => k H locs L' ?_ hc0 hP hD hS)
  exact gLoc_st1 (S := S) (v := .int x) (ls := v0 :: v1 :: v2 :: v3 :: v4 :: v5 :: v6 :: v :: r) h' (fun w hw _ => by cases hw; exact hc)
theorem g_istore_8 (hC : Cx F own cc nL rm) {v0 v1 v2 v3 v4 v5 v6 v7 : Value} {r : List Value} {x : Int32} {v : Value} (d : decode cc pc = .ok (.istore 8, 2)) (hp : pc + 2 = pc') (hn : 8 < nL) (hc : v7.category = 1) (k : G F S K X pc' (v0 :: v1 :: v2 :: v3 :: v4 :: v5 :: v6 :: v7 :: .int x :: r) st) : G F S K X pc (v0 :: v1 :: v2 :: v3 :: v4 :: v5 :: v6 :: v7 :: v :: r) (.int x :: st) := by
  obtain ⟨p, l, e, R, s, m, args, below, meth, c, Γ, A, Q⟩ := F
  obtain ⟨hx, hb, hml, hown, hts, hlk, rfl, hK, hA⟩ := hC
  subst hp
  intro H locs L hL hc0 hP hD hS
  refine lv_istore hx hb d (gass_has hL) (by rw [hml]; exact hn) rfl (fun L' h' => k H locs L' ?_ hc0 hP hD hS)
  exact gLoc_st1 (S := S) (v := .int x) (ls := v0 :: v1 :: v2 :: v3 :: v4 :: v5 :: v6 :: v7 :: v :: r) h' (fun w hw _ => by cases hw; exact hc)
theorem g_istore_9 (hC : Cx F own cc nL rm) {v0 v1 v2 v3 v4 v5 v6 v7 v8 : Value} {r : List Value} {x : Int32} {v : Value} (d : decode cc pc = .ok (.istore 9, 2)) (hp : pc + 2 = pc') (hn : 9 < nL) (hc : v8.category = 1) (k : G F S K X pc' (v0 :: v1 :: v2 :: v3 :: v4 :: v5 :: v6 :: v7 :: v8 :: .int x :: r) st) : G F S K X pc (v0 :: v1 :: v2 :: v3 :: v4 :: v5 :: v6 :: v7 :: v8 :: v :: r) (.int x :: st) := by
  obtain ⟨p, l, e, R, s, m, args, below, meth, c, Γ, A, Q⟩ := F
  obtain ⟨hx, hb, hml, hown, hts, hlk, rfl, hK, hA⟩ := hC
  subst hp
  intro H locs L hL hc0 hP hD hS
  refine lv_istore hx hb d (gass_has hL) (by rw [hml]; exact hn) rfl (fun L' h' => k H locs L' ?_ hc0 hP hD hS)
  exact gLoc_st1 (S := S) (v := .int x) (ls := v0 :: v1 :: v2 :: v3 :: v4 :: v5 :: v6 :: v7 :: v8 :: v :: r) h' (fun w hw _ => by cases hw; exact hc)
theorem g_istore_10 (hC : Cx F own cc nL rm) {v0 v1 v2 v3 v4 v5 v6 v7 v8 v9 : Value} {r : List Value} {x : Int32} {v : Value} (d : decode cc pc = .ok (.istore 10, 2)) (hp : pc + 2 = pc') (hn : 10 < nL) (hc : v9.category = 1) (k : G F S K X pc' (v0 :: v1 :: v2 :: v3 :: v4 :: v5 :: v6 :: v7 :: v8 :: v9 :: .int x :: r) st) : G F S K X pc (v0 :: v1 :: v2 :: v3 :: v4 :: v5 :: v6 :: v7 :: v8 :: v9 :: v :: r) (.int x :: st) := by
  obtain ⟨p, l, e, R, s, m, args, below, meth, c, Γ, A, Q⟩ := F
  obtain ⟨hx, hb, hml, hown, hts, hlk, rfl, hK, hA⟩ := hC
  subst hp
  intro H locs L hL hc0 hP hD hS
  refine lv_istore hx hb d (gass_has hL) (by rw [hml]; exact hn) rfl (fun L' h' => k H locs L' ?_ hc0 hP hD hS)
  exact gLoc_st1 (S := S) (v := .int x) (ls := v0 :: v1 :: v2 :: v3 :: v4 :: v5 :: v6 :: v7 :: v8 :: v9 :: v :: r) h' (fun w hw _ => by cases hw; exact hc)
theorem g_istore_11 (hC : Cx F own cc nL rm) {v0 v1 v2 v3 v4 v5 v6 v7 v8 v9 v10 : Value} {r : List Value} {x : Int32} {v : Value} (d : decode cc pc = .ok (.istore 11, 2)) (hp : pc + 2 = pc') (hn : 11 < nL) (hc : v10.category = 1) (k : G F S K X pc' (v0 :: v1 :: v2 :: v3 :: v4 :: v5 :: v6 :: v7 :: v8 :: v9 :: v10 :: .int x :: r) st) : G F S K X pc (v0 :: v1 :: v2 :: v3 :: v4 :: v5 :: v6 :: v7 :: v8 :: v9 :: v10 :: v :: r) (.int x :: st) := by
  obtain ⟨p, l, e, R, s, m, args, below, meth, c, Γ, A, Q⟩ := F
  obtain ⟨hx, hb, hml, hown, hts, hlk, rfl, hK, hA⟩ := hC
  subst hp
  intro H locs L hL hc0 hP hD hS
  refine lv_istore hx hb d (gass_has hL) (by rw [hml]; exact hn) rfl (fun L' h' => k H locs L' ?_ hc0 hP hD hS)
  exact gLoc_st1 (S := S) (v := .int x) (ls := v0 :: v1 :: v2 :: v3 :: v4 :: v5 :: v6 :: v7 :: v8 :: v9 :: v10 :: v :: r) h' (fun w hw _ => by cases hw; exact hc)
theorem g_astore_0 (hC : Cx F own cc nL rm) {r : List Value} {x : Nat} {v : Value} (d : decode cc pc = .ok (.astore_n 0, 1)) (hp : pc + 1 = pc') (hn : 0 < nL) (k : G F S K X pc' (.ref x :: r) st) : G F S K X pc (v :: r) (.ref x :: st) := by
  obtain ⟨p, l, e, R, s, m, args, below, meth, c, Γ, A, Q⟩ := F
  obtain ⟨hx, hb, hml, hown, hts, hlk, rfl, hK, hA⟩ := hC
  subst hp
  intro H locs L hL hc0 hP hD hS
  refine lv_astore_n hx hb d rfl (gass_has hL) (by rw [hml]; exact hn) rfl (fun L' h' => k H locs L' ?_ hc0 hP hD hS)
  exact gLoc_st1 (S := S) (v := .ref x) (ls := v :: r) h' (fun w _ h0 => absurd h0 (Nat.lt_irrefl 0))
theorem g_astore_1 (hC : Cx F own cc nL rm) {v0 : Value} {r : List Value} {x : Nat} {v : Value} (d : decode cc pc = .ok (.astore_n 1, 1)) (hp : pc + 1 = pc') (hn : 1 < nL) (hc : v0.category = 1) (k : G F S K X pc' (v0 :: .ref x :: r) st) : G F S K X pc (v0 :: v :: r) (.ref x :: st) := by
  obtain ⟨p, l, e, R, s, m, args, below, meth, c, Γ, A, Q⟩ := F
  obtain ⟨hx, hb, hml, hown, hts, hlk, rfl, hK, hA⟩ := hC
  subst hp
  intro H locs L hL hc0 hP hD hS
  refine lv_astore_n hx hb d rfl (gass_has hL) (by rw [hml]; exact hn) rfl (fun L' h' => k H locs L' ?_ hc0 hP hD hS)
  exact gLoc_st1 (S := S) (v := .ref x) (ls := v0 :: v :: r) h' (fun w hw _ => by cases hw; exact hc)
theorem g_astore_2 (hC : Cx F own cc nL rm) {v0 v1 : Value} {r : List Value} {x : Nat} {v : Value} (d : decode cc pc = .ok (.astore_n 2, 1)) (hp : pc + 1 = pc') (hn : 2 < nL) (hc : v1.category = 1) (k : G F S K X pc' (v0 :: v1 :: .ref x :: r) st) : G F S K X pc (v0 :: v1 :: v :: r) (.ref x :: st) := by
  obtain ⟨p, l, e, R, s, m, args, below, meth, c, Γ, A, Q⟩ := F
  obtain ⟨hx, hb, hml, hown, hts, hlk, rfl, hK, hA⟩ := hC
  subst hp
  intro H locs L hL hc0 hP hD hS
  refine lv_astore_n hx hb d rfl (gass_has hL) (by rw [hml]; exact hn) rfl (fun L' h' => k H locs L' ?_ hc0 hP hD hS)
  exact gLoc_st1 (S := S) (v := .ref x) (ls := v0 :: v1 :: v :: r) h' (fun w hw _ => by cases hw; exact hc)
theorem g_astore_3 (hC : Cx F own cc nL rm) {v0 v1 v2 : Value} {r : List Value} {x : Nat} {v : Value} (d : decode cc pc = .ok (.astore_n 3, 1)) (hp : pc + 1 = pc') (hn : 3 < nL) (hc : v2.category = 1) (k : G F S K X pc' (v0 :: v1 :: v2 :: .ref x :: r) st) : G F S K X pc (v0 :: v1 :: v2 :: v :: r) (.ref x :: st) := by
  obtain ⟨p, l, e, R, s, m, args, below, meth, c, Γ, A, Q⟩ := F
  obtain ⟨hx, hb, hml, hown, hts, hlk, rfl, hK, hA⟩ := hC
  subst hp
  intro H locs L hL hc0 hP hD hS
  refine lv_astore_n hx hb d rfl (gass_has hL) (by rw [hml]; exact hn) rfl (fun L' h' => k H locs L' ?_ hc0 hP hD hS)
  exact gLoc_st1 (S := S) (v := .ref x) (ls := v0 :: v1 :: v2 :: v :: r) h' (fun w hw _ => by cases hw; exact hc)
theorem g_astore_4 (hC : Cx F own cc nL rm) {v0 v1 v2 v3 : Value} {r : List Value} {x : Nat} {v : Value} (d : decode cc pc = .ok (.astore 4, 2)) (hp : pc + 2 = pc') (hn : 4 < nL) (hc : v3.category = 1) (k : G F S K X pc' (v0 :: v1 :: v2 :: v3 :: .ref x :: r) st) : G F S K X pc (v0 :: v1 :: v2 :: v3 :: v :: r) (.ref x :: st) := by
  obtain ⟨p, l, e, R, s, m, args, below, meth, c, Γ, A, Q⟩ := F
  obtain ⟨hx, hb, hml, hown, hts, hlk, rfl, hK, hA⟩ := hC
  subst hp
  intro H locs L hL hc0 hP hD hS
  refine lv_astore hx hb d (gass_has hL) (by rw [hml]; exact hn) rfl (fun L' h' => k H locs L' ?_ hc0 hP hD hS)
  exact gLoc_st1 (S := S) (v := .ref x) (ls := v0 :: v1 :: v2 :: v3 :: v :: r) h' (fun w hw _ => by cases hw; exact hc)
theorem g_astore_5 (hC : Cx F own cc nL rm) {v0 v1 v2 v3 v4 : Value} {r : List Value} {x : Nat} {v : Value} (d : decode cc pc = .ok (.astore 5, 2)) (hp : pc + 2 = pc') (hn : 5 < nL) (hc : v4.category = 1) (k : G F S K X pc' (v0 :: v1 :: v2 :: v3 :: v4 :: .ref x :: r) st) : G F S K X pc (v0 :: v1 :: v2 :: v3 :: v4 :: v :: r) (.ref x :: st) := by
  obtain ⟨p, l, e, R, s, m, args, below, meth, c, Γ, A, Q⟩ := F
  obtain ⟨hx, hb, hml, hown, hts, hlk, rfl, hK, hA⟩ := hC
  subst hp
  intro H locs L hL hc0 hP hD hS
  refine lv_astore hx hb d (gass_has hL) (by rw [hml]; exact hn) rfl (fun L' h' => k H locs L' ?_ hc0 hP hD hS)
  exact gLoc_st1 (S := S) (v := .ref x) (ls := v0 :: v1 :: v2 :: v3 :: v4 :: v :: r) h' (fun w hw _ => by cases hw; exact hc)
theorem g_astore_6 (hC : Cx F own cc nL rm) {v0 v1 v2 v3 v4 v5 : Value} {r : List Value} {x : Nat} {v : Value} (d : decode cc pc = .ok (.astore 6, 2)) (hp : pc + 2 = pc') (hn : 6 < nL) (hc : v5.category = 1) (k : G F S K X pc' (v0 :: v1 :: v2 :: v3 :: v4 :: v5 :: .ref x :: r) st) : G F S K X pc (v0 :: v1 :: v2 :: v3 :: v4 :: v5 :: v :: r) (.ref x :: st) := by
  obtain ⟨p, l, e, R, s, m, args, below, meth, c, Γ, A, Q⟩ := F
  obtain ⟨hx, hb, hml, hown, hts, hlk, rfl, hK, hA⟩ := hC
  subst hp
  intro H locs L hL hc0 hP hD hS
  refine lv_astore hx hb d (gass_has hL) (by rw [hml]; exact hn) rfl (fun L' h' => k H locs L' ?_ hc0 hP hD hS)
  exact gLoc_st1 (S := S) (v := .ref x) (ls := v0 :: v1 :: v2 :: v3 :: v4 :: v5 :: v :: r) h' (fun w hw _ => by cases hw; exact hc)
theorem g_astore_7 (hC : Cx F own cc nL rm) {v0 v1 v2 v3 v4 v5 v6 : Value} {r : List Value} {x : Nat} {v : Value} (d : decode cc pc = .ok (.astore 7, 2)) (hp : pc + 2 = pc') (hn : 7 < nL) (hc : v6.category = 1) (k : G F S K X pc' (v0 :: v1 :: v2 :: v3 :: v4 :: v5 :: v6 :: .ref x :: r) st) : G F S K X pc (v0 :: v1 :: v2 :: v3 :: v4 :: v5 :: v6 :: v :: r) (.ref x :: st) := by
  obtain ⟨p, l, e, R, s, m, args, below, meth, c, Γ, A, Q⟩ := F
  obtain ⟨hx, hb, hml, hown, hts, hlk, rfl, hK, hA⟩ := hC
  subst hp
  intro H locs L hL hc0 hP hD hS
  refine lv_astore hx hb d (gass_has hL) (by rw [hml]; exact hn) rfl (fun L' h' => k H locs L' ?_ hc0 hP hD hS)
  exact gLoc_st1 (S := S) (v := .ref x) (ls := v0 :: v1 :: v2 :: v3 :: v4 :: v5 :: v6 :: v :: r) h' (fun w hw _ => by cases hw; exact hc)
theorem g_astore_8 (hC : Cx F own cc nL rm) {v0 v1 v2 v3 v4 v5 v6 v7 : Value} {r : List Value} {x : Nat} {v : Value} (d : decode cc pc = .ok (.astore 8, 2)) (hp : pc + 2 = pc') (hn : 8 < nL) (hc : v7.category = 1) (k : G F S K X pc' (v0 :: v1 :: v2 :: v3 :: v4 :: v5 :: v6 :: v7 :: .ref x :: r) st) : G F S K X pc (v0 :: v1 :: v2 :: v3 :: v4 :: v5 :: v6 :: v7 :: v :: r) (.ref x :: st) := by
  obtain ⟨p, l, e, R, s, m, args, below, meth, c, Γ, A, Q⟩ := F
  obtain ⟨hx, hb, hml, hown, hts, hlk, rfl, hK, hA⟩ := hC
  subst hp
  intro H locs L hL hc0 hP hD hS
  refine lv_astore hx hb d (gass_has hL) (by rw [hml]; exact hn) rfl (fun L' h' => k H locs L' ?_ hc0 hP hD hS)
  exact gLoc_st1 (S := S) (v := .ref x) (ls := v0 :: v1 :: v2 :: v3 :: v4 :: v5 :: v6 :: v7 :: v :: r) h' (fun w hw _ => by cases hw; exact hc)
theorem g_astore_9 (hC : Cx F own cc nL rm) {v0 v1 v2 v3 v4 v5 v6 v7 v8 : Value} {r : List Value} {x : Nat} {v : Value} (d : decode cc pc = .ok (.astore 9, 2)) (hp : pc + 2 = pc') (hn : 9 < nL) (hc : v8.category = 1) (k : G F S K X pc' (v0 :: v1 :: v2 :: v3 :: v4 :: v5 :: v6 :: v7 :: v8 :: .ref x :: r) st) : G F S K X pc (v0 :: v1 :: v2 :: v3 :: v4 :: v5 :: v6 :: v7 :: v8 :: v :: r) (.ref x :: st) := by
  obtain ⟨p, l, e, R, s, m, args, below, meth, c, Γ, A, Q⟩ := F
  obtain ⟨hx, hb, hml, hown, hts, hlk, rfl, hK, hA⟩ := hC
  subst hp
  intro H locs L hL hc0 hP hD hS
  refine lv_astore hx hb d (gass_has hL) (by rw [hml]; exact hn) rfl (fun L' h' => k H locs L' ?_ hc0 hP hD hS)
  exact gLoc_st1 (S := S) (v := .ref x) (ls := v0 :: v1 :: v2 :: v3 :: v4 :: v5 :: v6 :: v7 :: v8 :: v :: r) h' (fun w hw _ => by cases hw; exact hc)
theorem g_astore_10 (hC : Cx F own cc nL rm) {v0 v1 v2 v3 v4 v5 v6 v7 v8 v9 : Value} {r : List Value} {x : Nat} {v : Value} (d : decode cc pc = .ok (.astore 10, 2)) (hp : pc + 2 = pc') (hn : 10 < nL) (hc : v9.category = 1) (k : G F S K X pc' (v0 :: v1 :: v2 :: v3 :: v4 :: v5 :: v6 :: v7 :: v8 :: v9 :: .ref x :: r) st) : G F S K X pc (v0 :: v1 :: v2 :: v3 :: v4 :: v5 :: v6 :: v7 :: v8 :: v9 :: v :: r) (.ref x :: st) := by
  obtain ⟨p, l, e, R, s, m, args, below, meth, c, Γ, A, Q⟩ := F
  obtain ⟨hx, hb, hml, hown, hts, hlk, rfl, hK, hA⟩ := hC
  subst hp
  intro H locs L hL hc0 hP hD hS
  refine lv_astore hx hb d (gass_has hL) (by rw [hml]; exact hn) rfl (fun L' h' => k H locs L' ?_ hc0 hP hD hS)
  exact gLoc_st1 (S := S) (v := .ref x) (ls := v0 :: v1 :: v2 :: v3 :: v4 :: v5 :: v6 :: v7 :: v8 :: v9 :: v :: r) h' (fun w hw _ => by cases hw; exact hc)
theorem g_astore_11 (hC : Cx F own cc nL rm) {v0 v1 v2 v3 v4 v5 v6 v7 v8 v9 v10 : Value} {r : List Value} {x : Nat} {v : Value} (d : decode cc pc = .ok (.astore 11, 2)) (hp : pc + 2 = pc') (hn : 11 < nL) (hc : v10.category = 1) (k : G F S K X pc' (v0 :: v1 :: v2 :: v3 :: v4 :: v5 :: v6 :: v7 :: v8 :: v9 :: v10 :: .ref x :: r) st) : G F S K X pc (v0 :: v1 :: v2 :: v3 :: v4 :: v5 :: v6 :: v7 :: v8 :: v9 :: v10 :: v :: r) (.ref x :: st) := by
  obtain ⟨p, l, e, R, s, m, args, below, meth, c, Γ, A, Q⟩ := F
  obtain ⟨hx, hb, hml, hown, hts, hlk, rfl, hK, hA⟩ := hC
  subst hp
  intro H locs L hL hc0 hP hD hS
  refine lv_astore hx hb d (gass_has hL) (by rw [hml]; exact hn) rfl (fun L' h' => k H locs L' ?_ hc0 hP hD hS)
  exact gLoc_st1 (S := S) (v := .ref x) (ls := v0 :: v1 :: v2 :: v3 :: v4 :: v5 :: v6 :: v7 :: v8 :: v9 :: v10 :: v :: r) h' (fun w hw _ => by cases hw; exact hc)
theorem g_lstore_0 (hC : Cx F own cc nL rm) {r : List Value} {x : Int64} {v v' : Value} (d : decode cc pc = .ok (.lstore_n 0, 1)) (hp : pc + 1 = pc') (hn : 0 + 1 < nL) (k : G F S K X pc' (.long x :: .null :: r) st) : G F S K X pc (v :: v' :: r) (.long x :: st) := by
  obtain ⟨p, l, e, R, s, m, args, below, meth, c, Γ, A, Q⟩ := F
  obtain ⟨hx, hb, hml, hown, hts, hlk, rfl, hK, hA⟩ := hC
  subst hp
  intro H locs L hL hc0 hP hD hS
  refine lv_lstore_n hx hb d rfl (gass_has hL) (by rw [hml]; exact hn) rfl (fun L' h' => k H locs L' ?_ hc0 hP hD hS)
  exact gLoc_st2 (S := S) (v := .long x) (ls := v :: v' :: r) h' (fun w _ h0 => absurd h0 (Nat.lt_irrefl 0))
theorem g_lstore_1 (hC : Cx F own cc nL rm) {v0 : Value} {r : List Value} {x : Int64} {v v' : Value} (d : decode cc pc = .ok (.lstore_n 1, 1)) (hp : pc + 1 = pc') (hn : 1 + 1 < nL) (hc : v0.category = 1) (k : G F S K X pc' (v0 :: .long x :: .null :: r) st) : G F S K X pc (v0 :: v :: v' :: r) (.long x :: st) := by
  obtain ⟨p, l, e, R, s, m, args, below, meth, c, Γ, A, Q⟩ := F
  obtain ⟨hx, hb, hml, hown, hts, hlk, rfl, hK, hA⟩ := hC
  subst hp
  intro H locs L hL hc0 hP hD hS
  refine lv_lstore_n hx hb d rfl (gass_has hL) (by rw [hml]; exact hn) rfl (fun L' h' => k H locs L' ?_ hc0 hP hD hS)
  exact gLoc_st2 (S := S) (v := .long x) (ls := v0 :: v :: v' :: r) h' (fun w hw _ => by cases hw; exact hc)
theorem g_lstore_2 (hC : Cx F own cc nL rm) {v0 v1 : Value} {r : List Value} {x : Int64} {v v' : Value} (d : decode cc pc = .ok (.lstore_n 2, 1)) (hp : pc + 1 = pc') (hn : 2 + 1 < nL) (hc : v1.category = 1) (k : G F S K X pc' (v0 :: v1 :: .long x :: .null :: r) st) : G F S K X pc (v0 :: v1 :: v :: v' :: r) (.long x :: st) := by
  obtain ⟨p, l, e, R, s, m, args, below, meth, c, Γ, A, Q⟩ := F
  obtain ⟨hx, hb, hml, hown, hts, hlk, rfl, hK, hA⟩ := hC
  subst hp
  intro H locs L hL hc0 hP hD hS
  refine lv_lstore_n hx hb d rfl (gass_has hL) (by rw [hml]; exact hn) rfl (fun L' h' => k H locs L' ?_ hc0 hP hD hS)
  exact gLoc_st2 (S := S) (v := .long x) (ls := v0 :: v1 :: v :: v' :: r) h' (fun w hw _ => by cases hw; exact hc)
theorem g_lstore_3 (hC : Cx F own cc nL rm) {v0 v1 v2 : Value} {r : List Value} {x : Int64} {v v' : Value} (d : decode cc pc = .ok (.lstore_n 3, 1)) (hp : pc + 1 = pc') (hn : 3 + 1 < nL) (hc : v2.category = 1) (k : G F S K X pc' (v0 :: v1 :: v2 :: .long x :: .null :: r) st) : G F S K X pc (v0 :: v1 :: v2 :: v :: v' :: r) (.long x :: st) := by
  obtain ⟨p, l, e, R, s, m, args, below, meth, c, Γ, A, Q⟩ := F
  obtain ⟨hx, hb, hml, hown, hts, hlk, rfl, hK, hA⟩ := hC
  subst hp
  intro H locs L hL hc0 hP hD hS
  refine lv_lstore_n hx hb d rfl (gass_has hL) (by rw [hml]; exact hn) rfl (fun L' h' => k H locs L' ?_ hc0 hP hD hS)
  exact gLoc_st2 (S := S) (v := .long x) (ls := v0 :: v1 :: v2 :: v :: v' :: r) h' (fun w hw _ => by cases hw; exact hc)
theorem g_lstore_4 (hC : Cx F own cc nL rm) {v0 v1 v2 v3 : Value} {r : List Value} {x : Int64} {v v' : Value} (d : decode cc pc = .ok (.lstore 4, 2)) (hp : pc + 2 = pc') (hn : 4 + 1 < nL) (hc : v3.category = 1) (k : G F S K X pc' (v0 :: v1 :: v2 :: v3 :: .long x :: .null :: r) st) : G F S K X pc (v0 :: v1 :: v2 :: v3 :: v :: v' :: r) (.long x :: st) := by
  obtain ⟨p, l, e, R, s, m, args, below, meth, c, Γ, A, Q⟩ := F
  obtain ⟨hx, hb, hml, hown, hts, hlk, rfl, hK, hA⟩ := hC
  subst hp
  intro H locs L hL hc0 hP hD hS
  refine lv_lstore hx hb d (gass_has hL) (by rw [hml]; exact hn) rfl (fun L' h' => k H locs L' ?_ hc0 hP hD hS)
  exact gLoc_st2 (S := S) (v := .long x) (ls := v0 :: v1 :: v2 :: v3 :: v :: v' :: r) h' (fun w hw _ => by cases hw; exact hc)
theorem g_lstore_5 (hC : Cx F own cc nL rm) {v0 v1 v2 v3 v4 : Value} {r : List Value} {x : Int64} {v v' : Value} (d : decode cc pc = .ok (.lstore 5, 2)) (hp : pc + 2 = pc') (hn : 5 + 1 < nL) (hc : v4.category = 1) (k : G F S K X pc' (v0 :: v1 :: v2 :: v3 :: v4 :: .long x :: .null :: r) st) : G F S K X pc (v0 :: v1 :: v2 :: v3 :: v4 :: v :: v' :: r) (.long x :: st) := by
  obtain ⟨p, l, e, R, s, m, args, below, meth, c, Γ, A, Q⟩ := F
  obtain ⟨hx, hb, hml, hown, hts, hlk, rfl, hK, hA⟩ := hC
  subst hp
  intro H locs L hL hc0 hP hD hS
  refine lv_lstore hx hb d (gass_has hL) (by rw [hml]; exact hn) rfl (fun L' h' => k H locs L' ?_ hc0 hP hD hS)
  exact gLoc_st2 (S := S) (v := .long x) (ls := v0 :: v1 :: v2 :: v3 :: v4 :: v :: v' :: r) h' (fun w hw _ => by cases hw; exact hc)
theorem g_lstore_6 (hC : Cx F own cc nL rm) {v0 v1 v2 v3 v4 v5 : Value} {r : List Value} {x : Int64} {v v' : Value} (d : decode cc pc = .ok (.lstore 6, 2)) (hp : pc + 2 = pc') (hn : 6 + 1 < nL) (hc : v5.category = 1) (k : G F S K X pc' (v0 :: v1 :: v2 :: v3 :: v4 :: v5 :: .long x :: .null :: r) st) : G F S K X pc (v0 :: v1 :: v2 :: v3 :: v4 :: v5 :: v :: v' :: r) (.long x :: st) := by
  obtain ⟨p, l, e, R, s, m, args, below, meth, c, Γ, A, Q⟩ := F
  obtain ⟨hx, hb, hml, hown, hts, hlk, rfl, hK, hA⟩ := hC
  subst hp
  intro H locs L hL hc0 hP hD hS
  refine lv_lstore hx hb d (gass_has hL) (by rw [hml]; exact hn) rfl (fun L' h' => k H locs L' ?_ hc0 hP hD hS)
  exact gLoc_st2 (S := S) (v := .long x) (ls := v0 :: v1 :: v2 :: v3 :: v4 :: v5 :: v :: v' :: r) h' (fun w hw _ => by cases hw; exact hc)
theorem g_lstore_7 (hC : Cx F own cc nL rm) {v0 v1 v2 v3 v4 v5 v6 : Value} {r : List Value} {x : Int64} {v v' : Value} (d : decode cc pc = .ok (.lstore 7, 2)) (hp : pc + 2 = pc') (hn : 7 + 1 < nL) (hc : v6.category = 1) (k : G F S K X pc' (v0 :: v1 :: v2 :: v3 :: v4 :: v5 :: v6 :: .long x :: .null :: r) st) : G F S K X pc (v0 :: v1 :: v2 :: v3 :: v4 :: v5 :: v6 :: v :: v' :: r) (.long x :: st) := by
  obtain ⟨p, l, e, R, s, m, args, below, meth, c, Γ, A, Q⟩ := F
  obtain ⟨hx, hb, hml, hown, hts, hlk, rfl, hK, hA⟩ := hC
  subst hp
  intro H locs L hL hc0 hP hD hS
  refine lv_lstore hx hb d (gass_has hL) (by rw [hml]; exact hn) rfl (fun L' h' => k H locs L' ?_ hc0 hP hD hS)
  exact gLoc_st2 (S := S) (v := .long x) (ls := v0 :: v1 :: v2 :: v3 :: v4 :: v5 :: v6 :: v :: v' :: r) h' (fun w hw _ => by cases hw; exact hc)
theorem g_lstore_8 (hC : Cx F own cc nL rm) {v0 v1 v2 v3 v4 v5 v6 v7 : Value} {r : List Value} {x : Int64} {v v' : Value} (d : decode cc pc = .ok (.lstore 8, 2)) (hp : pc + 2 = pc') (hn : 8 + 1 < nL) (hc : v7.category = 1) (k : G F S K X pc' (v0 :: v1 :: v2 :: v3 :: v4 :: v5 :: v6 :: v7 :: .long x :: .null :: r) st) : G F S K X pc (v0 :: v1 :: v2 :: v3 :: v4 :: v5 :: v6 :: v7 :: v :: v' :: r) (.long x :: st) := by
  obtain ⟨p, l, e, R, s, m, args, below, meth, c, Γ, A, Q⟩ := F
  obtain ⟨hx, hb, hml, hown, hts, hlk, rfl, hK, hA⟩ := hC
  subst hp
  intro H locs L hL hc0 hP hD hS
  refine lv_lstore hx hb d (gass_has hL) (by rw [hml]; exact hn) rfl (fun L' h' => k H locs L' ?_ hc0 hP hD hS)
  exact gLoc_st2 (S := S) (v := .long x) (ls := v0 :: v1 :: v2 :: v3 :: v4 :: v5 :: v6 :: v7 :: v :: v' :: r) h' (fun w hw _ => by cases hw; exact hc)
theorem g_lstore_9 (hC : Cx F own cc nL rm) {v0 v1 v2 v3 v4 v5 v6 v7 v8 : Value} {r : List Value} {x : Int64} {v v' : Value} (d : decode cc pc = .ok (.lstore 9, 2)) (hp : pc + 2 = pc') (hn : 9 + 1 < nL) (hc : v8.category = 1) (k : G F S K X pc' (v0 :: v1 :: v2 :: v3 :: v4 :: v5 :: v6 :: v7 :: v8 :: .long x :: .null :: r) st) : G F S K X pc (v0 :: v1 :: v2 :: v3 :: v4 :: v5 :: v6 :: v7 :: v8 :: v :: v' :: r) (.long x :: st) := by
  obtain ⟨p, l, e, R, s, m, args, below, meth, c, Γ, A, Q⟩ := F
  obtain ⟨hx, hb, hml, hown, hts, hlk, rfl, hK, hA⟩ := hC
  subst hp
  intro H locs L hL hc0 hP hD hS
  refine lv_lstore hx hb d (gass_has hL) (by rw [hml]; exact hn) rfl (fun L' h' => k H locs L' ?_ hc0 hP hD hS)
  exact gLoc_st2 (S := S) (v := .long x) (ls := v0 :: v1 :: v2 :: v3 :: v4 :: v5 :: v6 :: v7 :: v8 :: v :: v' :: r) h' (fun w hw _ => by cases hw; exact hc)
theorem g_lstore_10 (hC : Cx F own cc nL rm) {v0 v1 v2 v3 v4 v5 v6 v7 v8 v9 : Value} {r : List Value} {x : Int64} {v v' : Value} (d : decode cc pc = .ok (.lstore 10, 2)) (hp : pc + 2 = pc') (hn : 10 + 1 < nL) (hc : v9.category = 1) (k : G F S K X pc' (v0 :: v1 :: v2 :: v3 :: v4 :: v5 :: v6 :: v7 :: v8 :: v9 :: .long x :: .null :: r) st) : G F S K X pc (v0 :: v1 :: v2 :: v3 :: v4 :: v5 :: v6 :: v7 :: v8 :: v9 :: v :: v' :: r) (.long x :: st) := by
  obtain ⟨p, l, e, R, s, m, args, below, meth, c, Γ, A, Q⟩ := F
  obtain ⟨hx, hb, hml, hown, hts, hlk, rfl, hK, hA⟩ := hC
  subst hp
  intro H locs L hL hc0 hP hD hS
  refine lv_lstore hx hb d (gass_has hL) (by rw [hml]; exact hn) rfl (fun L' h' => k H locs L' ?_ hc0 hP hD hS)
  exact gLoc_st2 (S := S) (v := .long x) (ls := v0 :: v1 :: v2 :: v3 :: v4 :: v5 :: v6 :: v7 :: v8 :: v9 :: v :: v' :: r) h' (fun w hw _ => by cases hw; exact hc)
theorem g_iinc_0 (hC : Cx F own cc nL rm) {r : List Value} {x v : Int32} {n : Int} (d : decode cc pc = .ok (.iinc 0 n, 3)) (hp : pc + 3 = pc') (hn : 0 < nL) (hv : x + Int32.ofInt n = v) (k : G F S K X pc' (.int v :: r) st) : G F S K X pc (.int x :: r) st := by
  obtain ⟨p, l, e, R, s, m, args, below, meth, c, Γ, A, Q⟩ := F
  obtain ⟨hx, hb, hml, hown, hts, hlk, rfl, hK, hA⟩ := hC
  subst hp
  intro H locs L hL hc0 hP hD hS
  obtain ⟨j, hj⟩ := List.getElem?_of_mem (gass_mem (S := S) (ls := .int x :: r) (i := 0) (v := .int x) rfl (fun h => by cases h))
  refine lv_iinc hx hb d (gass_has hL) hj hv (by rw [hml]; exact hn) rfl (fun L' h' => k H locs L' ?_ hc0 hP hD hS)
  exact gLoc_st1 (S := S) (v := .int v) (ls := .int x :: r) h' (fun w _ h0 => absurd h0 (Nat.lt_irrefl 0))
theorem g_iinc_1 (hC : Cx F own cc nL rm) {v0 : Value} {r : List Value} {x v : Int32} {n : Int} (d : decode cc pc = .ok (.iinc 1 n, 3)) (hp : pc + 3 = pc') (hn : 1 < nL) (hc : v0.category = 1) (hv : x + Int32.ofInt n = v) (k : G F S K X pc' (v0 :: .int v :: r) st) : G F S K X pc (v0 :: .int x :: r) st := by
  obtain ⟨p, l, e, R, s, m, args, below, meth, c, Γ, A, Q⟩ := F
  obtain ⟨hx, hb, hml, hown, hts, hlk, rfl, hK, hA⟩ := hC
  subst hp
  intro H locs L hL hc0 hP hD hS
  obtain ⟨j, hj⟩ := List.getElem?_of_mem (gass_mem (S := S) (ls := v0 :: .int x :: r) (i := 1) (v := .int x) rfl (fun h => by cases h))
  refine lv_iinc hx hb d (gass_has hL) hj hv (by rw [hml]; exact hn) rfl (fun L' h' => k H locs L' ?_ hc0 hP hD hS)
  exact gLoc_st1 (S := S) (v := .int v) (ls := v0 :: .int x :: r) h' (fun w hw _ => by cases hw; exact hc)
theorem g_iinc_2 (hC : Cx F own cc nL rm) {v0 v1 : Value} {r : List Value} {x v : Int32} {n : Int} (d : decode cc pc = .ok (.iinc 2 n, 3)) (hp : pc + 3 = pc') (hn : 2 < nL) (hc : v1.category = 1) (hv : x + Int32.ofInt n = v) (k : G F S K X pc' (v0 :: v1 :: .int v :: r) st) : G F S K X pc (v0 :: v1 :: .int x :: r) st := by
  obtain ⟨p, l, e, R, s, m, args, below, meth, c, Γ, A, Q⟩ := F
  obtain ⟨hx, hb, hml, hown, hts, hlk, rfl, hK, hA⟩ := hC
  subst hp
  intro H locs L hL hc0 hP hD hS
  obtain ⟨j, hj⟩ := List.getElem?_of_mem (gass_mem (S := S) (ls := v0 :: v1 :: .int x :: r) (i := 2) (v := .int x) rfl (fun h => by cases h))
  refine lv_iinc hx hb d (gass_has hL) hj hv (by rw [hml]; exact hn) rfl (fun L' h' => k H locs L' ?_ hc0 hP hD hS)
  exact gLoc_st1 (S := S) (v := .int v) (ls := v0 :: v1 :: .int x :: r) h' (fun w hw _ => by cases hw; exact hc)
theorem g_iinc_3 (hC : Cx F own cc nL rm) {v0 v1 v2 : Value} {r : List Value} {x v : Int32} {n : Int} (d : decode cc pc = .ok (.iinc 3 n, 3)) (hp : pc + 3 = pc') (hn : 3 < nL) (hc : v2.category = 1) (hv : x + Int32.ofInt n = v) (k : G F S K X pc' (v0 :: v1 :: v2 :: .int v :: r) st) : G F S K X pc (v0 :: v1 :: v2 :: .int x :: r) st := by
  obtain ⟨p, l, e, R, s, m, args, below, meth, c, Γ, A, Q⟩ := F
  obtain ⟨hx, hb, hml, hown, hts, hlk, rfl, hK, hA⟩ := hC
  subst hp
  intro H locs L hL hc0 hP hD hS
  obtain ⟨j, hj⟩ := List.getElem?_of_mem (gass_mem (S := S) (ls := v0 :: v1 :: v2 :: .int x :: r) (i := 3) (v := .int x) rfl (fun h => by cases h))
  refine lv_iinc hx hb d (gass_has hL) hj hv (by rw [hml]; exact hn) rfl (fun L' h' => k H locs L' ?_ hc0 hP hD hS)
  exact gLoc_st1 (S := S) (v := .int v) (ls := v0 :: v1 :: v2 :: .int x :: r) h' (fun w hw _ => by cases hw; exact hc)
theorem g_iinc_4 (hC : Cx F own cc nL rm) {v0 v1 v2 v3 : Value} {r : List Value} {x v : Int32} {n : Int} (d : decode cc pc = .ok (.iinc 4 n, 3)) (hp : pc + 3 = pc') (hn : 4 < nL) (hc : v3.category = 1) (hv : x + Int32.ofInt n = v) (k : G F S K X pc' (v0 :: v1 :: v2 :: v3 :: .int v :: r) st) : G F S K X pc (v0 :: v1 :: v2 :: v3 :: .int x :: r) st := by
  obtain ⟨p, l, e, R, s, m, args, below, meth, c, Γ, A, Q⟩ := F
  obtain ⟨hx, hb, hml, hown, hts, hlk, rfl, hK, hA⟩ := hC
  subst hp
  intro H locs L hL hc0 hP hD hS
  obtain ⟨j, hj⟩ := List.getElem?_of_mem (gass_mem (S := S) (ls := v0 :: v1 :: v2 :: v3 :: .int x :: r) (i := 4) (v := .int x) rfl (fun h => by cases h))
  refine lv_iinc hx hb d (gass_has hL) hj hv (by rw [hml]; exact hn) rfl (fun L' h' => k H locs L' ?_ hc0 hP hD hS)
  exact gLoc_st1 (S := S) (v := .int v) (ls := v0 :: v1 :: v2 :: v3 :: .int x :: r) h' (fun w hw _ => by cases hw; exact hc)
theorem g_iinc_5 (hC : Cx F own cc nL rm) {v0 v1 v2 v3 v4 : Value} {r : List Value} {x v : Int32} {n : Int} (d : decode cc pc = .ok (.iinc 5 n, 3)) (hp : pc + 3 = pc') (hn : 5 < nL) (hc : v4.category = 1) (hv : x + Int32.ofInt n = v) (k : G F S K X pc' (v0 :: v1 :: v2 :: v3 :: v4 :: .int v :: r) st) : G F S K X pc (v0 :: v1 :: v2 :: v3 :: v4 :: .int x :: r) st := by
  obtain ⟨p, l, e, R, s, m, args, below, meth, c, Γ, A, Q⟩ := F
  obtain ⟨hx, hb, hml, hown, hts, hlk, rfl, hK, hA⟩ := hC
  subst hp
  intro H locs L hL hc0 hP hD hS
  obtain ⟨j, hj⟩ := List.getElem?_of_mem (gass_mem (S := S) (ls := v0 :: v1 :: v2 :: v3 :: v4 :: .int x :: r) (i := 5) (v := .int x) rfl (fun h => by cases h))
  refine lv_iinc hx hb d (gass_has hL) hj hv (by rw [hml]; exact hn) rfl (fun L' h' => k H locs L' ?_ hc0 hP hD hS)
  exact gLoc_st1 (S := S) (v := .int v) (ls := v0 :: v1 :: v2 :: v3 :: v4 :: .int x :: r) h' (fun w hw _ => by cases hw; exact hc)
theorem g_iinc_6 (hC : Cx F own cc nL rm) {v0 v1 v2 v3 v4 v5 : Value} {r : List Value} {x v : Int32} {n : Int} (d : decode cc pc = .ok (.iinc 6 n, 3)) (hp : pc + 3 = pc') (hn : 6 < nL) (hc : v5.category = 1) (hv : x + Int32.ofInt n = v) (k : G F S K X pc' (v0 :: v1 :: v2 :: v3 :: v4 :: v5 :: .int v :: r) st) : G F S K X pc (v0 :: v1 :: v2 :: v3 :: v4 :: v5 :: .int x :: r) st := by
  obtain ⟨p, l, e, R, s, m, args, below, meth, c, Γ, A, Q⟩ := F
  obtain ⟨hx, hb, hml, hown, hts, hlk, rfl, hK, hA⟩ := hC
  subst hp
  intro H locs L hL hc0 hP hD hS
  obtain ⟨j, hj⟩ := List.getElem?_of_mem (gass_mem (S := S) (ls := v0 :: v1 :: v2 :: v3 :: v4 :: v5 :: .int x :: r) (i := 6) (v := .int x) rfl (fun h => by cases h))
  refine lv_iinc hx hb d (gass_has hL) hj hv (by rw [hml]; exact hn) rfl (fun L' h' => k H locs L' ?_ hc0 hP hD hS)
  exact gLoc_st1 (S := S) (v := .int v) (ls := v0 :: v1 :: v2 :: v3 :: v4 :: v5 :: .int x :: r) h' (fun w hw _ => by cases hw; exact hc)
theorem g_iinc_7 (hC : Cx F own cc nL rm) {v0 v1 v2 v3 v4 v5 v6 : Value} {r : List Value} {x v : Int32} {n : Int} (d : decode cc pc = .ok (.iinc 7 n, 3)) (hp : pc + 3 = pc') (hn : 7 < nL) (hc : v6.category = 1) (hv : x + Int32.ofInt n = v) (k : G F S K X pc' (v0 :: v1 :: v2 :: v3 :: v4 :: v5 :: v6 :: .int v :: r) st) : G F S K X pc (v0 :: v1 :: v2 :: v3 :: v4 :: v5 :: v6 :: .int x :: r) st := by
  obtain ⟨p, l, e, R, s, m, args, below, meth, c, Γ, A, Q⟩ := F
  obtain ⟨hx, hb, hml, hown, hts, hlk, rfl, hK, hA⟩ := hC
  subst hp
  intro H locs L hL hc0 hP hD hS
  obtain ⟨j, hj⟩ := List.getElem?_of_mem (gass_mem (S := S) (ls := v0 :: v1 :: v2 :: v3 :: v4 :: v5 :: v6 :: .int x :: r) (i := 7) (v := .int x) rfl (fun h => by cases h))
  refine lv_iinc hx hb d (gass_has hL) hj hv (by rw [hml]; exact hn) rfl (fun L' h' => k H locs L' ?_ hc0 hP hD hS)
  exact gLoc_st1 (S := S) (v := .int v) (ls := v0 :: v1 :: v2 :: v3 :: v4 :: v5 :: v6 :: .int x :: r) h' (fun w hw _ => by cases hw; exact hc)
theorem g_iinc_8 (hC : Cx F own cc nL rm) {v0 v1 v2 v3 v4 v5 v6 v7 : Value} {r : List Value} {x v : Int32} {n : Int} (d : decode cc pc = .ok (.iinc 8 n, 3)) (hp : pc + 3 = pc') (hn : 8 < nL) (hc : v7.category = 1) (hv : x + Int32.ofInt n = v) (k : G F S K X pc' (v0 :: v1 :: v2 :: v3 :: v4 :: v5 :: v6 :: v7 :: .int v :: r) st) : G F S K X pc (v0 :: v1 :: v2 :: v3 :: v4 :: v5 :: v6 :: v7 :: .int x :: r) st := by
  obtain ⟨p, l, e, R, s, m, args, below, meth, c, Γ, A, Q⟩ := F
  obtain ⟨hx, hb, hml, hown, hts, hlk, rfl, hK, hA⟩ := hC
  subst hp
  intro H locs L hL hc0 hP hD hS
  obtain ⟨j, hj⟩ := List.getElem?_of_mem (gass_mem (S := S) (ls := v0 :: v1 :: v2 :: v3 :: v4 :: v5 :: v6 :: v7 :: .int x :: r) (i := 8) (v := .int x) rfl (fun h => by cases h))
  refine lv_iinc hx hb d (gass_has hL) hj hv (by rw [hml]; exact hn) rfl (fun L' h' => k H locs L' ?_ hc0 hP hD hS)
  exact gLoc_st1 (S := S) (v := .int v) (ls := v0 :: v1 :: v2 :: v3 :: v4 :: v5 :: v6 :: v7 :: .int x :: r) h' (fun w hw _ => by cases hw; exact hc)
theorem g_iinc_9 (hC : Cx F own cc nL rm) {v0 v1 v2 v3 v4 v5 v6 v7 v8 : Value} {r : List Value} {x v : Int32} {n : Int} (d : decode cc pc = .ok (.iinc 9 n, 3)) (hp : pc + 3 = pc') (hn : 9 < nL) (hc : v8.category = 1) (hv : x + Int32.ofInt n = v) (k : G F S K X pc' (v0 :: v1 :: v2 :: v3 :: v4 :: v5 :: v6 :: v7 :: v8 :: .int v :: r) st) : G F S K X pc (v0 :: v1 :: v2 :: v3 :: v4 :: v5 :: v6 :: v7 :: v8 :: .int x :: r) st := by
  obtain ⟨p, l, e, R, s, m, args, below, meth, c, Γ, A, Q⟩ := F
  obtain ⟨hx, hb, hml, hown, hts, hlk, rfl, hK, hA⟩ := hC
  subst hp
  intro H locs L hL hc0 hP hD hS
  obtain ⟨j, hj⟩ := List.getElem?_of_mem (gass_mem (S := S) (ls := v0 :: v1 :: v2 :: v3 :: v4 :: v5 :: v6 :: v7 :: v8 :: .int x :: r) (i := 9) (v := .int x) rfl (fun h => by cases h))
  refine lv_iinc hx hb d (gass_has hL) hj hv (by rw [hml]; exact hn) rfl (fun L' h' => k H locs L' ?_ hc0 hP hD hS)
  exact gLoc_st1 (S := S) (v := .int v) (ls := v0 :: v1 :: v2 :: v3 :: v4 :: v5 :: v6 :: v7 :: v8 :: .int x :: r) h' (fun w hw _ => by cases hw; exact hc)
theorem g_iinc_10 (hC : Cx F own cc nL rm) {v0 v1 v2 v3 v4 v5 v6 v7 v8 v9 : Value} {r : List Value} {x v : Int32} {n : Int} (d : decode cc pc = .ok (.iinc 10 n, 3)) (hp : pc + 3 = pc') (hn : 10 < nL) (hc : v9.category = 1) (hv : x + Int32.ofInt n = v) (k : G F S K X pc' (v0 :: v1 :: v2 :: v3 :: v4 :: v5 :: v6 :: v7 :: v8 :: v9 :: .int v :: r) st) : G F S K X pc (v0 :: v1 :: v2 :: v3 :: v4 :: v5 :: v6 :: v7 :: v8 :: v9 :: .int x :: r) st := by
  obtain ⟨p, l, e, R, s, m, args, below, meth, c, Γ, A, Q⟩ := F
  obtain ⟨hx, hb, hml, hown, hts, hlk, rfl, hK, hA⟩ := hC
  subst hp
  intro H locs L hL hc0 hP hD hS
  obtain ⟨j, hj⟩ := List.getElem?_of_mem (gass_mem (S := S) (ls := v0 :: v1 :: v2 :: v3 :: v4 :: v5 :: v6 :: v7 :: v8 :: v9 :: .int x :: r) (i := 10) (v := .int x) rfl (fun h => by cases h))
  refine lv_iinc hx hb d (gass_has hL) hj hv (by rw [hml]; exact hn) rfl (fun L' h' => k H locs L' ?_ hc0 hP hD hS)
  exact gLoc_st1 (S := S) (v := .int v) (ls := v0 :: v1 :: v2 :: v3 :: v4 :: v5 :: v6 :: v7 :: v8 :: v9 :: .int x :: r) h' (fun w hw _ => by cases hw; exact hc)
theorem g_iinc_11 (hC : Cx F own cc nL rm) {v0 v1 v2 v3 v4 v5 v6 v7 v8 v9 v10 : Value} {r : List Value} {x v : Int32} {n : Int} (d : decode cc pc = .ok (.iinc 11 n, 3)) (hp : pc + 3 = pc') (hn : 11 < nL) (hc : v10.category = 1) (hv : x + Int32.ofInt n = v) (k : G F S K X pc' (v0 :: v1 :: v2 :: v3 :: v4 :: v5 :: v6 :: v7 :: v8 :: v9 :: v10 :: .int v :: r) st) : G F S K X pc (v0 :: v1 :: v2 :: v3 :: v4 :: v5 :: v6 :: v7 :: v8 :: v9 :: v10 :: .int x :: r) st := by
  obtain ⟨p, l, e, R, s, m, args, below, meth, c, Γ, A, Q⟩ := F
  obtain ⟨hx, hb, hml, hown, hts, hlk, rfl, hK, hA⟩ := hC
  subst hp
  intro H locs L hL hc0 hP hD hS
  obtain ⟨j, hj⟩ := List.getElem?_of_mem (gass_mem (S := S) (ls := v0 :: v1 :: v2 :: v3 :: v4 :: v5 :: v6 :: v7 :: v8 :: v9 :: v10 :: .int x :: r) (i := 11) (v := .int x) rfl (fun h => by cases h))
  refine lv_iinc hx hb d (gass_has hL) hj hv (by rw [hml]; exact hn) rfl (fun L' h' => k H locs L' ?_ hc0 hP hD hS)
  exact gLoc_st1 (S := S) (v := .int v) (ls := v0 :: v1 :: v2 :: v3 :: v4 :: v5 :: v6 :: v7 :: v8 :: v9 :: v10 :: .int x :: r) h' (fun w hw _ => by cases hw; exact hc)
theorem nI_inc (a b : Nat) {n : Int} (h : Int32.ofInt n = nI b) : nI a + Int32.ofInt n = nI (a + b) := by rw [h, nI_add]
/-! returns -/
theorem g_iret (hC : Cx F own cc nL rm) {mc ms : Nat} {post : gS → Option Value → gX → Prop} {ty : FieldType} {v : Int32} (hRt : Rt F (some ty) mc ms post) (hn : narrow ty (.int v) = .int v) (hm : K = (mc, ms)) (d : decode cc pc = .ok (.ireturn, 1)) (h : post S (some (.int v)) X) : G F S K X pc ls [.int v] := by
  obtain ⟨p, l, e, R, s, m, args, below, meth, c, Γ, A, Q⟩ := F
  obtain ⟨hx, hb, hml, hown, hts, hlk, rfl, hK, hA⟩ := hC
  obtain ⟨hr, rfl⟩ := hRt
  subst hm
  intro H locs L hL hc0 hP hD hS
  exact W.zret hx hb hr hn (fun t ht hW => ⟨⟨S, some (.int v), X, rfl, h, hc0, by rw [ht]; exact hP, hD⟩, hS.F ht⟩) hS.2.2 d hlk
theorem g_vret (hC : Cx F own cc nL rm) {mc ms : Nat} {post : gS → Option Value → gX → Prop} (hRt : Rt F none mc ms post) (hm : K = (mc, ms)) (d : decode cc pc = .ok (.return_, 1)) (h : post S none X) : G F S K X pc ls [] := by
  obtain ⟨p, l, e, R, s, m, args, below, meth, c, Γ, A, Q⟩ := F
  obtain ⟨hx, hb, hml, hown, hts, hlk, rfl, hK, hA⟩ := hC
  obtain ⟨hr, rfl⟩ := hRt
  subst hm
  intro H locs L hL hc0 hP hD hS
  exact W.vret hx hb hr (fun t ht hW => ⟨⟨S, none, X, rfl, h, hc0, by rw [ht]; exact hP, hD⟩, hS.F ht⟩) hS.2.2 d hlk
end
theorem nz_z (b : Bool) : narrow .boolean (.int (zI b)) = .int (zI b) := by cases b <;> decide +kernel
theorem nz_i (v : Int32) : narrow .int (.int v) = .int v := rfl

