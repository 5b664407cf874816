/-! The walk's judgement of this claim: a world as a list of cells, locals as a list of pairs; heap, cells written and the array of locals are hidden. -/
def gNwd : Cond → Bool
  | .fieldLinkNest .. => true
  | .methodLinkNest .. => true
  | _ => false
def gGood : List Cond := lw_tbl.filter goodWord
def gNest : List Cond := lw_tbl.filter gNwd
def gTs : List Cond := gNest ++ gGood
def gW (y : MethodName) (b : ByteArray) (n : Nat) (r : Option FieldType) : List Cond := .code y b n r :: gGood
def gNw (U : State) : Prop := ∀ w ∈ gNest, va_Nw w U
theorem gNwd_tab {w : Cond} (h : gNwd w = true) : w.onTables = true := by
  cases w <;> first | rfl | (simp [gNwd] at h; done)
theorem gNw.warm {s U : State} (hW : s.WarmedH U.vm) (h : gNw s) : gNw U := fun w hw => by
  have hz := h w hw
  have hn : gNwd w = true := (List.mem_filter.mp hw).2
  cases w <;> first | exact va_Nw.warmF hW hz | exact va_Nw.warmM hW hz | (simp [gNwd] at hn; done)
theorem gNw.same {s U : State} (hv : s.vm = U.vm) (h : gNw s) : gNw U := fun w hw => va_Nw.same (gNwd_tab (List.mem_filter.mp hw).2) hv (h w hw)
theorem gTs_of {args : Array Value} {s : State} (h1 : ∀ w ∈ gGood, w.before args s = true) (h2 : gNw s) : ∀ w ∈ gTs, w.before args s = true := fun w hw => by
  rcases List.mem_append.mp hw with h | h
  · exact va_Nw.use (gNwd_tab (List.mem_filter.mp h).2) (h2 w h)
  · exact h1 w h
theorem gIn_good {w : Cond} (h : w ∈ lw_tbl) (hg : goodWord w = true) : w ∈ gGood := List.mem_filter.mpr ⟨h, hg⟩
theorem gIn_ts {w : Cond} (h : w ∈ lw_tbl) (hg : goodWord w = true) : w ∈ gTs := List.mem_append_right _ (gIn_good h hg)
theorem gIn_nest {w : Cond} (h : w ∈ lw_tbl) (hg : gNwd w = true) : w ∈ gTs := List.mem_append_left _ (List.mem_filter.mpr ⟨h, hg⟩)
theorem lw_in {w : Cond} (h : w ∈ tables_1) : w ∈ lw_tbl := List.mem_append_right _ h
/-- a callee's words: its code, and the tables -/
theorem gGI {y : MethodName} {b : ByteArray} {n : Nat} {r : Option FieldType} (h : Cond.code y b n r ∈ lw_tbl) : GoodIn gTs (gW y b n r) := fun w hw => by
  rcases List.mem_cons.mp hw with rfl | hw
  · exact ⟨gIn_ts h rfl, Or.inl rfl⟩
  · exact ⟨List.mem_append_right _ hw, good_of_word (List.mem_filter.mp hw).2⟩
theorem gGIV {own C : String} {index : Nat} {y : MethodName} {b : ByteArray} {n : Nat} {r : Option FieldType} (h1 : Cond.methodLink own index y ∈ lw_tbl) (h2 : Cond.instanceMethod y ∈ lw_tbl) (h3 : Cond.selects C y y ∈ lw_tbl) (h4 : Cond.initialized C ∈ lw_tbl) (h5 : Cond.code y b n r ∈ lw_tbl) : GoodIn gTs (wsV own index C y (gW y b n r)) := fun w hw => by
  rcases List.mem_append.mp (show w ∈ [Cond.methodLink own index y, .instanceMethod y, .selects C y y, .initialized C] ++ gW y b n r from hw) with h | h
  · simp only [List.mem_cons, List.not_mem_nil, or_false] at h
    rcases h with rfl | rfl | rfl | rfl
    · exact ⟨gIn_ts h1 rfl, Or.inl rfl⟩
    · exact ⟨gIn_ts h2 rfl, Or.inl rfl⟩
    · exact ⟨gIn_ts h3 rfl, Or.inl rfl⟩
    · exact ⟨gIn_ts h4 rfl, Or.inl rfl⟩
  · exact gGI h5 w h
theorem gGIS {own : String} {index : Nat} {y : MethodName} {b : ByteArray} {n : Nat} {r : Option FieldType} (h1 : Cond.methodLink own index y ∈ lw_tbl) (h2 : Cond.static y ∈ lw_tbl) (h3 : Cond.initialized own ∈ lw_tbl) (h5 : Cond.code y b n r ∈ lw_tbl) : GoodIn gTs (wsS own index y (gW y b n r)) := fun w hw => by
  rcases List.mem_append.mp (show w ∈ [Cond.methodLink own index y, .static y, .initialized own] ++ gW y b n r from hw) with h | h
  · simp only [List.mem_cons, List.not_mem_nil, or_false] at h
    rcases h with rfl | rfl | rfl
    · exact ⟨gIn_ts h1 rfl, Or.inl rfl⟩
    · exact ⟨gIn_ts h2 rfl, Or.inl rfl⟩
    · exact ⟨gIn_ts h3 rfl, Or.inl rfl⟩
  · exact gGI h5 w h
theorem gGIW {own : String} {index : Nat} {y : MethodName} {b : ByteArray} {n : Nat} {r : Option FieldType} (h1 : Cond.methodLink own index y ∈ lw_tbl) (h2 : Cond.static y ∈ lw_tbl) (h3 : Cond.initialized y.cls ∈ lw_tbl) (h5 : Cond.code y b n r ∈ lw_tbl) : GoodIn gTs (va_wsS own index y (gW y b n r)) := fun w hw => by
  rcases List.mem_append.mp (show w ∈ [Cond.methodLink own index y, .static y, .initialized y.cls] ++ gW y b n r from hw) with h | h
  · simp only [List.mem_cons, List.not_mem_nil, or_false] at h
    rcases h with rfl | rfl | rfl
    · exact ⟨gIn_ts h1 rfl, Or.inl rfl⟩
    · exact ⟨gIn_ts h2 rfl, Or.inl rfl⟩
    · exact ⟨gIn_ts h3 rfl, Or.inl rfl⟩
  · exact gGI h5 w h
/-- what a method's walk stands on -/
def Gx (p : Program) (s : State) (m : MethodId) (args : Array Value) (c : Code) (cc : ByteArray) (own : String) (nL : Nat) (D : va_G) (cl : List vw_C) (tys : List (ClassId × FieldType)) : Prop :=
  p.tables.exec = Jvm.exec ∧ c.code = cc ∧ c.maxLocals = nL ∧ s.vm.findClass own = some m.cls ∧ (∀ w ∈ gTs, w.before args s = true) ∧ va_K D cl tys s
def Gj (p : Program) (l : Launch) (e : Env) (R : Room) (s : State) (m : MethodId) (args : Array Value) (below : List Frame) (meth : Method) (c : Code) (cells slots : Nat) (Q : State → Prop) (D : va_G) (cl : List vw_C) (A : Nat → Prop) (H0 : Heap) (nL : Nat) (ws : va_W) (L : List (Nat × Value)) (pc : Nat) (st : List Value) : Prop :=
  ∀ (H : Heap) (locs : List Loc) (ls : Array Slot), va_P D cl ws H → va_D A ws → va_S A H0 H locs → lv_has ls nL L → W p l e R s m args below meth c H locs cells slots Q (F0 m pc ls st)
def gLk : List (Nat × Value) → Nat → Option Value
  | [], _ => none
  | q :: r, i => if q.1 = i then some q.2 else gLk r i
theorem gLk_mem {i : Nat} {v : Value} : ∀ (L : List (Nat × Value)), gLk L i = some v → (i, v) ∈ L
  | [], h => by simp [gLk] at h
  | q :: r, h => by
    by_cases hq : q.1 = i
    · have h2 : q.2 = v := by simpa [gLk, hq] using h
      subst hq; subst h2
      exact List.mem_cons_self
    · have h2 : gLk r i = some v := by simpa [gLk, hq] using h
      exact List.mem_cons_of_mem _ (gLk_mem r h2)
theorem gLk_at {ls : Array Slot} {nL : Nat} {L : List (Nat × Value)} {i : Nat} {v : Value} (h : lv_has ls nL L) (hk : gLk L i = some v) : ls[i]? = some (.val v) := h.2.2 (i, v) (gLk_mem L hk)
def gSt1 (L : List (Nat × Value)) (i : Nat) (v : Value) : List (Nat × Value) := (i, v) :: L.filter (fun q => !(q.1 == i) && !(q.1 + 1 == i && q.2.category == 2))
def gSt2 (L : List (Nat × Value)) (i : Nat) (v : Value) : List (Nat × Value) := (i, v) :: L.filter (fun q => !(q.1 == i) && (!(q.1 == i + 1) && !(q.1 + 1 == i && q.2.category == 2)))
-- pure rows for the decompiled functions
theorem it_t {α : Type} {cnd : Prop} {dc : Decidable cnd} {x y : Option α} {o : α} (hc : cnd) (h : (if cnd then x else y) = some o) : x = some o := by rw [if_pos hc] at h; exact h
theorem it_f {α : Type} {cnd : Prop} {dc : Decidable cnd} {x y : Option α} {o : α} (hc : ¬ cnd) (h : (if cnd then x else y) = some o) : y = some o := by rw [if_neg hc] at h; exact h
theorem it_in {α : Type} {i : Int32} {n : Nat} {y : Option α} {o : α} (h : (if i < 0 ∨ n ≤ i.toNatClampNeg then none else y) = some o) : vp_in i n ∧ y = some o := by
  by_cases hc : i < 0 ∨ n ≤ i.toNatClampNeg
  · rw [if_pos hc] at h; cases h
  · rw [if_neg hc] at h; exact ⟨hc, h⟩
theorem it_n {α : Type} {cnd : Prop} {dc : Decidable cnd} {y : Option α} {o : α} (h : (if cnd then none else y) = some o) : ¬ cnd ∧ y = some o := by
  by_cases hc : cnd
  · rw [if_pos hc] at h; cases h
  · rw [if_neg hc] at h; exact ⟨hc, h⟩
theorem it_b {α β : Type} {x : Option α} {f : α → Option β} {o : β} (h : x.bind f = some o) : ∃ a, x = some a ∧ f a = some o := by
  cases x with
  | none => cases h
  | some a => exact ⟨a, rfl, h⟩
/-- the judgement at a method's level: whatever the machine is, from the world ws, the locals L, at pc with the stack st, the method comes to what is owed -/
def Gm (l : Launch) (y : MethodName) (b : ByteArray) (nL : Nat) (ret : Option FieldType) (rm : Room) (D : va_G) (cl : List vw_C) (tys : List (ClassId × FieldType)) (av : List Value) (w0 : va_W) (Qf : List Frame → State → State → Prop) (cells slots : Nat) (ws : va_W) (L : List (Nat × Value)) (pc : Nat) (st : List Value) : Prop :=
  ∀ (p : Program) (e : Env) (s : State) (m : MethodId) (below : List Frame) (meth : Method) (c : Code), Gx p s m av.toArray c b y.cls nL D cl tys → gNw s → meth.sig.returnType = ret → meth.locks = false → (∀ q, s.heap.size ≤ q → va_A w0 s.heap.size q) →
    Gj p l e rm s m av.toArray below meth c cells slots (Qf below s) D cl (va_A w0 s.heap.size) s.heap nL ws L pc st
def CtP (D : va_G) (cl : List vw_C) (tys : List (ClassId × FieldType)) (w0 : va_W) (sz : Nat) : State → Prop := fun U => U.heap.size = sz ∧ va_P D cl w0 U.heap ∧ va_K D cl tys U ∧ gNw U ∧ va_D (fun _ => True) w0
def CtQ (D : va_G) (cl : List vw_C) (w0 : va_W) (sz : Nat) (rv : Option Value) (w1 : va_W) : Array Value → State → Outcome → State → Prop := fun _ st oc t => (oc = .returned rv ∧ va_P D cl w1 t.heap ∧ va_D (va_A w0 sz) w1) ∧ va_F (va_A w0 sz) st t
/-- a contract: from the world w0 the method returns rv, and leaves w1 -/
def Ct (l : Launch) (y : MethodName) (b : ByteArray) (nL : Nat) (ret : Option FieldType) (rm : Room) (D : va_G) (cl : List vw_C) (tys : List (ClassId × FieldType)) (av : List Value) (w0 : va_W) (rv : Option Value) (w1 : va_W) : Prop :=
  ∀ sz : Nat, Met l y (gW y b nL ret) rm (va_Pc av (CtP D cl tys w0 sz)) (CtQ D cl w0 sz rv w1) 0 0 (va_A w0 sz)
abbrev CtF (D : va_G) (cl : List vw_C) (av : List Value) (w0 : va_W) (rv : Option Value) (w1 : va_W) : List Frame → State → State → Prop := fun below s => MQ below (CtQ D cl w0 s.heap.size rv w1) av.toArray s 0 0 (va_A w0 s.heap.size)
theorem Ct.ofG {l : Launch} {y : MethodName} {b : ByteArray} {nL : Nat} {ret : Option FieldType} {rm : Room} {D : va_G} {cl : List vw_C} {tys : List (ClassId × FieldType)} {av : List Value} {w0 : va_W} {rv : Option Value} {w1 : va_W} (hy : plainName y.cls = true) (hlen : (lg_sl av).length ≤ nL)
    (body : Gm l y b nL ret rm D cl tys av w0 (CtF D cl av w0 rv w1) 0 0 w0 (lv_args 0 av) 0 []) : Ct l y b nL ret rm D cl tys av w0 rv w1 := by
  intro sz
  refine Met.ofW (cc := b) (maxL := nL) (ret := ret) hy rfl ?_
  intro p e s m args below meth c s₁ B hml hv
  obtain ⟨rfl, hsz, hP, hK, hN, hD0⟩ := hv
  subst hsz
  have hts := atoms_spec (ws := gW y b nL ret) B.pre
  have E : Gx p s m av.toArray c b y.cls nL D cl tys := ⟨B.exec, B.bytes, hml, findClass_of_methodNamed B.named, gTs_of (fun w hw => hts w (List.mem_cons_of_mem _ hw)) hN, hK⟩
  have hl := lv_entry av (n := nL) hlen
  rw [lg_entry_eq]
  exact body p e s m below meth c E hN B.returns B.notSynchronized (fun q h => Or.inr h) s.heap [] _ hP hD0.self va_S.rf hl
theorem gP_sub {D : va_G} {cl : List vw_C} {ws ws' : va_W} {H : Heap} (h : va_P D cl ws H) (is : List Nat) (hs : is.map (fun i => ws[i]?) = ws'.map some) : va_P D cl ws' H := by
  intro k q hq
  have h1 : (is.map (fun i => ws[i]?))[k]? = some (some q) := by rw [hs, List.getElem?_map, hq]; rfl
  rw [List.getElem?_map] at h1
  cases hi : is[k]? with
  | none => rw [hi] at h1; cases h1
  | some i => rw [hi] at h1; exact h i q (Option.some.inj h1)
-- switches
def gTabL : Int → List Int → List (Int × Int)
  | _, [] => []
  | lo, o :: r => (lo, o) :: gTabL (lo + 1) r
theorem gTab_out : ∀ (os : List Int) (lo d v : Int), v < lo ∨ lo + os.length ≤ v → Op.lookupswitch.offset (gTabL lo os) d v = d
  | [], _, _, _, _ => rfl
  | o :: r, lo, d, v, h => by
    rw [gTabL, Op.lookupswitch.offset_cons, if_neg (by simp only [List.length_cons] at h; omega)]
    exact gTab_out r (lo + 1) d v (by simp only [List.length_cons] at h; omega)
theorem gTab_in : ∀ (os : List Int) (lo d v : Int), ¬ v < lo → v < lo + os.length → os[(v - lo).toNat]? = some (Op.lookupswitch.offset (gTabL lo os) d v)
  | [], lo, d, v, h1, h2 => by simp only [List.length_nil] at h2; omega
  | o :: r, lo, d, v, h1, h2 => by
    rw [gTabL, Op.lookupswitch.offset_cons]
    by_cases h : lo = v
    · subst h
      simp
    · rw [if_neg h, ← gTab_in r (lo + 1) d v (by omega) (by simp only [List.length_cons] at h2; omega)]
      rw [show (v - lo).toNat = (v - (lo + 1)).toNat + 1 by omega, List.getElem?_cons_succ]
