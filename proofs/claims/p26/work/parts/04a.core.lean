/-! the abstract machine: a heap of whole numbers, cells by number -/
abbrev Hp : Type := Nat → Int → Int
abbrev Gw : Type := va_G × ClassId × ClassId × (Nat → Nat)
abbrev MI : Type := MethodName × ByteArray × Nat × Option FieldType
abbrev Lo : Type := List (Option Value)
def vi (x : Int) : Value := .int (Int32.ofInt x)
def vl (x : Int) : Value := .long (Int64.ofInt x)
abbrev vr (c : Nat) : Value := .ref c
def ch (c k : Nat) : Nat := 16 * c + 1 + k
def hset (h : Hp) (c : Nat) (k v : Int) : Hp := fun c' k' => if c' = c ∧ k' = k then v else h c' k'
theorem hset_eq (h : Hp) (c : Nat) (k v : Int) : hset h c k v c k = v := by simp [hset]
theorem hset_nc {h : Hp} {c c' : Nat} {k k' v : Int} (e : c' ≠ c) : hset h c k v c' k' = h c' k' := by simp [hset, e]
theorem hset_nk {h : Hp} {c c' : Nat} {k k' v : Int} (e : k' ≠ k) : hset h c k v c' k' = h c' k' := by simp [hset, e]
def xjCl : List vw_C := [(RX0, TX0, 2), (RX1, TX1, 1), (RX2, TX2, 6), (RX3, TX3, 5), (RX4, TX4, 2), (RX5, TX5, 15), (RX6, TX6, 11)]
/-- fields by class: 0 a reference, 1 an int, 2 a long, 3 a boolean -/
def ftT : List (List Nat) := [[0, 1], [1], [0, 0, 0, 0, 1, 1], [0, 0, 0, 0, 1], [0, 1], [0, 0, 0, 0, 0, 0, 0, 0, 0, 0, 0, 1, 1, 1, 1], [0, 0, 0, 0, 0, 0, 0, 0, 3, 1, 1]]
def ftag (ci k : Nat) : Nat := ((ftT[ci]?.getD [])[k]?).getD 0
def nF (ci : Nat) : Nat := (ftT[ci]?.getD []).length
/-- cells: 0 an object of a class, 1 an int array of a length, 2 a byte array -/
def kdT : List (Nat × Nat × Nat) := [(0, 0, 6), (1, 0, 4), (2, 0, 5), (3, 0, 5), (4, 0, 5), (5, 0, 2), (6, 0, 3), (7, 0, 0), (8, 0, 1), (17, 1, 26), (33, 1, 6), (34, 1, 6), (35, 1, 6), (36, 1, 6), (37, 1, 6), (38, 1, 3), (39, 1, 3), (40, 1, 8), (41, 1, 8), (42, 1, 8), (43, 1, 10), (49, 1, 6), (50, 1, 6), (51, 1, 6), (52, 1, 6), (53, 1, 6), (54, 1, 3), (55, 1, 3), (56, 1, 8), (57, 1, 8), (58, 1, 8), (59, 1, 10), (65, 1, 6), (66, 1, 6), (67, 1, 6), (68, 1, 6), (69, 1, 6), (70, 1, 3), (71, 1, 3), (72, 1, 8), (73, 1, 8), (74, 1, 8), (75, 1, 10), (81, 1, 192), (82, 1, 3), (83, 1, 6), (84, 1, 6), (97, 1, 6), (98, 1, 6), (99, 1, 6), (100, 1, 6), (113, 1, 9), (145, 1, 39), (146, 1, 39)]
def kd (c : Nat) : Nat × Nat := (kdT.lookup c).getD (9, 0)
def cellsL : List Nat := kdT.map (·.1)
def fv (G : Gw) (h : Hp) (c ci k : Nat) : Value := match ftag ci k with
  | 0 => .ref (G.2.2.2 (ch c k))
  | 2 => vl (h c k)
  | _ => vi (h c k)
def ent (G : Gw) (h : Hp) (c : Nat) : va_E := match (kd c).1 with
  | 0 => .inr ((kd c).2, (List.range (nF (kd c).2)).map (fv G h c (kd c).2))
  | 1 => .inl (G.2.1, (kd c).2, .inl fun i => Int32.ofInt (h c i))
  | _ => .inl (G.2.2.1, (kd c).2, .inl fun i => Int32.ofInt (h c i))
def WS (G : Gw) (h : Hp) : va_W := cellsL.map fun c => (G.2.2.2 c, ent G h c)
theorem cells_nd : cellsL.Nodup := by decide +kernel
theorem kd_look : ∀ (l : List (Nat × Nat × Nat)) (c : Nat) (p : Nat × Nat), l.lookup c = some p → c ∈ l.map (·.1)
  | [], c, p, h => by simp at h
  | (a, b) :: l, c, p, h => by
    rw [List.lookup_cons] at h
    by_cases e : c = a
    · subst e; simp
    · have : (c == a) = false := by simpa using e
      rw [this] at h
      simp only [List.map_cons, List.mem_cons]
      exact Or.inr (kd_look l c p h)
theorem kd_mem {c t i : Nat} (h : kd c = (t, i)) (ht : t ≠ 9) : c ∈ cellsL := by
  unfold kd at h
  cases hl : kdT.lookup c with
  | none =>
    rw [hl] at h
    simp only [Option.getD_none, Prod.mk.injEq] at h
    exact absurd h.1.symm ht
  | some p => exact kd_look _ _ _ hl
theorem ent_congr {G : Gw} {h h' : Hp} {c : Nat} (e : ∀ k, h' c k = h c k) : ent G h' c = ent G h c := by
  have e2 : h' c = h c := funext e
  unfold ent fv
  rw [e2]
theorem WS_at {G : Gw} {h : Hp} {c : Nat} (hc : c ∈ cellsL) : ∃ q0 : Nat, cellsL[q0]? = some c ∧ (WS G h)[q0]? = some (G.2.2.2 c, ent G h c) := by
  obtain ⟨q, hq⟩ := List.getElem?_of_mem hc
  exact ⟨q, hq, by simp [WS, hq]⟩
theorem WS_set {G : Gw} {h h' : Hp} {c q : Nat} (hq : cellsL[q]? = some c) (hh : ∀ c' k, c' ≠ c → h' c' k = h c' k) : (WS G h).set q (G.2.2.2 c, ent G h' c) = WS G h' := by
  apply List.ext_getElem?
  intro j
  have hl : q < cellsL.length := (List.getElem?_eq_some_iff.mp hq).1
  by_cases hj : q = j
  · subst hj
    rw [List.getElem?_set_self (by simpa [WS] using hl)]
    simp [WS, hq]
  · rw [List.getElem?_set_ne hj]
    simp only [WS, List.getElem?_map]
    cases hc : cellsL[j]? with
    | none => rfl
    | some c' =>
      have hne : c' ≠ c := fun e => hj ((List.getElem?_inj hl cells_nd).mp (by rw [hq, hc, e]))
      simp only [Option.map_some]
      rw [ent_congr (fun k => hh c' k hne)]
def Wd (G : Gw) (s : State) (A : Nat → Prop) : Prop := va_K G.1 xjCl [(G.2.1, .int)] s ∧ (∀ c ∈ cellsL, ∀ c' ∈ cellsL, G.2.2.2 c = G.2.2.2 c' → c = c') ∧ ∀ c ∈ cellsL, A (G.2.2.2 c)
theorem Wd_D {G : Gw} {s : State} {A : Nat → Prop} (w : Wd G s A) (h : Hp) : va_D A (WS G h) := by
  have key : ∀ (k : Nat) (q : Nat × va_E), (WS G h)[k]? = some q → ∃ c, cellsL[k]? = some c ∧ q.1 = G.2.2.2 c := by
    intro k q hk
    simp only [WS, List.getElem?_map] at hk
    cases hc : cellsL[k]? with
    | none => rw [hc] at hk; simp at hk
    | some c =>
      rw [hc] at hk
      simp only [Option.map_some, Option.some.injEq] at hk
      exact ⟨c, rfl, by rw [← hk]⟩
  refine ⟨fun i j p q hi hj e => ?_, fun k q hk => ?_⟩
  · obtain ⟨c, h1, h2⟩ := key i p hi
    obtain ⟨c', h3, h4⟩ := key j q hj
    have hcc : c = c' := w.2.1 c (List.mem_of_getElem? h1) c' (List.mem_of_getElem? h3) (by rw [← h2, ← h4, e])
    subst hcc
    exact (List.getElem?_inj (List.getElem?_eq_some_iff.mp h1).1 cells_nd).mp (by rw [h1, h3])
  · obtain ⟨c, h1, h2⟩ := key k q hk
    rw [h2]
    exact w.2.2 c (List.mem_of_getElem? h1)
def cv (G : Gw) (v : Value) : Value := match v with
  | .ref c => .ref (G.2.2.2 c)
  | v => v
theorem cv_cat (G : Gw) (v : Value) : (cv G v).category = v.category := by cases v <;> rfl
def lp (G : Gw) : Nat → Lo → List (Nat × Value)
  | _, [] => []
  | i, none :: t => lp G (i + 1) t
  | i, some v :: t => (i, cv G v) :: lp G (i + 1) t
theorem lp_mem {G : Gw} : ∀ (lo : Lo) (i : Nat) (q : Nat × Value), q ∈ lp G i lo ↔ ∃ (n : Nat) (v : Value), lo[n]? = some (some v) ∧ q = (i + n, cv G v)
  | [], i, q => by simp [lp]
  | none :: t, i, q => by
    rw [show lp G i (none :: t) = lp G (i + 1) t from rfl, lp_mem t (i + 1) q]
    constructor
    · rintro ⟨n, v, h1, h2⟩
      exact ⟨n + 1, v, by simpa using h1, by rw [h2]; congr 1; omega⟩
    · rintro ⟨n, v, h1, h2⟩
      cases n with
      | zero => simp at h1
      | succ n => exact ⟨n, v, by simpa using h1, by rw [h2]; congr 1; omega⟩
  | some w :: t, i, q => by
    rw [show lp G i (some w :: t) = (i, cv G w) :: lp G (i + 1) t from rfl, List.mem_cons, lp_mem t (i + 1) q]
    constructor
    · rintro (h | ⟨n, v, h1, h2⟩)
      · exact ⟨0, w, by simp, by rw [h]; rfl⟩
      · exact ⟨n + 1, v, by simpa using h1, by rw [h2]; congr 1; omega⟩
    · rintro ⟨n, v, h1, h2⟩
      cases n with
      | zero =>
        simp only [List.getElem?_cons_zero, Option.some.injEq] at h1
        subst h1
        exact Or.inl h2
      | succ n => exact Or.inr ⟨n, v, by simpa using h1, by rw [h2]; congr 1; omega⟩
abbrev LH (G : Gw) (ls : Array Slot) (nL : Nat) (lo : Lo) : Prop := lv_has ls nL (lp G 0 lo)
theorem LH_at {G : Gw} {ls : Array Slot} {nL i : Nat} {lo : Lo} {v : Value} (hl : LH G ls nL lo) (h : lo[i]? = some (some v)) : ls[i]? = some (.val (cv G v)) := by
  have := hl.2.2 (i, cv G v) ((lp_mem lo 0 _).mpr ⟨i, v, h, by simp⟩)
  exact this
theorem LH_mono {G : Gw} {ls : Array Slot} {nL : Nat} {l : List (Nat × Value)} {lo : Lo} (hl : lv_has ls nL l) (h : ∀ q ∈ lp G 0 lo, q ∈ l) : LH G ls nL lo := ⟨hl.1, hl.2.1, fun q hq => hl.2.2 q (h q hq)⟩
def noL (lo : Lo) (i : Nat) : Bool := match i with
  | 0 => true
  | j + 1 => match lo[j]? with
    | some (some v) => v.category == 1
    | _ => true
theorem noL_at {lo : Lo} {n : Nat} {v : Value} (h : noL lo (n + 1) = true) (hn : lo[n]? = some (some v)) : v.category = 1 := by
  simp only [noL, hn] at h
  exact beq_iff_eq.mp h
theorem lp_set1 {G : Gw} {lo : Lo} {i : Nat} {v : Value} (hn : noL lo i = true) : ∀ q ∈ lp G 0 (lo.set i (some v)), q ∈ (i, cv G v) :: (lp G 0 lo).filter (fun q => !(q.1 == i) && !(q.1 + 1 == i && q.2.category == 2)) := by
  intro q hq
  obtain ⟨n, w, h1, rfl⟩ := (lp_mem _ _ _).mp hq
  by_cases e : i = n
  · subst e
    have hl : i < lo.length := by
      have := (List.getElem?_eq_some_iff.mp h1).1
      simpa using this
    rw [List.getElem?_set_self hl] at h1
    simp only [Option.some.injEq] at h1
    subst h1
    simp
  · rw [List.getElem?_set_ne e] at h1
    refine List.mem_cons_of_mem _ (List.mem_filter.mpr ⟨(lp_mem _ _ _).mpr ⟨n, w, h1, rfl⟩, ?_⟩)
    simp only [Nat.zero_add]
    have e1 : (n == i) = false := by simpa using fun z => e z.symm
    rw [e1]
    by_cases e2 : n + 1 = i
    · subst e2
      simp [cv_cat, noL_at hn h1]
    · simp [e2]
theorem lp_set2 {G : Gw} {lo : Lo} {i : Nat} {v : Value} (hn : noL lo i = true) : ∀ q ∈ lp G 0 ((lo.set i (some v)).set (i + 1) none), q ∈ (i, cv G v) :: (lp G 0 lo).filter (fun q => !(q.1 == i) && (!(q.1 == i + 1) && !(q.1 + 1 == i && q.2.category == 2))) := by
  intro q hq
  obtain ⟨n, w, h1, rfl⟩ := (lp_mem _ _ _).mp hq
  by_cases e0 : i + 1 = n
  · subst e0
    have hl : i + 1 < (lo.set i (some v)).length := by
      have := (List.getElem?_eq_some_iff.mp h1).1
      simpa using this
    rw [List.getElem?_set_self hl] at h1
    simp at h1
  · rw [List.getElem?_set_ne e0] at h1
    by_cases e : i = n
    · subst e
      have hl : i < lo.length := by
        have := (List.getElem?_eq_some_iff.mp h1).1
        simpa using this
      rw [List.getElem?_set_self hl] at h1
      simp only [Option.some.injEq] at h1
      subst h1
      simp
    · rw [List.getElem?_set_ne e] at h1
      refine List.mem_cons_of_mem _ (List.mem_filter.mpr ⟨(lp_mem _ _ _).mpr ⟨n, w, h1, rfl⟩, ?_⟩)
      simp only [Nat.zero_add]
      have e1 : (n == i) = false := by simpa using fun z => e z.symm
      have e3 : (n == i + 1) = false := by simpa using fun z => e0 z.symm
      rw [e1, e3]
      by_cases e2 : n + 1 = i
      · subst e2
        simp [cv_cat, noL_at hn h1]
      · simp [e2]
def NW (s : State) : Prop := ∀ q ∈ nestL, va_Nw (.methodLinkNest q.1 q.2.1 q.2.2.1 q.2.2.2) s
def Cx (p : Program) (R : Room) (s : State) (m : MethodId) (args : Array Value) (meth : Method) (c : Code) (k : MI) (d : Nat) : Prop :=
  p.tables.exec = Jvm.exec ∧ c.code = k.2.1 ∧ c.maxLocals = k.2.2.1 ∧ meth.sig.returnType = k.2.2.2 ∧ s.vm.findClass k.1.cls = some m.cls ∧ (∀ w ∈ wT, w.before args s = true) ∧ meth.locks = false ∧ NW s ∧ d + 1 ≤ R.frames ∧ 42 * (d + 1) ≤ R.locals
def ScP (sc : Option (Nat × (Int → Int))) (G : Gw) (s : State) (A : Nat → Prop) : Prop := ∀ (L : Nat) (xs : Int → Int), sc = some (L, xs) → va_X (G.2.2.2 1000) L (fun j => Int32.ofInt (xs j)) s s.heap ∧ G.2.2.2 1000 < s.heap.size ∧ ¬ A (G.2.2.2 1000)
def FinJ (k : MI) (x : Int) (pc : Nat) (st : List Value) : Prop :=
  (decode k.2.1 pc = .ok (.ireturn, 1) ∧ st = [vi x] ∧ (k.2.2.2 = some .int ∨ (k.2.2.2 = some .boolean ∧ (x = 0 ∨ x = 1)))) ∨
  (decode k.2.1 pc = .ok (.lreturn, 1) ∧ st = [vl x] ∧ k.2.2.2 = some .long) ∨
  (decode k.2.1 pc = .ok (.return_, 1) ∧ st = [] ∧ k.2.2.2 = none)
/-- from this place of method k, with this heap, these locals, this stack, the method comes to an end with Q -/
def XJ (sc : Option (Nat × (Int → Int))) (d : Nat) (k : MI) (h : Hp) (pc : Nat) (lo : Lo) (st : List Value) (Q : Int → Hp → Prop) : Prop :=
  ∀ (p : Program) (l : Launch) (e : Env) (R : Room) (s : State) (m : MethodId) (args : Array Value) (below : List Frame) (meth : Method) (c : Code) (Z : State → Prop) (G : Gw) (A : Nat → Prop) (cells slots : Nat),
    Cx p R s m args meth c k d → Wd G s A → ScP sc G s A → (cells ≤ R.cells ∧ slots ≤ R.slots) →
    (∀ (x : Int) (h' : Hp) (H : Heap) (locs : List Loc) (pc' : Nat) (ls : Array Slot) (st' : List Value), Q x h' → FinJ k x pc' st' → va_P G.1 xjCl (WS G h') H → va_S A s.heap H locs → W p l e R s m args below meth c H locs cells slots Z (F0 m pc' ls st')) →
    ∀ (H : Heap) (locs : List Loc) (ls : Array Slot), va_P G.1 xjCl (WS G h) H → va_S A s.heap H locs → LH G ls k.2.2.1 lo → W p l e R s m args below meth c H locs cells slots Z (F0 m pc ls (st.map (cv G)))
def wk (k : MI) : List Cond := Cond.code k.1 k.2.1 k.2.2.1 k.2.2.2 :: wT
def rmd (d : Nat) : Room := { frames := d + 1, cells := 0, slots := 0, locals := 42 * (d + 1) }
def AG (G : Gw) : Nat → Prop := fun q => ∃ c ∈ cellsL, G.2.2.2 c = q
def rv (k : MI) (x : Int) : Option Value := match k.2.2.2 with
  | none => none
  | some .long => some (vl x)
  | some _ => some (vi x)
def PJ (G : Gw) (h : Hp) (U : State) : Prop := va_P G.1 xjCl (WS G h) U.heap ∧ va_K G.1 xjCl [(G.2.1, .int)] U ∧ NW U
def QJ (k : MI) (G : Gw) (Q : Int → Hp → Prop) : Array Value → State → Outcome → State → Prop := fun _ st o t => (∃ (x : Int) (h' : Hp), Q x h' ∧ o = .returned (rv k x) ∧ va_P G.1 xjCl (WS G h') t.heap) ∧ va_F (AG G) st t
/-- method k, called with these arguments in this heap, answers by Q -/
def CJ (d : Nat) (k : MI) (as : List Value) (h : Hp) (Q : Int → Hp → Prop) : Prop :=
  ∀ (l : Launch) (G : Gw), (∀ c ∈ cellsL, ∀ c' ∈ cellsL, G.2.2.2 c = G.2.2.2 c' → c = c') → Met l k.1 (wk k) (rmd d) (va_Pc (as.map (cv G)) (PJ G h)) (QJ k G Q) 0 0 (AG G)
def MOK (k : MI) (n : Nat) : Prop := plainName k.1.cls = true ∧ Cond.code k.1 k.2.1 k.2.2.1 k.2.2.2 ∈ wT ∧ Cond.initialized k.1.cls ∈ wT ∧ (k.1.cls ≠ "java/lang/invoke/MethodHandle" ∧ k.1.cls ≠ "java/lang/invoke/VarHandle") ∧ (parseMethodDescriptor k.1.desc).map (fun d => d.parameters.length) = some n
theorem wk_in {k : MI} {n : Nat} (hk : MOK k n) : GoodIn wT (wk k) := by
  intro w hw
  rcases List.mem_cons.mp hw with e | e
  · subst e
    exact wT_in _ hk.2.1
  · exact wT_in _ e
theorem NW_warm {s U : State} (hW : s.WarmedH U.vm) (h : NW s) : NW U := fun q hq => va_Nw.warmM hW (h q hq)
theorem NW_same {u U : State} (e : u.vm = U.vm) (h : NW u) : NW U := fun q hq => va_Nw.same rfl e (h q hq)
theorem PJ_blind (G : Gw) (h : Hp) (as : List Value) : FrameBlind (va_Pc as (PJ G h)) := fun a U g mk q => ⟨q.1, q.2.1, va_K.moved (u := U) (U := U.calling g mk a) (Vm.Alike.refl U.vm) q.2.2.1, NW_same rfl q.2.2.2⟩
