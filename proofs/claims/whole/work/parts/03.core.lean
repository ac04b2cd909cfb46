/-! THE CORE: a memory of ints (cell, slot), a layout of the cells, and the judgement J over the kit's W. -/
abbrev Mm : Type := Nat → Nat → Int32
def u2 (g : Mm) (a k : Nat) (v : Int32) : Mm := fun b j => if b = a ∧ j = k then v else g b j
/-- a cell's layout: its class (by number) or its elements' type; how many slots; the kind of each: 0 int, 1 long, 2 a reference that moves (0: null), n + 3 the cell n for ever -/
abbrev Ly : Type := (Nat ⊕ FieldType) × Nat × (Nat → Nat)
/-- class numbers and slots, the array classes, the address of each cell, the first address that may be written -/
abbrev Ey : Type := va_G × (FieldType → ClassId) × (Nat → Nat) × Nat
abbrev Ey.D (E : Ey) : va_G := E.1
abbrev Ey.cA (E : Ey) : FieldType → ClassId := E.2.1
abbrev Ey.ad (E : Ey) : Nat → Nat := E.2.2.1
abbrev Ey.N0 (E : Ey) : Nat := E.2.2.2
abbrev Ey.A (E : Ey) : Nat → Prop := fun q => E.2.2.2 ≤ q
def ab (k : Nat) (x : Int32) : Value := match k with
  | 0 => .int x
  | 1 => .long x.toInt64
  | 2 => if x = 0 then .null else .ref x.toNatClampNeg
  | n + 3 => .ref n
def mv (ad : Nat → Nat) (v : Value) : Value := match v with
  | .ref a => .ref (ad a)
  | w => w
def ce (E : Ey) (q : Ly) (r : Nat → Int32) : va_E := match q.1 with
  | .inl ci => .inr (ci, (List.range q.2.1).map (fun k => mv E.ad (ab (q.2.2 k) (r k))))
  | .inr ty => .inl (E.cA ty, q.2.1, match q.2.2 0 with
    | 0 => .inl r
    | 1 => .inr (.inl fun j => (r j).toInt64)
    | 2 => .inr (.inr (.inr (.inr fun j => if r j = 0 then none else some (E.ad (r j).toNatClampNeg))))
    | _ => .inr (.inr (.inr (.inr fun j => some (E.ad (q.2.2 j - 3))))))
def wl (E : Ey) (L : Nat → Ly) (N : List Nat) (g : Mm) : va_W := N.map (fun a => (E.ad a, ce E (L a) (g a)))
theorem wl_at {E : Ey} {L : Nat → Ly} {N : List Nat} {g : Mm} {a i : Nat} (h : N[i]? = some a) : (wl E L N g)[i]? = some (E.ad a, ce E (L a) (g a)) := by simp [wl, h]
theorem wl_set {E : Ey} {L : Nat → Ly} {N : List Nat} {g g' : Mm} {a k : Nat} (hn : N.Nodup) (hk : N[k]? = some a) (ho : ∀ b, b ≠ a → g' b = g b) : (wl E L N g).set k (E.ad a, ce E (L a) (g' a)) = wl E L N g' := by
  apply List.ext_getElem?
  intro i
  rw [List.getElem?_set]
  by_cases e : k = i
  · subst e
    have hlt := (List.getElem?_eq_some_iff.mp hk).1
    rw [if_pos rfl, if_pos (by simpa [wl] using hlt), wl_at hk]
  · rw [if_neg e]
    cases hi : N[i]? with
    | none => simp [wl, hi]
    | some b =>
      have hb : b ≠ a := by
        intro q
        subst q
        exact e ((List.getElem?_inj (List.getElem?_eq_some_iff.mp hk).1 hn).mp (by rw [hk, hi]))
      rw [wl_at hi, wl_at hi, ho b hb]
theorem u2_ne {g : Mm} {a k : Nat} {v : Int32} (b : Nat) (h : b ≠ a) : u2 g a k v b = g b := by funext j; simp [u2, h]
theorem u2_row {g : Mm} {a k : Nat} {v : Int32} : u2 g a k v a = upd (g a) k v := by funext j; simp [u2, upd]
/-- the types of the arrays -/
abbrev tyl (E : Ey) : List (ClassId × FieldType) := [(E.cA .int, .int), (E.cA .boolean, .boolean), (E.cA .long, .long), (E.cA (.object "YardTalk$World"), .object "YardTalk$World"), (E.cA (.object "YardTalk$Film"), .object "YardTalk$Film"), (E.cA (.object "YardTalk$Law"), .object "YardTalk$Law")]
/-- the cells lie apart, behind N0 -/
def Eo (E : Ey) (N : List Nat) : Prop := N.Nodup ∧ (∀ i ∈ N, ∀ j ∈ N, E.ad i = E.ad j → i = j) ∧ ∀ i ∈ N, E.N0 ≤ E.ad i
theorem wl_D {E : Ey} {L : Nat → Ly} {N : List Nat} {g : Mm} (h : Eo E N) : va_D E.A (wl E L N g) := by
  have key : ∀ (k : Nat) (q : Nat × va_E), (wl E L N g)[k]? = some q → ∃ a, N[k]? = some a ∧ q.1 = E.ad a := by
    intro k q hq
    cases hk : N[k]? with
    | none => simp [wl, hk] at hq
    | some a => rw [wl_at hk] at hq; cases hq; exact ⟨a, rfl, rfl⟩
  refine ⟨fun i j p q hp hq e => ?_, fun k q hq => ?_⟩
  · obtain ⟨a, h1, h2⟩ := key i p hp
    obtain ⟨b, h3, h4⟩ := key j q hq
    have hab : a = b := h.2.1 a (List.mem_of_getElem? h1) b (List.mem_of_getElem? h3) (by rw [← h2, ← h4]; exact e)
    subst hab
    exact (List.getElem?_inj (List.getElem?_eq_some_iff.mp h1).1 h.1).mp (by rw [h1, h3])
  · obtain ⟨a, h1, h2⟩ := key k q hq
    show E.N0 ≤ q.1
    rw [h2]; exact h.2.2 a (List.mem_of_getElem? h1)
def zRO (j : Nat) : Int32 := ([0, 1, 2, 0, 2, 1, 1, 0, 2, 1, 2, 0, 2, 0, 1, 2, 1, 0] : List Int32).getD j 0
def zWI (j : Nat) : Int32 := ([10, 10, 2, 100] : List Int32).getD j 0
/-- the cells that are only read: the static rows (cells 1001, 1002, 1003), the two statics of Throwable, the texts of the reader's words -/
def wdLen : List Nat := [5, 5, 4, 4, 2, 5, 4, 3, 5, 5, 5, 6, 5, 2, 3, 3]
def wdByt : List (List Int32) := [[108, 101, 97, 114, 110], [111, 114, 100, 101, 114], [108, 111, 115, 101], [109, 117, 115, 116], [105, 102], [108, 101, 97, 115, 116], [109, 111, 115, 116], [97, 103, 101], [116, 104, 101, 114, 101], [114, 105, 103, 104, 116], [115, 104, 111, 119, 110], [119, 101, 105, 103, 104, 116], [116, 97, 108, 107, 115], [111, 114], [97, 110, 100], [110, 111, 116]]
def Ro (E : Ey) (U : State) (H : Heap) : Prop :=
  (va_Z "YardTalk" "ROLES" "[I" (.ref (E.ad 1001)) E.A U H ∧ va_T .int (E.ad 1001) 18 (fun j => .int (zRO j)) E.A U H) ∧
  (va_Z "YardTalk$Ruling" "WITHOUT" "[I" (.ref (E.ad 1002)) E.A U H ∧ va_T .int (E.ad 1002) 4 (fun j => .int (zWI j)) E.A U H) ∧
  (va_Z "YardTalkModel" "PLACES" "[I" (.ref (E.ad 1003)) E.A U H ∧ va_T .int (E.ad 1003) 18 (fun j => .int (zRO j)) E.A U H) ∧
  (vx_Zq Bundle.tN "UNASSIGNED_STACK" Bundle.steD E.A U H ∧ vx_Zq Bundle.tN "SUPPRESSED_SENTINEL" Bundle.listD E.A U H) ∧
  vk_S 16 wdLen wdByt (fun i => E.ad (1100 + i)) (fun i => E.ad (1200 + i)) E.A U H ∧
  va_Z "java/lang/String" "COMPACT_STRINGS" "Z" (.int 1) E.A U H ∧
  (va_Z "jdk/internal/util/Preconditions" "SIOOBE_FORMATTER" "Ljava/util/function/BiFunction;" .null E.A U H ∨ va_Z "jdk/internal/util/Preconditions" "SIOOBE_FORMATTER" "Ljava/util/function/BiFunction;" (.ref (E.ad 1400)) E.A U H)
theorem Ro.moved {E : Ey} {u U : State} {H : Heap} (hvm : u.vm.Alike U.vm) (h : Ro E u H) : Ro E U H :=
  ⟨⟨h.1.1.moved hvm, h.1.2.moved hvm⟩, ⟨h.2.1.1.moved hvm, h.2.1.2.moved hvm⟩, ⟨h.2.2.1.1.moved hvm, h.2.2.1.2.moved hvm⟩, ⟨h.2.2.2.1.1.moved hvm, h.2.2.2.1.2.moved hvm⟩, h.2.2.2.2.1.moved hvm, h.2.2.2.2.2.1.moved hvm, h.2.2.2.2.2.2.elim (fun z => Or.inl (z.moved hvm)) (fun z => Or.inr (z.moved hvm))⟩
theorem Ro.kept {E : Ey} {U : State} {H H1 : Heap} (h : Ro E U H) (hq : ∀ a : Nat, a < H.size → ¬ E.A a → H1[a]? = H[a]?) : Ro E U H1 :=
  ⟨⟨h.1.1.kept hq, h.1.2.kept hq⟩, ⟨h.2.1.1.kept hq, h.2.1.2.kept hq⟩, ⟨h.2.2.1.1.kept hq, h.2.2.1.2.kept hq⟩, ⟨h.2.2.2.1.1.kept hq, h.2.2.2.1.2.kept hq⟩, h.2.2.2.2.1.kept hq, h.2.2.2.2.2.1.kept hq, h.2.2.2.2.2.2.elim (fun z => Or.inl (z.kept hq)) (fun z => Or.inr (z.kept hq))⟩
/-- the world: heap H holds the memory g by the layout L of N cells; what is only read is there -/
def Wd (E : Ey) (L : Nat → Ly) (N : List Nat) (g : Mm) (U : State) (H : Heap) : Prop :=
  va_P E.D vwCl (wl E L N g) H ∧ va_K E.D vwCl (tyl E) U ∧ Eo E N ∧ E.N0 ≤ H.size ∧ Ro E U H
theorem Wd.moved {E : Ey} {L : Nat → Ly} {N : List Nat} {g : Mm} {u U : State} {H : Heap} (hvm : u.vm.Alike U.vm) (h : Wd E L N g u H) : Wd E L N g U H :=
  ⟨h.1, h.2.1.moved hvm, h.2.2.1, h.2.2.2.1, h.2.2.2.2.moved hvm⟩
/-- what the tables hold of calls among nest mates, the texts, and of the classes of exceptions -/
def srL : List (String × Nat × String × Nat) := [("YardTalk", 375, "no such yard", 1300), ("YardTalk", 109, "no such age", 1301), ("YardTalk", 368, "no such child", 1302), ("YardTalk", 146, "no such what", 1303), ("YardTalk", 377, "no such concept", 1304), ("YardTalk", 379, "no such sign", 1305), ("YardTalk", 381, "no such order", 1306), ("YardTalk", 180, "no such setting", 1307), ("YardTalk", 182, "no such number of years", 1308), ("YardTalk", 189, "beyond the last year", 1309), ("YardTalk", 195, "the tape is shorter", 1310), ("YardTalk$LawReader", 108, "learn", 1100), ("YardTalk$LawReader", 110, "order", 1101), ("YardTalk$LawReader", 112, "lose", 1102), ("YardTalk$LawReader", 114, "must", 1103), ("YardTalk$LawReader", 129, "least", 1105), ("YardTalk$LawReader", 135, "most", 1106), ("YardTalk$LawReader", 140, "age", 1107), ("YardTalk$LawReader", 142, "there", 1108), ("YardTalk$LawReader", 144, "right", 1109), ("YardTalk$LawReader", 146, "shown", 1110), ("YardTalk$LawReader", 148, "weight", 1111), ("YardTalk$LawReader", 150, "talks", 1112), ("YardTalk$LawReader", 94, "if", 1104), ("YardTalk$LawReader", 162, "not", 1115), ("YardTalk$LawReader", 160, "and", 1114), ("YardTalk$LawReader", 155, "or", 1113), ("YardTalk", 371, "no such law", 1311), ("YardTalk", 212, "one child alone, or no such meaning", 1312), ("YardTalk", 385, "no such number of talks", 1313), ("YardTalk", 245, "no such talk", 1314), ("YardTalk", 383, "no such kind", 1315), ("YardTalk", 373, "no such film", 1316), ("YardTalk", 281, "no such talk of the film", 1317), ("YardTalk", 310, "no such hundredths", 1318), ("YardTalk", 325, "one child alone", 1319), ("YardTalk", 357, "no such number of trials", 1320), ("YardTalk", 359, "from is above to", 1321)]
def csL : List String := ["java/lang/IllegalArgumentException", "java/util/NoSuchElementException", "java/lang/IllegalStateException", "java/lang/IndexOutOfBoundsException"]
def dcL : List String := ["java/lang/RuntimeException", "java/lang/Exception", "java/lang/Throwable"]
def ncL : List (String × String) := [("java/lang/IllegalArgumentException", "java/util/NoSuchElementException"), ("java/lang/IllegalArgumentException", "java/lang/IndexOutOfBoundsException"), ("java/lang/IllegalStateException", "java/lang/IllegalArgumentException")]
def Vw (E : Ey) (U : State) : Prop := (∀ q ∈ nsL, va_Nw (.methodLinkNest q.1 q.2.1 q.2.2.1 q.2.2.2) U) ∧ (∀ q ∈ srL, vk_R q.1 q.2.1 q.2.2.1 (E.ad q.2.2.2) U) ∧ (∀ q ∈ csL, va_Nw (.castable q q) U) ∧ (∀ q ∈ dcL, va_Nw (.declares ⟨q, "<init>", "(Ljava/lang/String;)V"⟩) U) ∧ ∀ q ∈ ncL, va_Nc q.1 q.2 U
theorem Vw.warm {E : Ey} {s U : State} (hW : s.WarmedH U.vm) (h : Vw E s) : Vw E U := ⟨fun q hq => (h.1 q hq).warmM hW, fun q hq => (h.2.1 q hq).warm hW, fun q hq => (h.2.2.1 q hq).warmC hW, fun q hq => (h.2.2.2.1 q hq).warmD hW, fun q hq => (h.2.2.2.2 q hq).moved hW.alike⟩
theorem Vw.same {E : Ey} {u U : State} (hv : u.vm = U.vm) (h : Vw E u) : Vw E U := ⟨fun q hq => (h.1 q hq).same rfl hv, fun q hq => (h.2.1 q hq).same hv.symm, fun q hq => (h.2.2.1 q hq).same rfl hv, fun q hq => (h.2.2.2.1 q hq).same rfl hv, fun q hq => (h.2.2.2.2 q hq).moved (by rw [hv]; exact Vm.Alike.refl _)⟩
/-- a method's own context -/
abbrev Sx : Type := (Program × Launch × Env × Room × State) × (MethodId × Array Value × List Frame × Method × Code) × (Ey × (Nat → Ly) × List Nat) × (State → Prop)
abbrev Sx.p (S : Sx) : Program := S.1.1
abbrev Sx.l (S : Sx) : Launch := S.1.2.1
abbrev Sx.e (S : Sx) : Env := S.1.2.2.1
abbrev Sx.R (S : Sx) : Room := S.1.2.2.2.1
abbrev Sx.s (S : Sx) : State := S.1.2.2.2.2
abbrev Sx.m (S : Sx) : MethodId := S.2.1.1
abbrev Sx.args (S : Sx) : Array Value := S.2.1.2.1
abbrev Sx.below (S : Sx) : List Frame := S.2.1.2.2.1
abbrev Sx.meth (S : Sx) : Method := S.2.1.2.2.2.1
abbrev Sx.c (S : Sx) : Code := S.2.1.2.2.2.2
abbrev Sx.E (S : Sx) : Ey := S.2.2.1.1
abbrev Sx.L (S : Sx) : Nat → Ly := S.2.2.1.2.1
abbrev Sx.N (S : Sx) : List Nat := S.2.2.1.2.2
abbrev Sx.Z (S : Sx) : State → Prop := S.2.2.2
/-- a contract's end: an answer and a memory; or what was thrown and a memory -/
def Qx (E : Ey) (L : Nat → Ly) (N : List Nat) (Q : Option Value → Mm → Prop) : Array Value → State → Outcome → State → Prop := fun _ _ o t => ∃ (r : Option Value) (g : Mm), o = .returned (r.map (mv E.ad)) ∧ Q r g ∧ Wd E L N g t t.heap
def Xx (E : Ey) (L : Nat → Ly) (N : List Nat) (X : String → Mm → Prop) : String → State → State → Prop := fun C _ t => ∃ g : Mm, X C g ∧ Wd E L N g t t.heap
/-- the end that a method with a contract owes -/
def Zx (S : Sx) (mc ms : Nat) (Q : Option Value → Mm → Prop) (X : String → Mm → Prop) : Prop := S.Z = vx_MQ S.below (Qx S.E S.L S.N Q) (Xx S.E S.L S.N X) S.args S.s mc ms S.E.A
/-- the room of a method under which d frames may lie -/
def rmD (d mc ms : Nat) : Room := { frames := d, cells := mc, slots := ms, locals := 64 * d }
/-- A CONTRACT: y, called with the values av at memory g, returns r with memory g', Q r g'; or throws C, X C g' -/
def Ct (l : Launch) (E : Ey) (L : Nat → Ly) (N : List Nat) (d mc ms : Nat) (y : MethodName) (av : List Value) (g : Mm) (Q : Option Value → Mm → Prop) (X : String → Mm → Prop) : Prop :=
  l.stackTraces = false → vx_Met l y gw (rmD d mc ms) (fun v U => v = (av.map (mv E.ad)).toArray ∧ Wd E L N g U U.heap ∧ Vw E U) (Qx E L N Q) (Xx E L N X) mc ms E.A
/-- the locals: what is known of each -/
def Lo (ad : Nat → Nat) (la : Array Slot) (ls : List (Option Value)) : Prop := la.size = ls.length ∧ lv_wf la ∧ (∀ (i : Nat) (v : Value), ls[i]? = some (some v) → la[i]? = some (.val (mv ad v))) ∧ ∀ (i : Nat) (v : Value), ls[i]? = some (some v) → v.category = 1
/-- THE JUDGEMENT: at pc, with locals ls, stack st and memory g, k cells of n slots made, the method comes to its end -/
def J (S : Sx) (k n : Nat) (g : Mm) (pc : Nat) (ls : List (Option Value)) (st : List Value) : Prop :=
  ∀ (H : Heap) (locs : List Loc) (la : Array Slot), Wd S.E S.L S.N g S.s H → va_S S.E.A S.s.heap H locs → Lo S.E.ad la ls →
    W S.p S.l S.e S.R S.s S.m S.args S.below S.meth S.c H locs k n S.Z (F0 S.m pc la (st.map (mv S.E.ad)))
/-- the same, with an exception of the class C thrown over the frame -/
def JX (S : Sx) (k n : Nat) (g : Mm) (pc : Nat) (ls : List (Option Value)) (st : List Value) (C : String) : Prop :=
  ∀ (H : Heap) (locs : List Loc) (la : Array Slot) (q : Addr) (ce : Cell), Wd S.E S.L S.N g S.s H → va_S S.E.A S.s.heap H locs → Lo S.E.ad la ls → H[q]? = some ce → ce.vm = .none → S.s.vm.findClass C = some ce.cls →
    vx_W S.p S.l S.e S.R S.s S.m S.args S.below S.meth S.c H locs k n S.Z (F0 S.m pc la (st.map (mv S.E.ad))) q
/-- what is fixed in a method's walk; d: the frames that may lie over it -/
def Kx (S : Sx) (l : Launch) (E : Ey) (L : Nat → Ly) (N : List Nat) (cc : ByteArray) (own : String) (nL d : Nat) : Prop :=
  S.p.tables.exec = Jvm.exec ∧ S.c.code = cc ∧ S.s.vm.findClass own = some S.m.cls ∧ (∀ w ∈ gw, w.before S.args S.s = true) ∧ S.c.maxLocals = nL ∧ S.meth.locks = false ∧ Ro S.E S.s S.s.heap ∧ Vw S.E S.s ∧ S.l.stackTraces = false ∧ S.E.N0 ≤ S.s.heap.size ∧ d ≤ S.R.frames ∧ 64 * d ≤ S.R.locals ∧ S.L = L ∧ S.N = N ∧ S.E = E ∧ S.l = l
/-- what a call leaves on the stack -/
def pu (r : Option Value) (st : List Value) : List Value := match r with
  | some v => v :: st
  | none => st
section CoreRows
variable {S : Sx} {k n : Nat} {g : Mm} {pc : Nat} {ls : List (Option Value)} {st : List Value} {cc : ByteArray} {own : String} {nL d : Nat} {l : Launch} {E : Ey} {L : Nat → Ly} {N : List Nat}
theorem J.eq {pc' : Nat} {ls' : List (Option Value)} {st' : List Value} {g' : Mm} (h : J S k n g' pc' ls' st') (e1 : g = g') (e2 : pc = pc') (e3 : ls = ls') (e4 : st = st') : J S k n g pc ls st := by subst e1 e2 e3 e4; exact h
theorem Lo.weak {ad : Nat → Nat} {la : Array Slot} {ls ls' : List (Option Value)} (h : Lo ad la ls) (hl : ls'.length = ls.length) (hq : ∀ (i : Nat) (v : Value), ls'[i]? = some (some v) → ls[i]? = some (some v)) : Lo ad la ls' :=
  ⟨by rw [hl]; exact h.1, h.2.1, fun i v q => h.2.2.1 i v (hq i v q), fun i v q => h.2.2.2 i v (hq i v q)⟩
/-- what is forgotten of the locals -/
def lf : List (Option Value) → List (Option Value) → Prop
  | [], [] => True
  | a :: r, b :: t => (b = none ∨ b = a) ∧ lf r t
  | _, _ => False
theorem lf_spec : ∀ (ls ls' : List (Option Value)), lf ls ls' → ls'.length = ls.length ∧ ∀ (i : Nat) (v : Value), ls'[i]? = some (some v) → ls[i]? = some (some v)
  | [], [], _ => ⟨rfl, fun i v h => h⟩
  | a :: r, b :: t, h => by
    obtain ⟨h1, h2⟩ := lf_spec r t h.2
    refine ⟨by simp [h1], fun i v q => ?_⟩
    cases i with
    | zero =>
      rcases h.1 with e | e
      · subst e; simp at q
      · subst e; exact q
    | succ i => exact h2 i v q
  | [], _ :: _, h => h.elim
  | _ :: _, [], h => h.elim
theorem J_weak {ls' : List (Option Value)} (hl : lf ls ls') (h : J S k n g pc ls' st) : J S k n g pc ls st :=
  fun H locs la hW hV hq => h H locs la hW hV (hq.weak (lf_spec ls ls' hl).1 (lf_spec ls ls' hl).2)
/-- the known locals as the kit's list -/
def al (ad : Nat → Nat) (ls : List (Option Value)) : List (Nat × Value) := (List.range ls.length).filterMap (fun i => (ls[i]?.join).map (fun v => (i, mv ad v)))
theorem al_mem {ad : Nat → Nat} {ls : List (Option Value)} {q : Nat × Value} : q ∈ al ad ls ↔ ∃ v, ls[q.1]? = some (some v) ∧ q.2 = mv ad v := by
  unfold al
  rw [List.mem_filterMap]
  constructor
  · rintro ⟨i, hi, h⟩
    cases e : ls[i]? with
    | none => simp [e] at h
    | some o =>
      cases o with
      | none => simp [e] at h
      | some v => simp [e] at h; subst h; exact ⟨v, e, rfl⟩
  · rintro ⟨v, h, h2⟩
    have hlt : q.1 < ls.length := (List.getElem?_eq_some_iff.mp h).1
    exact ⟨q.1, List.mem_range.mpr hlt, by rw [h]; simp [← h2]⟩
theorem mv_cat (ad : Nat → Nat) (v : Value) : (mv ad v).category = v.category := by cases v <;> rfl
theorem Lo.has {ad : Nat → Nat} {la : Array Slot} {ls : List (Option Value)} (h : Lo ad la ls) : lv_has la ls.length (al ad ls) :=
  ⟨h.1, h.2.1, fun q hq => by obtain ⟨v, h1, h2⟩ := al_mem.mp hq; rw [h2]; exact h.2.2.1 _ v h1⟩
theorem Lo.of {ad : Nat → Nat} {la la' : Array Slot} {ls : List (Option Value)} {i : Nat} {v : Value} (h : Lo ad la ls) (hv : v.category = 1) (hi : i < ls.length)
    (h' : lv_has la' ls.length ((i, mv ad v) :: (al ad ls).filter (fun q => !(q.1 == i) && !(q.1 + 1 == i && q.2.category == 2)))) : Lo ad la' (ls.set i (some v)) := by
  refine ⟨by rw [List.length_set]; exact h'.1, h'.2.1, fun j w hj => ?_, fun j w hj => ?_⟩
  · rw [List.getElem?_set] at hj
    by_cases e : i = j
    · subst e
      rw [if_pos rfl] at hj
      simp [hi] at hj
      subst hj
      exact h'.2.2 (i, mv ad v) List.mem_cons_self
    · rw [if_neg e] at hj
      refine h'.2.2 (j, mv ad w) (List.mem_cons_of_mem _ (List.mem_filter.mpr ⟨al_mem.mpr ⟨w, hj, rfl⟩, ?_⟩))
      have hc := h.2.2.2 j w hj
      have e2 : (mv ad w).category = 1 := by rw [mv_cat]; exact hc
      have e3 : (j == i) = false := by simp; exact fun q => e q.symm
      simp [e2, e3]
  · rw [List.getElem?_set] at hj
    by_cases e : i = j
    · subst e
      rw [if_pos rfl] at hj
      simp [hi] at hj
      subst hj; exact hv
    · rw [if_neg e] at hj; exact h.2.2.2 j w hj
theorem J_iadd (hS : Kx S l E L N cc own nL d) {x y : Int32} (hd : decode cc pc = .ok (.iadd, 1)) (h : J S k n g (pc + 1) ls (.int (x + y) :: st)) : J S k n g pc ls (.int y :: .int x :: st) :=
  fun H locs la hW hV hl => lv_iadd hS.1 hS.2.1 hd (h H locs la hW hV hl)
theorem J_isub (hS : Kx S l E L N cc own nL d) {x y : Int32} (hd : decode cc pc = .ok (.isub, 1)) (h : J S k n g (pc + 1) ls (.int (x - y) :: st)) : J S k n g pc ls (.int y :: .int x :: st) :=
  fun H locs la hW hV hl => lv_isub hS.1 hS.2.1 hd (h H locs la hW hV hl)
theorem J_imul (hS : Kx S l E L N cc own nL d) {x y : Int32} (hd : decode cc pc = .ok (.imul, 1)) (h : J S k n g (pc + 1) ls (.int (x * y) :: st)) : J S k n g pc ls (.int y :: .int x :: st) :=
  fun H locs la hW hV hl => lv_imul hS.1 hS.2.1 hd (h H locs la hW hV hl)
theorem J_iand (hS : Kx S l E L N cc own nL d) {x y : Int32} (hd : decode cc pc = .ok (.iand, 1)) (h : J S k n g (pc + 1) ls (.int (x &&& y) :: st)) : J S k n g pc ls (.int y :: .int x :: st) :=
  fun H locs la hW hV hl => lv_iand hS.1 hS.2.1 hd (h H locs la hW hV hl)
theorem J_ior (hS : Kx S l E L N cc own nL d) {x y : Int32} (hd : decode cc pc = .ok (.ior, 1)) (h : J S k n g (pc + 1) ls (.int (x ||| y) :: st)) : J S k n g pc ls (.int y :: .int x :: st) :=
  fun H locs la hW hV hl => lv_ior hS.1 hS.2.1 hd (h H locs la hW hV hl)
theorem J_ixor (hS : Kx S l E L N cc own nL d) {x y : Int32} (hd : decode cc pc = .ok (.ixor, 1)) (h : J S k n g (pc + 1) ls (.int (x ^^^ y) :: st)) : J S k n g pc ls (.int y :: .int x :: st) :=
  fun H locs la hW hV hl => lv_ixor hS.1 hS.2.1 hd (h H locs la hW hV hl)
theorem J_ishl (hS : Kx S l E L N cc own nL d) {x y : Int32} (hd : decode cc pc = .ok (.ishl, 1)) (h : J S k n g (pc + 1) ls (.int (x <<< (y &&& 31)) :: st)) : J S k n g pc ls (.int y :: .int x :: st) :=
  fun H locs la hW hV hl => lv_ishl hS.1 hS.2.1 hd (h H locs la hW hV hl)
theorem J_ishr (hS : Kx S l E L N cc own nL d) {x y : Int32} (hd : decode cc pc = .ok (.ishr, 1)) (h : J S k n g (pc + 1) ls (.int (x >>> (y &&& 31)) :: st)) : J S k n g pc ls (.int y :: .int x :: st) :=
  fun H locs la hW hV hl => lv_ishr hS.1 hS.2.1 hd (h H locs la hW hV hl)
theorem J_iushr (hS : Kx S l E L N cc own nL d) {x y v : Int32} (hd : decode cc pc = .ok (.iushr, 1)) (hv : (x.toUInt32 >>> (y.toUInt32 &&& Int32.toUInt32 31)).toInt32 = v) (h : J S k n g (pc + 1) ls (.int v :: st)) : J S k n g pc ls (.int y :: .int x :: st) :=
  fun H locs la hW hV hl => lv_iushr hS.1 hS.2.1 hd hv (h H locs la hW hV hl)
theorem J_idiv (hS : Kx S l E L N cc own nL d) {x y : Int32} (hd : decode cc pc = .ok (.idiv, 1)) (hne : ¬ y = 0) (h : J S k n g (pc + 1) ls (.int (x / y) :: st)) : J S k n g pc ls (.int y :: .int x :: st) :=
  fun H locs la hW hV hl => lv_idiv hS.1 hS.2.1 hd hne (h H locs la hW hV hl)
theorem J_irem (hS : Kx S l E L N cc own nL d) {x y : Int32} (hd : decode cc pc = .ok (.irem, 1)) (hne : ¬ y = 0) (h : J S k n g (pc + 1) ls (.int (x - x / y * y) :: st)) : J S k n g pc ls (.int y :: .int x :: st) :=
  fun H locs la hW hV hl => lv_irem hS.1 hS.2.1 hd hne (h H locs la hW hV hl)
theorem J_ineg (hS : Kx S l E L N cc own nL d) {x : Int32} (hd : decode cc pc = .ok (.ineg, 1)) (h : J S k n g (pc + 1) ls (.int (-x) :: st)) : J S k n g pc ls (.int x :: st) :=
  fun H locs la hW hV hl => lv_ineg hS.1 hS.2.1 hd (h H locs la hW hV hl)
theorem J_i2l (hS : Kx S l E L N cc own nL d) {x : Int32} (hd : decode cc pc = .ok (.i2l, 1)) (h : J S k n g (pc + 1) ls (.long x.toInt64 :: st)) : J S k n g pc ls (.int x :: st) :=
  fun H locs la hW hV hl => lv_i2l hS.1 hS.2.1 hd rfl (h H locs la hW hV hl)
theorem J_lcmp (hS : Kx S l E L N cc own nL d) {x y : Int64} (hd : decode cc pc = .ok (.lcmp, 1)) (h : J S k n g (pc + 1) ls (.int (lg_cmp x y) :: st)) : J S k n g pc ls (.long y :: .long x :: st) :=
  fun H locs la hW hV hl => W.lcmp hS.1 hS.2.1 hd (h H locs la hW hV hl)
theorem J_iconst (hS : Kx S l E L N cc own nL d) {c : Int} {v : Int32} (hd : decode cc pc = .ok (.iconst c, 1)) (hv : Int32.ofInt c = v) (h : J S k n g (pc + 1) ls (.int v :: st)) : J S k n g pc ls (st) :=
  fun H locs la hW hV hl => lv_iconst hS.1 hS.2.1 hd hv (h H locs la hW hV hl)
theorem J_bipush (hS : Kx S l E L N cc own nL d) {c : Int} {v : Int32} (hd : decode cc pc = .ok (.bipush c, 2)) (hv : (Int8.ofInt c).toInt32 = v) (h : J S k n g (pc + 2) ls (.int v :: st)) : J S k n g pc ls (st) :=
  fun H locs la hW hV hl => lv_bipush hS.1 hS.2.1 hd hv (h H locs la hW hV hl)
theorem J_sipush (hS : Kx S l E L N cc own nL d) {c : Int} {v : Int32} (hd : decode cc pc = .ok (.sipush c, 3)) (hv : (Int16.ofInt c).toInt32 = v) (h : J S k n g (pc + 3) ls (.int v :: st)) : J S k n g pc ls (st) :=
  fun H locs la hW hV hl => lv_sipush hS.1 hS.2.1 hd hv (h H locs la hW hV hl)
theorem J_lconst (hS : Kx S l E L N cc own nL d) {c : Fin 2} {v : Int64} (hd : decode cc pc = .ok (.lconst c, 1)) (hv : Int64.ofNat (c : Nat) = v) (h : J S k n g (pc + 1) ls (.long v :: st)) : J S k n g pc ls (st) :=
  fun H locs la hW hV hl => lv_lconst hS.1 hS.2.1 hd hv (h H locs la hW hV hl)
theorem J_null (hS : Kx S l E L N cc own nL d)  (hd : decode cc pc = .ok (.aconst_null, 1)) (h : J S k n g (pc + 1) ls (.null :: st)) : J S k n g pc ls (st) :=
  fun H locs la hW hV hl => lv_null hS.1 hS.2.1 hd (h H locs la hW hV hl)
theorem J_ldc (hS : Kx S l E L N cc own nL d) {i : Nat} {v : Int32} (hd : decode cc pc = .ok (.ldc i, 2)) (hw : Jvm.Cond.constant own i v ∈ gw) (h : J S k n g (pc + 2) ls (.int v :: st)) : J S k n g pc ls st :=
  fun H locs la hW hV hl => lv_ldc hS.1 hS.2.1 hS.2.2.1 (hS.2.2.2.1 _ hw) hd (h H locs la hW hV hl)
theorem J_ldcw (hS : Kx S l E L N cc own nL d) {i : Nat} {v : Int32} (hd : decode cc pc = .ok (.ldc_w i, 3)) (hw : Jvm.Cond.constant own i v ∈ gw) (h : J S k n g (pc + 3) ls (.int v :: st)) : J S k n g pc ls st :=
  fun H locs la hW hV hl => lv_ldcw hS.1 hS.2.1 hS.2.2.1 (hS.2.2.2.1 _ hw) hd (h H locs la hW hV hl)
theorem J_iload (hS : Kx S l E L N cc own nL d) {i : Nat} {v : Int32} (hd : decode cc pc = .ok (.iload i, 2)) (hl : ls[i]? = some (some (.int v))) (h : J S k n g (pc + 2) ls (.int v :: st)) : J S k n g pc ls st :=
  fun H locs la hW hV hq => lv_iload hS.1 hS.2.1 hd (hq.2.2.1 i _ hl) (h H locs la hW hV hq)
theorem J_iload_n (hS : Kx S l E L N cc own nL d) {i : Fin 4} {v : Int32} (hd : decode cc pc = .ok (.iload_n i, 1)) (hl : ls[(i : Nat)]? = some (some (.int v))) (h : J S k n g (pc + 1) ls (.int v :: st)) : J S k n g pc ls st :=
  fun H locs la hW hV hq => lv_iload_n hS.1 hS.2.1 hd rfl (hq.2.2.1 i _ hl) (h H locs la hW hV hq)
theorem J_aload_n (hS : Kx S l E L N cc own nL d) {i : Fin 4} {v : Nat} (hd : decode cc pc = .ok (.aload_n i, 1)) (hl : ls[(i : Nat)]? = some (some (.ref v))) (h : J S k n g (pc + 1) ls (.ref v :: st)) : J S k n g pc ls st :=
  fun H locs la hW hV hq => lv_aload_n hS.1 hS.2.1 hd rfl (hq.2.2.1 i _ hl) (h H locs la hW hV hq)
theorem J_aload (hS : Kx S l E L N cc own nL d) {i : Nat} {v : Nat} (hd : decode cc pc = .ok (.aload i, 2)) (hl : ls[i]? = some (some (.ref v))) (h : J S k n g (pc + 2) ls (.ref v :: st)) : J S k n g pc ls st :=
  fun H locs la hW hV hq => lv_aload hS.1 hS.2.1 hd (hq.2.2.1 i _ hl) (h H locs la hW hV hq)
theorem J_aloadN (hS : Kx S l E L N cc own nL d) {i : Nat} (hd : decode cc pc = .ok (.aload i, 2)) (hl : ls[i]? = some (some .null)) (h : J S k n g (pc + 2) ls (.null :: st)) : J S k n g pc ls st :=
  fun H locs la hW hV hq => lv_aloadN hS.1 hS.2.1 hd (hq.2.2.1 i _ hl) (h H locs la hW hV hq)
theorem J_aload_nN (hS : Kx S l E L N cc own nL d) {i : Fin 4} (hd : decode cc pc = .ok (.aload_n i, 1)) (hl : ls[(i : Nat)]? = some (some .null)) (h : J S k n g (pc + 1) ls (.null :: st)) : J S k n g pc ls st :=
  fun H locs la hW hV hq => lv_aload_nN hS.1 hS.2.1 hd rfl (hq.2.2.1 i _ hl) (h H locs la hW hV hq)
theorem J_istore (hS : Kx S l E L N cc own nL d) {i : Nat} {x : Int32} {lt : Int32 → List (Option Value)} (hd : decode cc pc = .ok (.istore i, 2)) (hi : (i : Nat) < ls.length) (ht : ∀ z : Int32, ls.set (i : Nat) (some (.int z)) = lt z) (h : ∀ z : Int32, z = x → J S k n g (pc + 2) (lt z) st) : J S k n g pc ls (.int x :: st) :=
  fun H locs la hW hV hq => lv_istore hS.1 hS.2.1 hd hq.has hi rfl (fun la' h' => h x rfl H locs la' hW hV (by rw [← ht x]; exact hq.of (v := .int x) rfl hi h'))
theorem J_istore_n (hS : Kx S l E L N cc own nL d) {i : Fin 4} {x : Int32} {lt : Int32 → List (Option Value)} (hd : decode cc pc = .ok (.istore_n i, 1)) (hi : (i : Nat) < ls.length) (ht : ∀ z : Int32, ls.set (i : Nat) (some (.int z)) = lt z) (h : ∀ z : Int32, z = x → J S k n g (pc + 1) (lt z) st) : J S k n g pc ls (.int x :: st) :=
  fun H locs la hW hV hq => lv_istore_n hS.1 hS.2.1 hd rfl hq.has hi rfl (fun la' h' => h x rfl H locs la' hW hV (by rw [← ht x]; exact hq.of (v := .int x) rfl hi h'))
theorem J_astore (hS : Kx S l E L N cc own nL d) {i : Nat} {x : Nat} {lt : List (Option Value)} (hd : decode cc pc = .ok (.astore i, 2)) (hi : (i : Nat) < ls.length) (ht : ls.set (i : Nat) (some (.ref x)) = lt) (h : J S k n g (pc + 2) lt st) : J S k n g pc ls (.ref x :: st) :=
  fun H locs la hW hV hq => lv_astore hS.1 hS.2.1 hd hq.has hi rfl (fun la' h' => h H locs la' hW hV (by rw [← ht]; exact hq.of (v := .ref x) rfl hi h'))
theorem J_astore_n (hS : Kx S l E L N cc own nL d) {i : Fin 4} {x : Nat} {lt : List (Option Value)} (hd : decode cc pc = .ok (.astore_n i, 1)) (hi : (i : Nat) < ls.length) (ht : ls.set (i : Nat) (some (.ref x)) = lt) (h : J S k n g (pc + 1) lt st) : J S k n g pc ls (.ref x :: st) :=
  fun H locs la hW hV hq => lv_astore_n hS.1 hS.2.1 hd rfl hq.has hi rfl (fun la' h' => h H locs la' hW hV (by rw [← ht]; exact hq.of (v := .ref x) rfl hi h'))
theorem J_astoreN (hS : Kx S l E L N cc own nL d) {i : Nat} {lt : List (Option Value)} (hd : decode cc pc = .ok (.astore i, 2)) (hi : (i : Nat) < ls.length) (ht : ls.set (i : Nat) (some .null) = lt) (h : J S k n g (pc + 2) lt st) : J S k n g pc ls (.null :: st) :=
  fun H locs la hW hV hq => lv_astoreN hS.1 hS.2.1 hd hq.has hi rfl (fun la' h' => h H locs la' hW hV (by rw [← ht]; exact hq.of (v := .null) rfl hi h'))
theorem Lo.at {ad : Nat → Nat} {la : Array Slot} {ls : List (Option Value)} (h : Lo ad la ls) {i : Nat} {v : Value} (hl : ls[i]? = some (some v)) : ∃ q : Nat, (al ad ls)[q]? = some (i, mv ad v) := by
  obtain ⟨q, hq⟩ := List.mem_iff_getElem?.mp (al_mem (ad := ad).mpr ⟨v, hl, rfl⟩ : (i, mv ad v) ∈ al ad ls)
  exact ⟨q, hq⟩
theorem J_iinc (hS : Kx S l E L N cc own nL d) {i : Nat} {c : Int} {x v : Int32} {lt : Int32 → List (Option Value)} (hd : decode cc pc = .ok (.iinc i c, 3)) (hl : ls[i]? = some (some (.int x))) (hv : Int32.ofInt c = v) (ht : ∀ z : Int32, ls.set i (some (.int z)) = lt z) (h : ∀ z : Int32, z = x + v → J S k n g (pc + 3) (lt z) st) : J S k n g pc ls st := by
  intro H locs la hW hV hq
  have hi : i < ls.length := (List.getElem?_eq_some_iff.mp hl).1
  obtain ⟨q, e⟩ := hq.at hl
  subst hv
  exact lv_iinc (v := x + Int32.ofInt c) hS.1 hS.2.1 hd hq.has e rfl hi rfl (fun la' h' => h _ rfl H locs la' hW hV (by rw [← ht]; exact hq.of (v := .int (x + Int32.ofInt c)) rfl hi h'))
theorem J_dup (hS : Kx S l E L N cc own nL d) {v : Value} (hd : decode cc pc = .ok (.dup, 1)) (hv : v.category = 1) (h : J S k n g (pc + 1) ls (v :: v :: st)) : J S k n g pc ls (v :: st) :=
  fun H locs la hW hV hl => lv_dup hS.1 hS.2.1 hd (by rw [mv_cat]; exact hv) (h H locs la hW hV hl)
theorem J_pop (hS : Kx S l E L N cc own nL d) {v : Value} (hd : decode cc pc = .ok (.pop, 1)) (hv : v.category = 1) (h : J S k n g (pc + 1) ls st) : J S k n g pc ls (v :: st) :=
  fun H locs la hW hV hl => lv_pop hS.1 hS.2.1 hd (by rw [mv_cat]; exact hv) (h H locs la hW hV hl)
theorem J_dup2 (hS : Kx S l E L N cc own nL d) {v w : Value} (hd : decode cc pc = .ok (.dup2, 1)) (hv : v.category = 1) (hw : w.category = 1) (h : J S k n g (pc + 1) ls (v :: w :: v :: w :: st)) : J S k n g pc ls (v :: w :: st) :=
  fun H locs la hW hV hl => lv_dup2_11 hS.1 hS.2.1 hd (by rw [mv_cat]; exact hv) (by rw [mv_cat]; exact hw) (h H locs la hW hV hl)
theorem J_goto (hS : Kx S l E L N cc own nL d) {off : Int} {tgt : Nat} (hd : decode cc pc = .ok (.goto off, 3)) (ht : (pc : Int) + off = (tgt : Int)) (h : J S k n g tgt ls st) : J S k n g pc ls st :=
  fun H locs la hW hV hl => lv_goto hS.1 hS.2.1 hd ht (h H locs la hW hV hl)
theorem J_ifnull (hS : Kx S l E L N cc own nL d) {x : Nat} {off : Int} (hd : decode cc pc = .ok (.ifnull off, 3)) (h : J S k n g (pc + 3) ls st) : J S k n g pc ls (.ref x :: st) :=
  fun H locs la hW hV hl => lv_ifnull hS.1 hS.2.1 hd (h H locs la hW hV hl)
theorem J_ifnullN (hS : Kx S l E L N cc own nL d) {off : Int} {tgt : Nat} (hd : decode cc pc = .ok (.ifnull off, 3)) (ht : (pc : Int) + off = (tgt : Int)) (h : J S k n g tgt ls st) : J S k n g pc ls (.null :: st) :=
  fun H locs la hW hV hl => lv_ifnullN hS.1 hS.2.1 hd ht (h H locs la hW hV hl)
theorem J_ifnonnull (hS : Kx S l E L N cc own nL d) {x : Nat} {off : Int} {tgt : Nat} (hd : decode cc pc = .ok (.ifnonnull off, 3)) (ht : (pc : Int) + off = (tgt : Int)) (h : J S k n g tgt ls st) : J S k n g pc ls (.ref x :: st) :=
  fun H locs la hW hV hl => lv_ifnonnull hS.1 hS.2.1 hd ht (h H locs la hW hV hl)
theorem J_ifnonnullN (hS : Kx S l E L N cc own nL d) {off : Int} (hd : decode cc pc = .ok (.ifnonnull off, 3)) (h : J S k n g (pc + 3) ls st) : J S k n g pc ls (.null :: st) :=
  fun H locs la hW hV hl => lv_ifnonnullN hS.1 hS.2.1 hd (h H locs la hW hV hl)
theorem J_if_eq (hS : Kx S l E L N cc own nL d) {x : Int32} {off : Int} {tgt : Nat} (hd : decode cc pc = .ok (.ifCond .eq off, 3)) (ht : (pc : Int) + off = (tgt : Int)) (h1 : x = 0 → J S k n g tgt ls st) (h2 : ¬ x = 0 → J S k n g (pc + 3) ls st) : J S k n g pc ls (.int x :: st) :=
  fun H locs la hW hV hl => lv_if_eq hS.1 hS.2.1 hd ht (fun q => h1 q H locs la hW hV hl) (fun q => h2 q H locs la hW hV hl)
theorem J_icmp_eq (hS : Kx S l E L N cc own nL d) {x y : Int32} {off : Int} {tgt : Nat} (hd : decode cc pc = .ok (.if_icmp .eq off, 3)) (ht : (pc : Int) + off = (tgt : Int)) (h1 : x = y → J S k n g tgt ls st) (h2 : ¬ x = y → J S k n g (pc + 3) ls st) : J S k n g pc ls (.int y :: .int x :: st) :=
  fun H locs la hW hV hl => lv_icmp_eq hS.1 hS.2.1 hd ht (fun q => h1 q H locs la hW hV hl) (fun q => h2 q H locs la hW hV hl)
theorem J_if_ne (hS : Kx S l E L N cc own nL d) {x : Int32} {off : Int} {tgt : Nat} (hd : decode cc pc = .ok (.ifCond .ne off, 3)) (ht : (pc : Int) + off = (tgt : Int)) (h1 : ¬ x = 0 → J S k n g tgt ls st) (h2 : x = 0 → J S k n g (pc + 3) ls st) : J S k n g pc ls (.int x :: st) :=
  fun H locs la hW hV hl => lv_if_ne hS.1 hS.2.1 hd ht (fun q => h1 q H locs la hW hV hl) (fun q => h2 q H locs la hW hV hl)
theorem J_icmp_ne (hS : Kx S l E L N cc own nL d) {x y : Int32} {off : Int} {tgt : Nat} (hd : decode cc pc = .ok (.if_icmp .ne off, 3)) (ht : (pc : Int) + off = (tgt : Int)) (h1 : ¬ x = y → J S k n g tgt ls st) (h2 : x = y → J S k n g (pc + 3) ls st) : J S k n g pc ls (.int y :: .int x :: st) :=
  fun H locs la hW hV hl => lv_icmp_ne hS.1 hS.2.1 hd ht (fun q => h1 q H locs la hW hV hl) (fun q => h2 q H locs la hW hV hl)
theorem J_if_lt (hS : Kx S l E L N cc own nL d) {x : Int32} {off : Int} {tgt : Nat} (hd : decode cc pc = .ok (.ifCond .lt off, 3)) (ht : (pc : Int) + off = (tgt : Int)) (h1 : x < 0 → J S k n g tgt ls st) (h2 : ¬ x < 0 → J S k n g (pc + 3) ls st) : J S k n g pc ls (.int x :: st) :=
  fun H locs la hW hV hl => lv_if_lt hS.1 hS.2.1 hd ht (fun q => h1 q H locs la hW hV hl) (fun q => h2 q H locs la hW hV hl)
theorem J_icmp_lt (hS : Kx S l E L N cc own nL d) {x y : Int32} {off : Int} {tgt : Nat} (hd : decode cc pc = .ok (.if_icmp .lt off, 3)) (ht : (pc : Int) + off = (tgt : Int)) (h1 : x < y → J S k n g tgt ls st) (h2 : ¬ x < y → J S k n g (pc + 3) ls st) : J S k n g pc ls (.int y :: .int x :: st) :=
  fun H locs la hW hV hl => lv_icmp_lt hS.1 hS.2.1 hd ht (fun q => h1 q H locs la hW hV hl) (fun q => h2 q H locs la hW hV hl)
theorem J_if_ge (hS : Kx S l E L N cc own nL d) {x : Int32} {off : Int} {tgt : Nat} (hd : decode cc pc = .ok (.ifCond .ge off, 3)) (ht : (pc : Int) + off = (tgt : Int)) (h1 : 0 ≤ x → J S k n g tgt ls st) (h2 : ¬ 0 ≤ x → J S k n g (pc + 3) ls st) : J S k n g pc ls (.int x :: st) :=
  fun H locs la hW hV hl => lv_if_ge hS.1 hS.2.1 hd ht (fun q => h1 q H locs la hW hV hl) (fun q => h2 q H locs la hW hV hl)
theorem J_icmp_ge (hS : Kx S l E L N cc own nL d) {x y : Int32} {off : Int} {tgt : Nat} (hd : decode cc pc = .ok (.if_icmp .ge off, 3)) (ht : (pc : Int) + off = (tgt : Int)) (h1 : y ≤ x → J S k n g tgt ls st) (h2 : ¬ y ≤ x → J S k n g (pc + 3) ls st) : J S k n g pc ls (.int y :: .int x :: st) :=
  fun H locs la hW hV hl => lv_icmp_ge hS.1 hS.2.1 hd ht (fun q => h1 q H locs la hW hV hl) (fun q => h2 q H locs la hW hV hl)
theorem J_if_gt (hS : Kx S l E L N cc own nL d) {x : Int32} {off : Int} {tgt : Nat} (hd : decode cc pc = .ok (.ifCond .gt off, 3)) (ht : (pc : Int) + off = (tgt : Int)) (h1 : 0 < x → J S k n g tgt ls st) (h2 : ¬ 0 < x → J S k n g (pc + 3) ls st) : J S k n g pc ls (.int x :: st) :=
  fun H locs la hW hV hl => lv_if_gt hS.1 hS.2.1 hd ht (fun q => h1 q H locs la hW hV hl) (fun q => h2 q H locs la hW hV hl)
theorem J_icmp_gt (hS : Kx S l E L N cc own nL d) {x y : Int32} {off : Int} {tgt : Nat} (hd : decode cc pc = .ok (.if_icmp .gt off, 3)) (ht : (pc : Int) + off = (tgt : Int)) (h1 : y < x → J S k n g tgt ls st) (h2 : ¬ y < x → J S k n g (pc + 3) ls st) : J S k n g pc ls (.int y :: .int x :: st) :=
  fun H locs la hW hV hl => lv_icmp_gt hS.1 hS.2.1 hd ht (fun q => h1 q H locs la hW hV hl) (fun q => h2 q H locs la hW hV hl)
theorem J_if_le (hS : Kx S l E L N cc own nL d) {x : Int32} {off : Int} {tgt : Nat} (hd : decode cc pc = .ok (.ifCond .le off, 3)) (ht : (pc : Int) + off = (tgt : Int)) (h1 : x ≤ 0 → J S k n g tgt ls st) (h2 : ¬ x ≤ 0 → J S k n g (pc + 3) ls st) : J S k n g pc ls (.int x :: st) :=
  fun H locs la hW hV hl => lv_if_le hS.1 hS.2.1 hd ht (fun q => h1 q H locs la hW hV hl) (fun q => h2 q H locs la hW hV hl)
theorem J_icmp_le (hS : Kx S l E L N cc own nL d) {x y : Int32} {off : Int} {tgt : Nat} (hd : decode cc pc = .ok (.if_icmp .le off, 3)) (ht : (pc : Int) + off = (tgt : Int)) (h1 : x ≤ y → J S k n g tgt ls st) (h2 : ¬ x ≤ y → J S k n g (pc + 3) ls st) : J S k n g pc ls (.int y :: .int x :: st) :=
  fun H locs la hW hV hl => lv_icmp_le hS.1 hS.2.1 hd ht (fun q => h1 q H locs la hW hV hl) (fun q => h2 q H locs la hW hV hl)
theorem J_tableIn (hS : Kx S l E L N cc own nL d) {dflt lo hi : Int} {offs : Array Int} {len : Nat} {x : Int32} {off : Int} {tgt : Nat} (hd : decode cc pc = .ok (.tableswitch dflt lo hi offs, len)) (h1 : ¬ x.toInt < lo) (h2 : ¬ hi < x.toInt) (ho : offs[(x.toInt - lo).toNat]? = some off) (ht : (pc : Int) + off = (tgt : Int)) (h : J S k n g tgt ls st) : J S k n g pc ls (.int x :: st) :=
  fun H locs la hW hV hl => lv_tableIn hS.1 hS.2.1 hd h1 h2 ho ht (h H locs la hW hV hl)
theorem J_tableOut (hS : Kx S l E L N cc own nL d) {dflt lo hi : Int} {offs : Array Int} {len : Nat} {x : Int32} {tgt : Nat} (hd : decode cc pc = .ok (.tableswitch dflt lo hi offs, len)) (h1 : x.toInt < lo ∨ hi < x.toInt) (ht : (pc : Int) + dflt = (tgt : Int)) (h : J S k n g tgt ls st) : J S k n g pc ls (.int x :: st) :=
  fun H locs la hW hV hl => lv_tableOut hS.1 hS.2.1 hd h1 ht (h H locs la hW hV hl)
theorem J_lookup (hS : Kx S l E L N cc own nL d) {dflt : Int} {ps : Array (Int × Int)} {len : Nat} {x : Int32} {off : Int} {tgt : Nat} (hd : decode cc pc = .ok (.lookupswitch dflt ps, len)) (hp : (ps.toList.zip (ps.toList.drop 1)).all (fun (a, next) => a.1 < next.1) = true) (ho : Op.lookupswitch.offset ps.toList dflt x.toInt = off) (ht : (pc : Int) + off = (tgt : Int)) (h : J S k n g tgt ls st) : J S k n g pc ls (.int x :: st) :=
  fun H locs la hW hV hl => lv_lookup hS.1 hS.2.1 hd hp ho ht (h H locs la hW hV hl)
end CoreRows
