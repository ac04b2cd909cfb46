/-! THE CORE: a memory of ints (cell, slot), a layout of the cells, and the judgement J over the kit's W. -/
abbrev Mm : Type := Nat → Nat → Int32
def u2 (g : Mm) (a k : Nat) (v : Int32) : Mm := fun b j => if b = a ∧ j = k then v else g b j
/-- a cell's layout: its class (by number) or its elements' type; how many slots; the kind of each: 0 int, 1 long, 2 a reference that moves (0: null), n + 3 the cell n for ever -/
abbrev Ly : Type := (Nat ⊕ FieldType) × Nat × (Nat → Nat)
/-- class numbers and slots, the array classes, the address of each cell, the first address that may be written -/
abbrev Ey : Type := va_G × (FieldType → ClassId) × (Nat → Nat) × Nat
abbrev Ey.D (E : Ey) : va_G := E.1
abbrev Ey.cA (E : Ey) : FieldType → ClassId := E.2.1
abbrev Ey.ad (E : Ey) : Nat → Nat := E.2.2.1
abbrev Ey.N0 (E : Ey) : Nat := E.2.2.2
abbrev Ey.A (E : Ey) : Nat → Prop := fun q => E.2.2.2 ≤ q
def ab (k : Nat) (x : Int32) : Value := match k with
  | 0 => .int x
  | 1 => .long x.toInt64
  | 2 => if x = 0 then .null else .ref x.toNatClampNeg
  | n + 3 => .ref n
def mv (ad : Nat → Nat) (v : Value) : Value := match v with
  | .ref a => .ref (ad a)
  | w => w
def ce (E : Ey) (q : Ly) (r : Nat → Int32) : va_E := match q.1 with
  | .inl ci => .inr (ci, (List.range q.2.1).map (fun k => mv E.ad (ab (q.2.2 k) (r k))))
  | .inr ty => .inl (E.cA ty, q.2.1, match q.2.2 0 with
    | 0 => .inl r
    | 1 => .inr (.inl fun j => (r j).toInt64)
    | _ => .inr (.inr (.inr (.inr fun j => some (E.ad (q.2.2 j - 3))))))
def wl (E : Ey) (L : Nat → Ly) (N : Nat) (g : Mm) : va_W := (List.range N).map (fun a => (E.ad a, ce E (L a) (g a)))
theorem wl_at {E : Ey} {L : Nat → Ly} {N : Nat} {g : Mm} {a : Nat} (h : a < N) : (wl E L N g)[a]? = some (E.ad a, ce E (L a) (g a)) := by simp [wl, h]
theorem wl_set {E : Ey} {L : Nat → Ly} {N : Nat} {g g' : Mm} {a : Nat} (ho : ∀ b, b ≠ a → g' b = g b) : (wl E L N g).set a (E.ad a, ce E (L a) (g' a)) = wl E L N g' := by
  apply List.ext_getElem?
  intro i
  rw [List.getElem?_set]
  by_cases hi : i < N
  · by_cases e : a = i
    · subst e; simp [wl, hi]
    · rw [if_neg e, wl_at hi, wl_at hi, ho i (fun h => e h.symm)]
  · by_cases e : a = i
    · subst e; simp [wl, hi]
    · rw [if_neg e]; simp [wl, hi]
theorem u2_ne {g : Mm} {a k : Nat} {v : Int32} (b : Nat) (h : b ≠ a) : u2 g a k v b = g b := by funext j; simp [u2, h]
theorem u2_row {g : Mm} {a k : Nat} {v : Int32} : u2 g a k v a = upd (g a) k v := by funext j; simp [u2, upd]
/-- the types of the arrays -/
abbrev tyl (E : Ey) : List (ClassId × FieldType) := [(E.cA .int, .int), (E.cA .boolean, .boolean), (E.cA .long, .long), (E.cA (.object "YardTalk$World"), .object "YardTalk$World"), (E.cA (.object "YardTalk$Film"), .object "YardTalk$Film"), (E.cA (.object "YardTalk$Law"), .object "YardTalk$Law")]
/-- the cells lie apart, behind N0 -/
def Eo (E : Ey) (N : Nat) : Prop := (∀ i j : Nat, i < N → j < N → E.ad i = E.ad j → i = j) ∧ ∀ i : Nat, i < N → E.N0 ≤ E.ad i
theorem wl_D {E : Ey} {L : Nat → Ly} {N : Nat} {g : Mm} (h : Eo E N) : va_D E.A (wl E L N g) := by
  have key : ∀ (k : Nat) (q : Nat × va_E), (wl E L N g)[k]? = some q → k < N ∧ q.1 = E.ad k := by
    intro k q hq
    by_cases hk : k < N
    · rw [wl_at hk] at hq; cases hq; exact ⟨hk, rfl⟩
    · simp [wl, hk] at hq
  refine ⟨fun i j p q hp hq e => ?_, fun k q hq => ?_⟩
  · obtain ⟨h1, h2⟩ := key i p hp
    obtain ⟨h3, h4⟩ := key j q hq
    exact h.1 i j h1 h3 (by rw [← h2, ← h4]; exact e)
  · obtain ⟨h1, h2⟩ := key k q hq
    show E.N0 ≤ q.1
    rw [h2]; exact h.2 k h1
def zRO (j : Nat) : Int32 := ([0, 1, 2, 0, 2, 1, 1, 0, 2, 1, 2, 0, 2, 0, 1, 2, 1, 0] : List Int32).getD j 0
def zWI (j : Nat) : Int32 := ([10, 10, 2, 100] : List Int32).getD j 0
/-- the cells that are only read: the static rows (cells 1001, 1002, 1003), the two statics of Throwable, the texts of the reader's words -/
def wdLen : List Nat := [5, 5, 4, 4, 2, 5, 4, 3, 5, 5, 5, 6, 5, 2, 3, 3]
def wdByt : List (List Int32) := [[108, 101, 97, 114, 110], [111, 114, 100, 101, 114], [108, 111, 115, 101], [109, 117, 115, 116], [105, 102], [108, 101, 97, 115, 116], [109, 111, 115, 116], [97, 103, 101], [116, 104, 101, 114, 101], [114, 105, 103, 104, 116], [115, 104, 111, 119, 110], [119, 101, 105, 103, 104, 116], [116, 97, 108, 107, 115], [111, 114], [97, 110, 100], [110, 111, 116]]
def Ro (E : Ey) (U : State) (H : Heap) : Prop :=
  (va_Z "YardTalk" "ROLES" "[I" (.ref (E.ad 1001)) E.A U H ∧ va_T .int (E.ad 1001) 18 (fun j => .int (zRO j)) E.A U H) ∧
  (va_Z "YardTalk$Ruling" "WITHOUT" "[I" (.ref (E.ad 1002)) E.A U H ∧ va_T .int (E.ad 1002) 4 (fun j => .int (zWI j)) E.A U H) ∧
  (va_Z "YardTalkModel" "PLACES" "[I" (.ref (E.ad 1003)) E.A U H ∧ va_T .int (E.ad 1003) 18 (fun j => .int (zRO j)) E.A U H) ∧
  (vx_Zq Bundle.tN "UNASSIGNED_STACK" Bundle.steD E.A U H ∧ vx_Zq Bundle.tN "SUPPRESSED_SENTINEL" Bundle.listD E.A U H) ∧
  vk_S 16 wdLen wdByt (fun i => E.ad (1100 + i)) (fun i => E.ad (1200 + i)) E.A U H
theorem Ro.moved {E : Ey} {u U : State} {H : Heap} (hvm : u.vm.Alike U.vm) (h : Ro E u H) : Ro E U H :=
  ⟨⟨h.1.1.moved hvm, h.1.2.moved hvm⟩, ⟨h.2.1.1.moved hvm, h.2.1.2.moved hvm⟩, ⟨h.2.2.1.1.moved hvm, h.2.2.1.2.moved hvm⟩, ⟨h.2.2.2.1.1.moved hvm, h.2.2.2.1.2.moved hvm⟩, h.2.2.2.2.moved hvm⟩
theorem Ro.kept {E : Ey} {U : State} {H H1 : Heap} (h : Ro E U H) (hq : ∀ a : Nat, a < H.size → ¬ E.A a → H1[a]? = H[a]?) : Ro E U H1 :=
  ⟨⟨h.1.1.kept hq, h.1.2.kept hq⟩, ⟨h.2.1.1.kept hq, h.2.1.2.kept hq⟩, ⟨h.2.2.1.1.kept hq, h.2.2.1.2.kept hq⟩, ⟨h.2.2.2.1.1.kept hq, h.2.2.2.1.2.kept hq⟩, h.2.2.2.2.kept hq⟩
/-- the world: heap H holds the memory g by the layout L of N cells; what is only read is there -/
def Wd (E : Ey) (L : Nat → Ly) (N : Nat) (g : Mm) (U : State) (H : Heap) : Prop :=
  va_P E.D vwCl (wl E L N g) H ∧ va_K E.D vwCl (tyl E) U ∧ Eo E N ∧ E.N0 ≤ H.size ∧ Ro E U H
theorem Wd.moved {E : Ey} {L : Nat → Ly} {N : Nat} {g : Mm} {u U : State} {H : Heap} (hvm : u.vm.Alike U.vm) (h : Wd E L N g u H) : Wd E L N g U H :=
  ⟨h.1, h.2.1.moved hvm, h.2.2.1, h.2.2.2.1, h.2.2.2.2.moved hvm⟩
/-- a method's own context -/
abbrev Sx : Type := (Program × Launch × Env × Room × State) × (MethodId × Array Value × List Frame × Method × Code) × (Ey × (Nat → Ly) × Nat) × (Nat × Nat) × (Option Value → Mm → Prop) × (String → Mm → Prop)
abbrev Sx.p (S : Sx) : Program := S.1.1
abbrev Sx.l (S : Sx) : Launch := S.1.2.1
abbrev Sx.e (S : Sx) : Env := S.1.2.2.1
abbrev Sx.R (S : Sx) : Room := S.1.2.2.2.1
abbrev Sx.s (S : Sx) : State := S.1.2.2.2.2
abbrev Sx.m (S : Sx) : MethodId := S.2.1.1
abbrev Sx.args (S : Sx) : Array Value := S.2.1.2.1
abbrev Sx.below (S : Sx) : List Frame := S.2.1.2.2.1
abbrev Sx.meth (S : Sx) : Method := S.2.1.2.2.2.1
abbrev Sx.c (S : Sx) : Code := S.2.1.2.2.2.2
abbrev Sx.E (S : Sx) : Ey := S.2.2.1.1
abbrev Sx.L (S : Sx) : Nat → Ly := S.2.2.1.2.1
abbrev Sx.N (S : Sx) : Nat := S.2.2.1.2.2
abbrev Sx.mc (S : Sx) : Nat := S.2.2.2.1.1
abbrev Sx.ms (S : Sx) : Nat := S.2.2.2.1.2
abbrev Sx.Q (S : Sx) : Option Value → Mm → Prop := S.2.2.2.2.1
abbrev Sx.X (S : Sx) : String → Mm → Prop := S.2.2.2.2.2
/-- a contract's end: an answer and a memory; or what was thrown and a memory -/
def Qx (E : Ey) (L : Nat → Ly) (N : Nat) (Q : Option Value → Mm → Prop) : Array Value → State → Outcome → State → Prop := fun _ _ o t => ∃ (r : Option Value) (g : Mm), o = .returned (r.map (mv E.ad)) ∧ Q r g ∧ Wd E L N g t t.heap
def Xx (E : Ey) (L : Nat → Ly) (N : Nat) (X : String → Mm → Prop) : String → State → State → Prop := fun C _ t => ∃ g : Mm, X C g ∧ Wd E L N g t t.heap
abbrev Sx.end (S : Sx) : State → Prop := vx_MQ S.below (Qx S.E S.L S.N S.Q) (Xx S.E S.L S.N S.X) S.args S.s S.mc S.ms S.E.A
/-- the locals: what is known of each -/
def Lo (ad : Nat → Nat) (la : Array Slot) (ls : List (Option Value)) : Prop := la.size = ls.length ∧ lv_wf la ∧ (∀ (i : Nat) (v : Value), ls[i]? = some (some v) → la[i]? = some (.val (mv ad v))) ∧ ∀ (i : Nat) (v : Value), ls[i]? = some (some v) → v.category = 1
/-- THE JUDGEMENT: at pc, with locals ls, stack st and memory g, k cells of n slots made, the method comes to its end -/
def J (S : Sx) (k n : Nat) (g : Mm) (pc : Nat) (ls : List (Option Value)) (st : List Value) : Prop :=
  ∀ (H : Heap) (locs : List Loc) (la : Array Slot), Wd S.E S.L S.N g S.s H → va_S S.E.A S.s.heap H locs → Lo S.E.ad la ls →
    W S.p S.l S.e S.R S.s S.m S.args S.below S.meth S.c H locs k n S.end (F0 S.m pc la (st.map (mv S.E.ad)))
/-- what is fixed in a method's walk -/
def Kx (S : Sx) (cc : ByteArray) (own : String) (ret : Option FieldType) : Prop :=
  S.p.tables.exec = Jvm.exec ∧ S.c.code = cc ∧ S.s.vm.findClass own = some S.m.cls ∧ (∀ w ∈ gw, w.before S.args S.s = true) ∧ S.meth.sig.returnType = ret ∧ S.meth.locks = false ∧ (∀ x ∈ S.c.exceptionTable.toList, False) ∧ Ro S.E S.s S.s.heap ∧ S.l.stackTraces = false ∧ S.E.N0 ≤ S.s.heap.size
section CoreRows
variable {S : Sx} {k n : Nat} {g : Mm} {pc : Nat} {ls : List (Option Value)} {st : List Value} {cc : ByteArray} {own : String} {ret : Option FieldType}
theorem J.eq {pc' : Nat} {ls' : List (Option Value)} {st' : List Value} {g' : Mm} (h : J S k n g' pc' ls' st') (e1 : g = g') (e2 : pc = pc') (e3 : ls = ls') (e4 : st = st') : J S k n g pc ls st := by subst e1 e2 e3 e4; exact h
theorem J_iadd (hS : Kx S cc own ret) {x y : Int32} (hd : decode cc pc = .ok (.iadd, 1)) (h : J S k n g (pc + 1) ls (.int (x + y) :: st)) : J S k n g pc ls (.int y :: .int x :: st) :=
  fun H locs la hW hV hl => lv_iadd hS.1 hS.2.1 hd (h H locs la hW hV hl)
theorem J_iload (hS : Kx S cc own ret) {i : Nat} {v : Int32} (hd : decode cc pc = .ok (.iload i, 2)) (hl : ls[i]? = some (some (.int v))) (h : J S k n g (pc + 2) ls (.int v :: st)) : J S k n g pc ls st :=
  fun H locs la hW hV hq => lv_iload hS.1 hS.2.1 hd (hq.2.2.1 i _ hl) (h H locs la hW hV hq)
theorem J_aload_n (hS : Kx S cc own ret) {i : Fin 4} {v : Nat} (hd : decode cc pc = .ok (.aload_n i, 1)) (hl : ls[(i : Nat)]? = some (some (.ref v))) (h : J S k n g (pc + 1) ls (.ref v :: st)) : J S k n g pc ls st :=
  fun H locs la hW hV hq => lv_aload_n hS.1 hS.2.1 hd rfl (hq.2.2.1 i _ hl) (h H locs la hW hV hq)
end CoreRows
