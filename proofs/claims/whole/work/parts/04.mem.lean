/-! MEMORY ROWS: fields, arrays, statics -/
/-- an object of the class ci at the cell a: m slots of these kinds -/
def Ob (L : Nat → Ly) (N : List Nat) (ci a m : Nat) (kd : Nat → Nat) : Prop := a ∈ N ∧ L a = (.inl ci, m, kd)
/-- a row of ints (or booleans) at the cell a, len places -/
def Ar (L : Nat → Ly) (N : List Nat) (ty : FieldType) (a len : Nat) : Prop := a ∈ N ∧ ∃ kd : Nat → Nat, L a = (.inr ty, len, kd) ∧ kd 0 = 0
/-- a row of longs -/
def Al (L : Nat → Ly) (N : List Nat) (a len : Nat) : Prop := a ∈ N ∧ ∃ kd : Nat → Nat, L a = (.inr .long, len, kd) ∧ kd 0 = 1
/-- a row of references that stay -/
def Aq (L : Nat → Ly) (N : List Nat) (C : String) (a len : Nat) (kd : Nat → Nat) : Prop := a ∈ N ∧ L a = (.inr (.object C), len, kd) ∧ ∃ z, kd 0 = z + 3
theorem ce_obj {E : Ey} {ci m : Nat} {kd : Nat → Nat} {r : Nat → Int32} : ce E (.inl ci, m, kd) r = .inr (ci, (List.range m).map (fun k => mv E.ad (ab (kd k) (r k)))) := rfl
theorem ce_int {E : Ey} {ty : FieldType} {m : Nat} {kd : Nat → Nat} {r : Nat → Int32} (h : kd 0 = 0) : ce E (.inr ty, m, kd) r = .inl (E.cA ty, m, .inl r) := by simp [ce, h]
theorem ce_lng {E : Ey} {ty : FieldType} {m : Nat} {kd : Nat → Nat} {r : Nat → Int32} (h : kd 0 = 1) : ce E (.inr ty, m, kd) r = .inl (E.cA ty, m, .inr (.inl fun j => (r j).toInt64)) := by simp [ce, h]
theorem ce_ref {E : Ey} {ty : FieldType} {m : Nat} {kd : Nat → Nat} {r : Nat → Int32} (h : ∃ z, kd 0 = z + 3) : ce E (.inr ty, m, kd) r = .inl (E.cA ty, m, .inr (.inr (.inr (.inr fun j => some (E.ad (kd j - 3)))))) := by
  obtain ⟨z, h⟩ := h
  simp [ce, h]
theorem ce_put {E : Ey} {m f : Nat} {kd : Nat → Nat} {r : Nat → Int32} {x : Int32} : ((List.range m).map (fun k => mv E.ad (ab (kd k) (r k)))).set f (mv E.ad (ab (kd f) x)) = (List.range m).map (fun k => mv E.ad (ab (kd k) (upd r f x k))) := by
  apply List.ext_getElem?
  intro i
  rw [List.getElem?_set]
  by_cases e : f = i
  · subst e
    by_cases h : f < m <;> simp [h, upd]
  · rw [if_neg e]
    by_cases h : i < m
    · have : ¬ i = f := fun q => e q.symm
      simp [h, upd, this]
    · simp [h]
section MemRows
variable {S : Sx} {k n : Nat} {g : Mm} {pc : Nat} {ls : List (Option Value)} {st : List Value} {cc : ByteArray} {own : String} {nL d : Nat} {l : Launch} {E : Ey} {L : Nat → Ly} {N : List Nat}
theorem Kx.L_eq (hS : Kx S l E L N cc own nL d) : S.L = L := hS.2.2.2.2.2.2.2.2.2.2.2.2.1
theorem Kx.N_eq (hS : Kx S l E L N cc own nL d) : S.N = N := hS.2.2.2.2.2.2.2.2.2.2.2.2.2.1
theorem Kx.E_eq (hS : Kx S l E L N cc own nL d) : S.E = E := hS.2.2.2.2.2.2.2.2.2.2.2.2.2.2.1
theorem Kx.l_eq (hS : Kx S l E L N cc own nL d) : S.l = l := hS.2.2.2.2.2.2.2.2.2.2.2.2.2.2.2
theorem Kx.at (hS : Kx S l E L N cc own nL d) {a : Nat} (h : a ∈ N) : ∃ i0 : Nat, S.N[i0]? = some a ∧ (wl S.E S.L S.N g)[i0]? = some (S.E.ad a, ce S.E (L a) (g a)) := by
  obtain ⟨i0, hi⟩ := List.mem_iff_getElem?.mp h
  exact ⟨i0, by rw [hS.N_eq]; exact hi, by rw [← hS.L_eq]; exact wl_at (by rw [hS.N_eq]; exact hi)⟩
theorem J_get (hS : Kx S l E L N cc own nL d) {a idx ci f m : Nat} {kd : Nat → Nat} {v : Value} (hd : decode cc pc = .ok (.getfield idx, 3)) (hf : FL own idx ci f m) (ho : Ob L N ci a m kd) (hv : ab (kd f) (g a f) = v) (h : J S k n g (pc + 3) ls (v :: st)) : J S k n g pc ls (.ref a :: st) := by
  intro H locs la hW hV hl
  obtain ⟨C, T, h1, h2, h3, h4⟩ := hf
  obtain ⟨i0, hi0, e⟩ := hS.at (g := g) ho.1
  rw [ho.2, ce_obj] at e
  exact va_get hS.1 hS.2.1 hS.2.2.2.1 h4 hS.2.2.1 hW.2.1 hW.1 i0 e h1 f h2 (hS.2.2.2.1 _ h3) (fun _ q => q) (v := mv S.E.ad v) (by rw [← hv]; simp [h2]) hd (h H locs la hW hV hl)
theorem J_getI (hS : Kx S l E L N cc own nL d) {a idx ci f m : Nat} {kd : Nat → Nat} (hd : decode cc pc = .ok (.getfield idx, 3)) (hf : FL own idx ci f m) (ho : Ob L N ci a m kd) (hk : kd f = 0) (h : J S k n g (pc + 3) ls (.int (g a f) :: st)) : J S k n g pc ls (.ref a :: st) := J_get hS hd hf ho (by rw [hk]; rfl) h
theorem J_getR (hS : Kx S l E L N cc own nL d) {a idx ci f m t : Nat} {kd : Nat → Nat} (hd : decode cc pc = .ok (.getfield idx, 3)) (hf : FL own idx ci f m) (ho : Ob L N ci a m kd) (hk : kd f = t + 3) (h : J S k n g (pc + 3) ls (.ref t :: st)) : J S k n g pc ls (.ref a :: st) := J_get hS hd hf ho (by rw [hk]; rfl) h
theorem J_getD (hS : Kx S l E L N cc own nL d) {a idx ci f m : Nat} {kd : Nat → Nat} {v : Value} (hd : decode cc pc = .ok (.getfield idx, 3)) (hf : FL own idx ci f m) (ho : Ob L N ci a m kd) (hk : kd f = 2) (hv : ab 2 (g a f) = v) (h : J S k n g (pc + 3) ls (v :: st)) : J S k n g pc ls (.ref a :: st) := J_get hS hd hf ho (by rw [hk]; exact hv) h
theorem J_put (hS : Kx S l E L N cc own nL d) {a idx ci f m : Nat} {kd : Nat → Nat} {ty : FieldType} {v : Value} {x : Int32} (hd : decode cc pc = .ok (.putfield idx, 3)) (hf : FP own idx ci f m ty) (ho : Ob L N ci a m kd) (hv : ab (kd f) x = v) (hn : narrow ty (mv E.ad v) = mv E.ad v) (ht : fits ty (mv E.ad v) = true) (h : ∀ g', g' = u2 g a f x → J S k n g' (pc + 3) ls st) : J S k n g pc ls (v :: .ref a :: st) := by
  intro H locs la hW hV hl
  obtain ⟨C, T, h1, h2, h3, h4, h5, h6, ⟨ty0, h7⟩, h8⟩ := hf
  obtain ⟨i0, hi0, e⟩ := hS.at (g := g) ho.1
  rw [ho.2, ce_obj] at e
  have hE := hS.E_eq
  refine va_put hS.1 hS.2.1 hS.2.2.2.1 h4 ty0 h7 h8 hS.2.2.1 hW.2.1 hW.1 (wl_D hW.2.2.1) hV i0 e h1 f h2 (hS.2.2.2.1 _ h3) (fun _ q => q) h5 (v := mv S.E.ad v) h6 (by rw [hE]; exact hn) (by rw [hE]; exact ht) (by simp [h2]) hd ?_
  intro H1 locs1 hP hD hV1
  refine h _ rfl H1 locs1 la ⟨?_, hW.2.1, hW.2.2.1, Nat.le_trans hS.2.2.2.2.2.2.2.2.2.1 hV1.1, hS.2.2.2.2.2.2.1.kept hV1.2.1⟩ hV1 hl
  have e2 : (wl S.E S.L S.N g).set i0 (S.E.ad a, ce S.E (S.L a) (u2 g a f x a)) = wl S.E S.L S.N (u2 g a f x) := wl_set hW.2.2.1.1 hi0 (fun b hb => u2_ne b hb)
  rw [← e2, hS.L_eq, ho.2, ce_obj, u2_row, ← ce_put, hv, ← hS.L_eq]
  exact hP
theorem J_putI (hS : Kx S l E L N cc own nL d) {a idx ci f m : Nat} {kd : Nat → Nat} {x : Int32} (hd : decode cc pc = .ok (.putfield idx, 3)) (hf : FP own idx ci f m .int) (ho : Ob L N ci a m kd) (hk : kd f = 0) (h : ∀ g', g' = u2 g a f x → J S k n g' (pc + 3) ls st) : J S k n g pc ls (.int x :: .ref a :: st) :=
  J_put hS hd hf ho (x := x) (by rw [hk]; rfl) rfl rfl h
theorem J_putZ (hS : Kx S l E L N cc own nL d) {a idx ci f m : Nat} {kd : Nat → Nat} {x : Int32} (hd : decode cc pc = .ok (.putfield idx, 3)) (hf : FP own idx ci f m .boolean) (ho : Ob L N ci a m kd) (hk : kd f = 0) (hx : x = 0 ∨ x = 1) (h : ∀ g', g' = u2 g a f x → J S k n g' (pc + 3) ls st) : J S k n g pc ls (.int x :: .ref a :: st) :=
  J_put hS hd hf ho (x := x) (by rw [hk]; rfl) (by rcases hx with e | e <;> subst e <;> rfl) (by rcases hx with e | e <;> subst e <;> rfl) h
theorem J_putD (hS : Kx S l E L N cc own nL d) {a idx ci f m : Nat} {kd : Nat → Nat} {ty : FieldType} {v : Value} {x : Int32} (hd : decode cc pc = .ok (.putfield idx, 3)) (hf : FP own idx ci f m ty) (hy : (∃ C, ty = .object C) ∨ ∃ t, ty = .array t) (ho : Ob L N ci a m kd) (hk : kd f = 2) (hv : ab 2 x = v) (hr : v = .null ∨ ∃ t, v = .ref t) (h : ∀ g', g' = u2 g a f x → J S k n g' (pc + 3) ls st) : J S k n g pc ls (v :: .ref a :: st) :=
  J_put hS hd hf ho (x := x) (by rw [hk]; exact hv) (by rcases hy with ⟨C, e⟩ | ⟨t, e⟩ <;> rcases hr with q | ⟨t, q⟩ <;> subst e <;> subst q <;> rfl) (by rcases hy with ⟨C, e⟩ | ⟨t, e⟩ <;> rcases hr with q | ⟨t, q⟩ <;> subst e <;> subst q <;> rfl) h
theorem J_iald (hS : Kx S l E L N cc own nL d) {a len : Nat} {i : Int32} (hd : decode cc pc = .ok (.iaload, 1)) (ha : Ar L N .int a len) (hin : vp_in i len) (h : J S k n g (pc + 1) ls (.int (g a i.toNatClampNeg) :: st)) : J S k n g pc ls (.int i :: .ref a :: st) := by
  intro H locs la hW hV hl
  obtain ⟨h1, kd, h2, h3⟩ := ha
  obtain ⟨i0, hi0, e⟩ := hS.at (g := g) h1
  rw [h2, ce_int h3] at e
  exact va_iald hS.1 hS.2.1 hW.2.1 hW.1 i0 0 e rfl hin hd (h H locs la hW hV hl)
theorem J_zald (hS : Kx S l E L N cc own nL d) {a len : Nat} {i : Int32} (hd : decode cc pc = .ok (.baload, 1)) (ha : Ar L N .boolean a len) (hin : vp_in i len) (h : J S k n g (pc + 1) ls (.int (g a i.toNatClampNeg) :: st)) : J S k n g pc ls (.int i :: .ref a :: st) := by
  intro H locs la hW hV hl
  obtain ⟨h1, kd, h2, h3⟩ := ha
  obtain ⟨i0, hi0, e⟩ := hS.at (g := g) h1
  rw [h2, ce_int h3] at e
  exact va_zald hS.1 hS.2.1 hW.2.1 hW.1 i0 1 e rfl hin hd (h H locs la hW hV hl)
theorem J_lald (hS : Kx S l E L N cc own nL d) {a len : Nat} {i : Int32} (hd : decode cc pc = .ok (.laload, 1)) (ha : Al L N a len) (hin : vp_in i len) (h : J S k n g (pc + 1) ls (.long (g a i.toNatClampNeg).toInt64 :: st)) : J S k n g pc ls (.int i :: .ref a :: st) := by
  intro H locs la hW hV hl
  obtain ⟨h1, kd, h2, h3⟩ := ha
  obtain ⟨i0, hi0, e⟩ := hS.at (g := g) h1
  rw [h2, ce_lng h3] at e
  exact va_lald hS.1 hS.2.1 hW.2.1 hW.1 i0 2 e rfl hin hd (h H locs la hW hV hl)
theorem J_store (hS : Kx S l E L N cc own nL d) {a i i0 : Nat} (hi0 : S.N[i0]? = some a) {x : Int32} {w : va_E} {H H1 : Heap} {locs1 : List Loc} (hW : Wd S.E S.L S.N g S.s H) (hV1 : va_S S.E.A S.s.heap H1 locs1) (hw : w = ce S.E (L a) (upd (g a) i x)) (hP : va_P S.E.D vwCl ((wl S.E S.L S.N g).set i0 (S.E.ad a, w)) H1) : Wd S.E S.L S.N (u2 g a i x) S.s H1 := by
  refine ⟨?_, hW.2.1, hW.2.2.1, Nat.le_trans hS.2.2.2.2.2.2.2.2.2.1 hV1.1, hS.2.2.2.2.2.2.1.kept hV1.2.1⟩
  have e2 : (wl S.E S.L S.N g).set i0 (S.E.ad a, ce S.E (S.L a) (u2 g a i x a)) = wl S.E S.L S.N (u2 g a i x) := wl_set hW.2.2.1.1 hi0 (fun b hb => u2_ne b hb)
  rw [← e2, hS.L_eq, u2_row, ← hw, ← hS.L_eq]
  exact hP
theorem J_iast (hS : Kx S l E L N cc own nL d) {a len : Nat} {i x : Int32} (hd : decode cc pc = .ok (.iastore, 1)) (ha : Ar L N .int a len) (hin : vp_in i len) (h : ∀ g', g' = u2 g a i.toNatClampNeg x → J S k n g' (pc + 1) ls st) : J S k n g pc ls (.int x :: .int i :: .ref a :: st) := by
  intro H locs la hW hV hl
  obtain ⟨h1, kd, h2, h3⟩ := ha
  obtain ⟨i0, hi0, e⟩ := hS.at (g := g) h1
  rw [h2, ce_int h3] at e
  exact va_iast hS.1 hS.2.1 hW.2.1 hW.1 (wl_D hW.2.2.1) hV i0 0 e rfl hin hd (fun H1 locs1 hP hD hV1 => h _ rfl H1 locs1 la (J_store hS hi0 hW hV1 (by rw [h2, ce_int h3]) hP) hV1 hl)
theorem J_zast (hS : Kx S l E L N cc own nL d) {a len : Nat} {i x : Int32} (hd : decode cc pc = .ok (.bastore, 1)) (ha : Ar L N .boolean a len) (hin : vp_in i len) (hx : x = 0 ∨ x = 1) (h : ∀ g', g' = u2 g a i.toNatClampNeg x → J S k n g' (pc + 1) ls st) : J S k n g pc ls (.int x :: .int i :: .ref a :: st) := by
  intro H locs la hW hV hl
  obtain ⟨h1, kd, h2, h3⟩ := ha
  obtain ⟨i0, hi0, e⟩ := hS.at (g := g) h1
  rw [h2, ce_int h3] at e
  have hx2 : vp_nar .boolean x = x := by rcases hx with q | q <;> subst q <;> decide
  exact va_zast hS.1 hS.2.1 hW.2.1 hW.1 (wl_D hW.2.2.1) hV i0 1 e rfl hin hd (fun H1 locs1 hP hD hV1 => h _ rfl H1 locs1 la (J_store hS hi0 hW hV1 (by rw [h2, ce_int h3, hx2]) hP) hV1 hl)
theorem J_last (hS : Kx S l E L N cc own nL d) {a len : Nat} {i x : Int32} {y : Int64} (hd : decode cc pc = .ok (.lastore, 1)) (ha : Al L N a len) (hin : vp_in i len) (hx : y = x.toInt64) (h : ∀ g', g' = u2 g a i.toNatClampNeg x → J S k n g' (pc + 1) ls st) : J S k n g pc ls (.long y :: .int i :: .ref a :: st) := by
  intro H locs la hW hV hl
  obtain ⟨h1, kd, h2, h3⟩ := ha
  obtain ⟨i0, hi0, e⟩ := hS.at (g := g) h1
  rw [h2, ce_lng h3] at e
  exact va_last hS.1 hS.2.1 hW.2.1 hW.1 (wl_D hW.2.2.1) hV i0 2 e rfl hin hd (fun H1 locs1 hP hD hV1 => h _ rfl H1 locs1 la (J_store hS hi0 hW hV1 (by rw [h2, ce_lng h3, hx]; congr; funext j; simp only [vp_updL, upd]; split <;> rfl) hP) hV1 hl)
theorem J_alen (hS : Kx S l E L N cc own nL d) {a len : Nat} {v : Int32} (hd : decode cc pc = .ok (.arraylength, 1)) (ha : Ar L N .int a len) (hv : Int32.ofNat len = v) (h : J S k n g (pc + 1) ls (.int v :: st)) : J S k n g pc ls (.ref a :: st) := by
  intro H locs la hW hV hl
  obtain ⟨h1, kd, h2, h3⟩ := ha
  obtain ⟨i0, hi0, e⟩ := hS.at (g := g) h1
  rw [h2, ce_int h3] at e
  exact va_alen hS.1 hS.2.1 hW.2.1 hW.1 i0 0 e rfl hv hd (h H locs la hW hV hl)
theorem J_aald (hS : Kx S l E L N cc own nL d) {a len t0 t : Nat} {C : String} {kd : Nat → Nat} {i : Int32} (hd : decode cc pc = .ok (.aaload, 1)) (ha : Aq L N C a len kd) (ht : ∀ E : Ey, (tyl E)[t0]? = some (E.cA (.object C), .object C)) (hin : vp_in i len) (hk : kd i.toNatClampNeg = t + 3) (h : J S k n g (pc + 1) ls (.ref t :: st)) : J S k n g pc ls (.int i :: .ref a :: st) := by
  intro H locs la hW hV hl
  obtain ⟨h1, h2, h3⟩ := ha
  obtain ⟨i0, hi0, e⟩ := hS.at (g := g) h1
  rw [h2, ce_ref h3] at e
  refine va_aldq hS.1 hS.2.1 hW.2.1 hW.1 i0 t0 e (ht _) hin hd ?_
  rw [hk]
  exact h H locs la hW hV hl
/-- a static row: ROLES 1001, WITHOUT 1002, PLACES 1003 -/
theorem J_gets (hS : Kx S l E L N cc own nL d) {idx t : Nat} {C nm : String} (hd : decode cc pc = .ok (.getstatic idx, 3)) (hw : Cond.fieldLink own idx C nm "[I" ∈ gw) (ht : ∀ (E : Ey) (U : State) (H : Heap), Ro E U H → va_Z C nm "[I" (.ref (E.ad t)) E.A U H) (h : J S k n g (pc + 3) ls (.ref t :: st)) : J S k n g pc ls st :=
  fun H locs la hW hV hl => va_gets hS.1 hS.2.1 (ht _ _ _ hS.2.2.2.2.2.2.1) hV hS.2.2.1 (hS.2.2.2.1 _ hw) (fun _ q => q) hd (h H locs la hW hV hl)
theorem J_tald (hS : Kx S l E L N cc own nL d) {t len : Nat} {f : Nat → Int32} {i : Int32} (hd : decode cc pc = .ok (.iaload, 1)) (ht : ∀ (E : Ey) (U : State) (H : Heap), Ro E U H → va_T .int (E.ad t) len (fun j => .int (f j)) E.A U H) (hin : vp_in i len) (h : J S k n g (pc + 1) ls (.int (f i.toNatClampNeg) :: st)) : J S k n g pc ls (.int i :: .ref t :: st) :=
  fun H locs la hW hV hl => va_ti hS.1 hS.2.1 (ht _ _ _ hS.2.2.2.2.2.2.1) hV hin rfl hd (h H locs la hW hV hl)
theorem ro_ROLES : ∀ (E : Ey) (U : State) (H : Heap), Ro E U H → va_Z "YardTalk" "ROLES" "[I" (.ref (E.ad 1001)) E.A U H := fun _ _ _ h => h.1.1
theorem ro_ROLESt : ∀ (E : Ey) (U : State) (H : Heap), Ro E U H → va_T .int (E.ad 1001) 18 (fun j => .int (zRO j)) E.A U H := fun _ _ _ h => h.1.2
theorem ro_WITHOUT : ∀ (E : Ey) (U : State) (H : Heap), Ro E U H → va_Z "YardTalk$Ruling" "WITHOUT" "[I" (.ref (E.ad 1002)) E.A U H := fun _ _ _ h => h.2.1.1
theorem ro_WITHOUTt : ∀ (E : Ey) (U : State) (H : Heap), Ro E U H → va_T .int (E.ad 1002) 4 (fun j => .int (zWI j)) E.A U H := fun _ _ _ h => h.2.1.2
theorem ro_PLACES : ∀ (E : Ey) (U : State) (H : Heap), Ro E U H → va_Z "YardTalkModel" "PLACES" "[I" (.ref (E.ad 1003)) E.A U H := fun _ _ _ h => h.2.2.1.1
theorem ro_PLACESt : ∀ (E : Ey) (U : State) (H : Heap), Ro E U H → va_T .int (E.ad 1003) 18 (fun j => .int (zRO j)) E.A U H := fun _ _ _ h => h.2.2.1.2
/-- a row copied into another -/
def uc (g : Mm) (a b sp dp n : Nat) : Mm := fun q => if q = b then va_cpy (g a) (g b) sp dp n else g q
theorem J_copy (hS : Kx S l E L N cc own nL d) {idx a b la0 lb : Nat} {sp dp m : Int32} (hd : decode cc pc = .ok (.invokestatic idx, 3)) (hw : Cond.methodLink own idx arraycopyName ∈ gw) (hnat : Cond.native arraycopyName ∈ gw) (hst : Cond.static arraycopyName ∈ gw) (hini : Cond.initialized "java/lang/System" ∈ gw) (ha : Ar L N .int a la0) (hb : Ar L N .int b lb) (h1 : ¬ sp < 0) (h2 : ¬ dp < 0) (h3 : ¬ m < 0) (h4 : sp.toNatClampNeg + m.toNatClampNeg ≤ la0) (h5 : dp.toNatClampNeg + m.toNatClampNeg ≤ lb) (hn : nL = ls.length) (hdp : 1 ≤ d) (hr : (st.map fun v => v.category).sum + (nativeFrameWords "java/lang/System" "arraycopy" 5 + 11) ≤ 64) (h : ∀ g', g' = uc g a b sp.toNatClampNeg dp.toNatClampNeg m.toNatClampNeg → J S k n g' (pc + 3) ls st) : J S k n g pc ls (.int m :: .int dp :: .ref b :: .int sp :: .ref a :: st) := by
  intro H locs la hW hV hl
  obtain ⟨a1, ka, a2, a3⟩ := ha
  obtain ⟨b1, kb, b2, b3⟩ := hb
  obtain ⟨i0, hi0, e⟩ := hS.at (g := g) a1
  rw [a2, ce_int a3] at e
  obtain ⟨j0, hj0, e'⟩ := hS.at (g := g) b1
  rw [b2, ce_int b3] at e'
  have hsum : ((st.map (mv S.E.ad)).map fun v => v.category).sum = (st.map fun v => v.category).sum := by
    rw [List.map_map]; congr 1; apply List.map_congr_left; intro v _; exact mv_cat _ _
  have hlc := hS.2.2.2.2.2.2.2.2.2.2.2.1
  have hfr := hS.2.2.2.2.2.2.2.2.2.2.1
  refine va_copyi hS.1 hS.2.1 (by rw [hS.2.2.2.2.1, hl.1]; exact hn) hS.2.2.1 (hS.2.2.2.1 _ hw) (hS.2.2.2.1 _ hnat) (hS.2.2.2.1 _ hst) (hS.2.2.2.1 _ hini) hW.2.1 hW.1 (wl_D hW.2.2.1) hV i0 j0 0 0 e e' rfl rfl rfl h1 h2 h3 h4 h5 (fun _ _ => rfl) (Nat.le_trans hdp hfr) (by rw [hsum]; omega) hd ?_
  intro H1 locs1 hP hD hV1
  refine h _ rfl H1 locs1 la ⟨?_, hW.2.1, hW.2.2.1, Nat.le_trans hS.2.2.2.2.2.2.2.2.2.1 hV1.1, hS.2.2.2.2.2.2.1.kept hV1.2.1⟩ hV1 hl
  have e2 : (wl S.E S.L S.N g).set j0 (S.E.ad b, ce S.E (S.L b) (uc g a b sp.toNatClampNeg dp.toNatClampNeg m.toNatClampNeg b)) = wl S.E S.L S.N (uc g a b sp.toNatClampNeg dp.toNatClampNeg m.toNatClampNeg)   := wl_set hW.2.2.1.1 hj0 (fun q hq => by simp [uc, hq])
  rw [← e2, hS.L_eq, b2, ce_int b3, ← hS.L_eq]
  simp only [uc, if_true]
  exact hP
end MemRows
