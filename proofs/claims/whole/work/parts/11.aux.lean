/-! HELPS: indices as nI of a number, literals -/
theorem n0 : (0 : Int32) = nI 0 := rfl
theorem n1 : (1 : Int32) = nI 1 := rfl
theorem n2 : (2 : Int32) = nI 2 := rfl
theorem n3 : (3 : Int32) = nI 3 := rfl
theorem n4 : (4 : Int32) = nI 4 := rfl
theorem n5 : (5 : Int32) = nI 5 := rfl
theorem n6 : (6 : Int32) = nI 6 := rfl
theorem n7 : (7 : Int32) = nI 7 := rfl
theorem n8 : (8 : Int32) = nI 8 := rfl
theorem n9 : (9 : Int32) = nI 9 := rfl
theorem n10 : (10 : Int32) = nI 10 := rfl
theorem n11 : (11 : Int32) = nI 11 := rfl
theorem n12 : (12 : Int32) = nI 12 := rfl
theorem n13 : (13 : Int32) = nI 13 := rfl
theorem n14 : (14 : Int32) = nI 14 := rfl
theorem n15 : (15 : Int32) = nI 15 := rfl
theorem n16 : (16 : Int32) = nI 16 := rfl
theorem n17 : (17 : Int32) = nI 17 := rfl
theorem n18 : (18 : Int32) = nI 18 := rfl
theorem n19 : (19 : Int32) = nI 19 := rfl
theorem n20 : (20 : Int32) = nI 20 := rfl
theorem n24 : (24 : Int32) = nI 24 := rfl
theorem n32 : (32 : Int32) = nI 32 := rfl
theorem n56 : (56 : Int32) = nI 56 := rfl
theorem n60 : (60 : Int32) = nI 60 := rfl
theorem n64 : (64 : Int32) = nI 64 := rfl
theorem n72 : (72 : Int32) = nI 72 := rfl
theorem n99 : (99 : Int32) = nI 99 := rfl
theorem n100 : (100 : Int32) = nI 100 := rfl
theorem n128 : (128 : Int32) = nI 128 := rfl
theorem n136 : (136 : Int32) = nI 136 := rfl
theorem n142 : (142 : Int32) = nI 142 := rfl
theorem n144 : (144 : Int32) = nI 144 := rfl
theorem n200 : (200 : Int32) = nI 200 := rfl
theorem n300 : (300 : Int32) = nI 300 := rfl
theorem n999 : (999 : Int32) = nI 999 := rfl
theorem n1000 : (1000 : Int32) = nI 1000 := rfl
theorem n1500 : (1500 : Int32) = nI 1500 := rfl
theorem n2000 : (2000 : Int32) = nI 2000 := rfl
theorem n3072 : (3072 : Int32) = nI 3072 := rfl
theorem n3464 : (3464 : Int32) = nI 3464 := rfl
theorem vpi {i : Int32} {len : Nat} (m : Nat) (e : i = nI m) (h : m < len) (hl : len < 2 ^ 31) : vp_in i len := by rw [e]; exact vp_in_nI h hl
theorem cl_nI {i : Int32} (m : Nat) (e : i = nI m) (h : m < 2 ^ 31) : i.toNatClampNeg = m := by rw [e]; exact nI_clamp h
/-- the entry, with what is decided by looking -/
theorem Ct_in {l : Launch} {E : Ey} {L : Nat → Ly} {N : List Nat} {d mc ms : Nat} {y : MethodName} {av : List Value} {g : Mm} {Q : Option Value → Mm → Prop} {X : String → Mm → Prop} {cc : ByteArray} {maxL : Nat} {ret : Option FieldType} {ls : List (Option Value)} (hw : Cond.code y cc maxL ret ∈ gw) (hy : plainName y.cls = true) (hc : av.all (fun v => v.category == 1) = true) (hn : av.length ≤ maxL) (hl : av.map some ++ List.replicate (maxL - av.length) none = ls)
    (body : ∀ S : Sx, Kx S l E L N cc y.cls maxL d → Zx S mc ms Q X → S.meth.sig.returnType = ret → (∀ x ∈ S.c.exceptionTable.toList, False) → mc ≤ S.R.cells ∧ ms ≤ S.R.slots → J S 0 0 g 0 ls []) : Ct l E L N d mc ms y av g Q X := by
  subst hl
  exact Ct_of hy hw (fun v hv => by have := List.all_eq_true.mp hc v hv; simpa using this) hn body
section AuxRows
variable {S : Sx} {k n : Nat} {g : Mm} {pc : Nat} {ls : List (Option Value)} {st : List Value} {cc : ByteArray} {own : String} {nL d : Nat} {l : Launch} {E : Ey} {L : Nat → Ly} {N : List Nat}
/-- places by numbers -/
theorem J_ialdN (hS : Kx S l E L N cc own nL d) {a len : Nat} {i : Int32} (m : Nat) (hd : decode cc pc = .ok (.iaload, 1)) (ha : Ar L N .int a len) (e : i = nI m) (hm : m < len) (hlen : len < 2 ^ 31) (h : J S k n g (pc + 1) ls (.int (g a m) :: st)) : J S k n g pc ls (.int i :: .ref a :: st) :=
  J_iald hS hd ha (vpi m e hm hlen) (by rw [cl_nI m e (by omega)]; exact h)
theorem J_zaldN (hS : Kx S l E L N cc own nL d) {a len : Nat} {i : Int32} (m : Nat) (hd : decode cc pc = .ok (.baload, 1)) (ha : Ar L N .boolean a len) (e : i = nI m) (hm : m < len) (hlen : len < 2 ^ 31) (h : J S k n g (pc + 1) ls (.int (g a m) :: st)) : J S k n g pc ls (.int i :: .ref a :: st) :=
  J_zald hS hd ha (vpi m e hm hlen) (by rw [cl_nI m e (by omega)]; exact h)
theorem J_iastN (hS : Kx S l E L N cc own nL d) {a len : Nat} {i x : Int32} (m : Nat) (hd : decode cc pc = .ok (.iastore, 1)) (ha : Ar L N .int a len) (e : i = nI m) (hm : m < len) (hlen : len < 2 ^ 31) (h : ∀ g', g' = u2 g a m x → J S k n g' (pc + 1) ls st) : J S k n g pc ls (.int x :: .int i :: .ref a :: st) :=
  J_iast hS hd ha (vpi m e hm hlen) (by rw [cl_nI m e (by omega)]; exact h)
theorem J_zastN (hS : Kx S l E L N cc own nL d) {a len : Nat} {i x : Int32} (m : Nat) (hd : decode cc pc = .ok (.bastore, 1)) (ha : Ar L N .boolean a len) (e : i = nI m) (hm : m < len) (hlen : len < 2 ^ 31) (hx : x = 0 ∨ x = 1) (h : ∀ g', g' = u2 g a m x → J S k n g' (pc + 1) ls st) : J S k n g pc ls (.int x :: .int i :: .ref a :: st) :=
  J_zast hS hd ha (vpi m e hm hlen) hx (by rw [cl_nI m e (by omega)]; exact h)
theorem J_taldN (hS : Kx S l E L N cc own nL d) {t len : Nat} {f : Nat → Int32} {i : Int32} (m : Nat) (hd : decode cc pc = .ok (.iaload, 1)) (ht : ∀ (E : Ey) (U : State) (H : Heap), Ro E U H → va_T .int (E.ad t) len (fun j => .int (f j)) E.A U H) (e : i = nI m) (hm : m < len) (hlen : len < 2 ^ 31) (h : J S k n g (pc + 1) ls (.int (f m) :: st)) : J S k n g pc ls (.int i :: .ref t :: st) :=
  J_tald hS hd ht (vpi m e hm hlen) (by rw [cl_nI m e (by omega)]; exact h)
theorem J_aaldN (hS : Kx S l E L N cc own nL d) {a len t0 t : Nat} {C : String} {kd : Nat → Nat} {i : Int32} (m : Nat) (hd : decode cc pc = .ok (.aaload, 1)) (ha : Aq L N C a len kd) (ht : ∀ E : Ey, (tyl E)[t0]? = some (E.cA (.object C), .object C)) (e : i = nI m) (hm : m < len) (hlen : len < 2 ^ 31) (hk : kd m = t + 3) (h : J S k n g (pc + 1) ls (.ref t :: st)) : J S k n g pc ls (.int i :: .ref a :: st) :=
  J_aald hS hd ha ht (vpi m e hm hlen) (by rw [cl_nI m e (by omega)]; exact hk) h
/-- an int on the top of the stack under another name -/
theorem J_top {x y : Int32} (e : x = y) (h : J S k n g pc ls (.int y :: st)) : J S k n g pc ls (.int x :: st) := by rw [e]; exact h
end AuxRows
