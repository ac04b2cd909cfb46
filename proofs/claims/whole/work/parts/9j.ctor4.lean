/-! THE CONSTRUCTOR OF THE REFERENCE -/
def ordM : List Nat := [164, 165, 176, 177, 178, 179, 180, 181, 182, 183, 191, 197, 198, 199, 201, 202, 203, 205, 210, 211, 212, 213, 214, 215, 216, 218]
/-- the reference as it is made -/
def MF (g : Mm) : Prop :=
  ((∀ k ∈ ([1, 2, 13, 14, 15, 16, 17, 18, 19, 20, 28, 34, 35, 36, 38, 39, 40, 42, 47, 48, 49, 50, 51, 52, 53, 55] : List Nat), g 162 k = nI (163 + k)) ∧ g 162 3 = nI 164 ∧ g 162 12 = -1 ∧ g 162 27 = -1 ∧ g 162 46 = -1 ∧ ∀ k ∈ ([0, 4, 5, 6, 7, 8, 9, 10, 11, 21, 22, 23, 24, 25, 26, 29, 30, 31, 32, 33, 37, 41, 43, 44, 45, 54] : List Nat), g 162 k = 0) ∧
  (g 164 = upd (upd (upd (upd (upd (fun _ => 0) 0 1) 1 1) 3 1000) 4 50) 5 (-1)) ∧ (∀ j, j < 12 → g 202 j = -1) ∧ (∀ j, j < 144 → g 203 j = -1) ∧
  (g 165 = fun _ => 0) ∧ (g 176 = fun _ => 0) ∧ (g 177 = fun _ => 0) ∧ (g 178 = fun _ => 0) ∧ (g 179 = fun _ => 0) ∧ (g 180 = fun _ => 0) ∧ (g 181 = fun _ => 0) ∧ (g 182 = fun _ => 0) ∧ (g 183 = fun _ => 0) ∧ (g 191 = fun _ => 0) ∧ (g 197 = fun _ => 0) ∧ (g 198 = fun _ => 0) ∧ (g 199 = fun _ => 0) ∧ (g 201 = fun _ => 0) ∧ (g 205 = fun _ => 0) ∧ (g 210 = fun _ => 0) ∧ (g 211 = fun _ => 0) ∧ (g 212 = fun _ => 0) ∧ (g 213 = fun _ => 0) ∧ (g 214 = fun _ => 0) ∧ (g 215 = fun _ => 0) ∧ (g 216 = fun _ => 0) ∧ (g 218 = fun _ => 0)
def mIni (g : Mm) : Mm := (u2 (u2 (u2 (u2 (u2 (u2 (zrM (u2 (zrM (u2 (zrM (u2 (zrM (u2 (zrM (u2 (zrM (u2 (zrM (u2 (zrM (u2 (u2 (zrM (u2 (zrM (u2 (zrM (u2 (zrM (u2 (zrM (u2 (zrM (u2 (zrM (u2 (zrM (u2 (u2 (zrM (u2 (zrM (u2 (zrM (u2 (zrM (u2 (zrM (u2 (zrM (u2 (zrM (u2 (zrM (u2 (u2 (u2 (zrM (u2 (zrM g 164) 162 1 (nI (164))) 165) 162 2 (nI (165))) 162 3 (nI (164))) 162 12 ((-1))) 176) 162 13 (nI (176))) 177) 162 14 (nI (177))) 178) 162 15 (nI (178))) 179) 162 16 (nI (179))) 180) 162 17 (nI (180))) 181) 162 18 (nI (181))) 182) 162 19 (nI (182))) 183) 162 20 (nI (183))) 162 27 ((-1))) 191) 162 28 (nI (191))) 197) 162 34 (nI (197))) 198) 162 35 (nI (198))) 199) 162 36 (nI (199))) 201) 162 38 (nI (201))) 202) 162 39 (nI (202))) 203) 162 40 (nI (203))) 205) 162 42 (nI (205))) 162 46 ((-1))) 210) 162 47 (nI (210))) 211) 162 48 (nI (211))) 212) 162 49 (nI (212))) 213) 162 50 (nI (213))) 214) 162 51 (nI (214))) 215) 162 52 (nI (215))) 216) 162 53 (nI (216))) 218) 162 55 (nI (218))) 164 (0 : Int32).toNatClampNeg (1)) 164 (1 : Int32).toNatClampNeg (1)) 164 (3 : Int32).toNatClampNeg (1000)) 164 (4 : Int32).toNatClampNeg (50)) 164 (5 : Int32).toNatClampNeg ((-1)))
theorem mIni_ne {g : Mm} {c : Nat} (h : c ∉ ordM) (h2 : c ≠ 162) : mIni g c = g c := by
  have x : ∀ a ∈ ordM, c ≠ a := fun a ha e => h (by rw [e]; exact ha)
  unfold mIni
  have x164 := x 164 (by decide)
  have x165 := x 165 (by decide)
  have x176 := x 176 (by decide)
  have x177 := x 177 (by decide)
  have x178 := x 178 (by decide)
  have x179 := x 179 (by decide)
  have x180 := x 180 (by decide)
  have x181 := x 181 (by decide)
  have x182 := x 182 (by decide)
  have x183 := x 183 (by decide)
  have x191 := x 191 (by decide)
  have x197 := x 197 (by decide)
  have x198 := x 198 (by decide)
  have x199 := x 199 (by decide)
  have x201 := x 201 (by decide)
  have x202 := x 202 (by decide)
  have x203 := x 203 (by decide)
  have x205 := x 205 (by decide)
  have x210 := x 210 (by decide)
  have x211 := x 211 (by decide)
  have x212 := x 212 (by decide)
  have x213 := x 213 (by decide)
  have x214 := x 214 (by decide)
  have x215 := x 215 (by decide)
  have x216 := x 216 (by decide)
  have x218 := x 218 (by decide)
  simp only [u2_ne _ h2, zrM_ne x164, zrM_ne x165, zrM_ne x176, zrM_ne x177, zrM_ne x178, zrM_ne x179, zrM_ne x180, zrM_ne x181, zrM_ne x182, zrM_ne x183, zrM_ne x191, zrM_ne x197, zrM_ne x198, zrM_ne x199, zrM_ne x201, zrM_ne x202, zrM_ne x203, zrM_ne x205, zrM_ne x210, zrM_ne x211, zrM_ne x212, zrM_ne x213, zrM_ne x214, zrM_ne x215, zrM_ne x216, zrM_ne x218, u2_ne _ x164]
theorem mIni_165 {g : Mm} : mIni g 165 = fun _ => 0 := by unfold mIni; rw [u2_ne _ (by decide), u2_ne _ (by decide), u2_ne _ (by decide), u2_ne _ (by decide), u2_ne _ (by decide), u2_ne _ (by decide), zrM_ne (by decide), u2_ne _ (by decide), zrM_ne (by decide), u2_ne _ (by decide), zrM_ne (by decide), u2_ne _ (by decide), zrM_ne (by decide), u2_ne _ (by decide), zrM_ne (by decide), u2_ne _ (by decide), zrM_ne (by decide), u2_ne _ (by decide), zrM_ne (by decide), u2_ne _ (by decide), zrM_ne (by decide), u2_ne _ (by decide), u2_ne _ (by decide), zrM_ne (by decide), u2_ne _ (by decide), zrM_ne (by decide), u2_ne _ (by decide), zrM_ne (by decide), u2_ne _ (by decide), zrM_ne (by decide), u2_ne _ (by decide), zrM_ne (by decide), u2_ne _ (by decide), zrM_ne (by decide), u2_ne _ (by decide), zrM_ne (by decide), u2_ne _ (by decide), zrM_ne (by decide), u2_ne _ (by decide), u2_ne _ (by decide), zrM_ne (by decide), u2_ne _ (by decide), zrM_ne (by decide), u2_ne _ (by decide), zrM_ne (by decide), u2_ne _ (by decide), zrM_ne (by decide), u2_ne _ (by decide), zrM_ne (by decide), u2_ne _ (by decide), zrM_ne (by decide), u2_ne _ (by decide), zrM_ne (by decide), u2_ne _ (by decide), zrM_ne (by decide), u2_ne _ (by decide), u2_ne _ (by decide), u2_ne _ (by decide), zrM_at]
theorem mIni_176 {g : Mm} : mIni g 176 = fun _ => 0 := by unfold mIni; rw [u2_ne _ (by decide), u2_ne _ (by decide), u2_ne _ (by decide), u2_ne _ (by decide), u2_ne _ (by decide), u2_ne _ (by decide), zrM_ne (by decide), u2_ne _ (by decide), zrM_ne (by decide), u2_ne _ (by decide), zrM_ne (by decide), u2_ne _ (by decide), zrM_ne (by decide), u2_ne _ (by decide), zrM_ne (by decide), u2_ne _ (by decide), zrM_ne (by decide), u2_ne _ (by decide), zrM_ne (by decide), u2_ne _ (by decide), zrM_ne (by decide), u2_ne _ (by decide), u2_ne _ (by decide), zrM_ne (by decide), u2_ne _ (by decide), zrM_ne (by decide), u2_ne _ (by decide), zrM_ne (by decide), u2_ne _ (by decide), zrM_ne (by decide), u2_ne _ (by decide), zrM_ne (by decide), u2_ne _ (by decide), zrM_ne (by decide), u2_ne _ (by decide), zrM_ne (by decide), u2_ne _ (by decide), zrM_ne (by decide), u2_ne _ (by decide), u2_ne _ (by decide), zrM_ne (by decide), u2_ne _ (by decide), zrM_ne (by decide), u2_ne _ (by decide), zrM_ne (by decide), u2_ne _ (by decide), zrM_ne (by decide), u2_ne _ (by decide), zrM_ne (by decide), u2_ne _ (by decide), zrM_ne (by decide), u2_ne _ (by decide), zrM_ne (by decide), u2_ne _ (by decide), zrM_at]
theorem mIni_177 {g : Mm} : mIni g 177 = fun _ => 0 := by unfold mIni; rw [u2_ne _ (by decide), u2_ne _ (by decide), u2_ne _ (by decide), u2_ne _ (by decide), u2_ne _ (by decide), u2_ne _ (by decide), zrM_ne (by decide), u2_ne _ (by decide), zrM_ne (by decide), u2_ne _ (by decide), zrM_ne (by decide), u2_ne _ (by decide), zrM_ne (by decide), u2_ne _ (by decide), zrM_ne (by decide), u2_ne _ (by decide), zrM_ne (by decide), u2_ne _ (by decide), zrM_ne (by decide), u2_ne _ (by decide), zrM_ne (by decide), u2_ne _ (by decide), u2_ne _ (by decide), zrM_ne (by decide), u2_ne _ (by decide), zrM_ne (by decide), u2_ne _ (by decide), zrM_ne (by decide), u2_ne _ (by decide), zrM_ne (by decide), u2_ne _ (by decide), zrM_ne (by decide), u2_ne _ (by decide), zrM_ne (by decide), u2_ne _ (by decide), zrM_ne (by decide), u2_ne _ (by decide), zrM_ne (by decide), u2_ne _ (by decide), u2_ne _ (by decide), zrM_ne (by decide), u2_ne _ (by decide), zrM_ne (by decide), u2_ne _ (by decide), zrM_ne (by decide), u2_ne _ (by decide), zrM_ne (by decide), u2_ne _ (by decide), zrM_ne (by decide), u2_ne _ (by decide), zrM_ne (by decide), u2_ne _ (by decide), zrM_at]
theorem mIni_178 {g : Mm} : mIni g 178 = fun _ => 0 := by unfold mIni; rw [u2_ne _ (by decide), u2_ne _ (by decide), u2_ne _ (by decide), u2_ne _ (by decide), u2_ne _ (by decide), u2_ne _ (by decide), zrM_ne (by decide), u2_ne _ (by decide), zrM_ne (by decide), u2_ne _ (by decide), zrM_ne (by decide), u2_ne _ (by decide), zrM_ne (by decide), u2_ne _ (by decide), zrM_ne (by decide), u2_ne _ (by decide), zrM_ne (by decide), u2_ne _ (by decide), zrM_ne (by decide), u2_ne _ (by decide), zrM_ne (by decide), u2_ne _ (by decide), u2_ne _ (by decide), zrM_ne (by decide), u2_ne _ (by decide), zrM_ne (by decide), u2_ne _ (by decide), zrM_ne (by decide), u2_ne _ (by decide), zrM_ne (by decide), u2_ne _ (by decide), zrM_ne (by decide), u2_ne _ (by decide), zrM_ne (by decide), u2_ne _ (by decide), zrM_ne (by decide), u2_ne _ (by decide), zrM_ne (by decide), u2_ne _ (by decide), u2_ne _ (by decide), zrM_ne (by decide), u2_ne _ (by decide), zrM_ne (by decide), u2_ne _ (by decide), zrM_ne (by decide), u2_ne _ (by decide), zrM_ne (by decide), u2_ne _ (by decide), zrM_ne (by decide), u2_ne _ (by decide), zrM_at]
theorem mIni_179 {g : Mm} : mIni g 179 = fun _ => 0 := by unfold mIni; rw [u2_ne _ (by decide), u2_ne _ (by decide), u2_ne _ (by decide), u2_ne _ (by decide), u2_ne _ (by decide), u2_ne _ (by decide), zrM_ne (by decide), u2_ne _ (by decide), zrM_ne (by decide), u2_ne _ (by decide), zrM_ne (by decide), u2_ne _ (by decide), zrM_ne (by decide), u2_ne _ (by decide), zrM_ne (by decide), u2_ne _ (by decide), zrM_ne (by decide), u2_ne _ (by decide), zrM_ne (by decide), u2_ne _ (by decide), zrM_ne (by decide), u2_ne _ (by decide), u2_ne _ (by decide), zrM_ne (by decide), u2_ne _ (by decide), zrM_ne (by decide), u2_ne _ (by decide), zrM_ne (by decide), u2_ne _ (by decide), zrM_ne (by decide), u2_ne _ (by decide), zrM_ne (by decide), u2_ne _ (by decide), zrM_ne (by decide), u2_ne _ (by decide), zrM_ne (by decide), u2_ne _ (by decide), zrM_ne (by decide), u2_ne _ (by decide), u2_ne _ (by decide), zrM_ne (by decide), u2_ne _ (by decide), zrM_ne (by decide), u2_ne _ (by decide), zrM_ne (by decide), u2_ne _ (by decide), zrM_ne (by decide), u2_ne _ (by decide), zrM_at]
theorem mIni_180 {g : Mm} : mIni g 180 = fun _ => 0 := by unfold mIni; rw [u2_ne _ (by decide), u2_ne _ (by decide), u2_ne _ (by decide), u2_ne _ (by decide), u2_ne _ (by decide), u2_ne _ (by decide), zrM_ne (by decide), u2_ne _ (by decide), zrM_ne (by decide), u2_ne _ (by decide), zrM_ne (by decide), u2_ne _ (by decide), zrM_ne (by decide), u2_ne _ (by decide), zrM_ne (by decide), u2_ne _ (by decide), zrM_ne (by decide), u2_ne _ (by decide), zrM_ne (by decide), u2_ne _ (by decide), zrM_ne (by decide), u2_ne _ (by decide), u2_ne _ (by decide), zrM_ne (by decide), u2_ne _ (by decide), zrM_ne (by decide), u2_ne _ (by decide), zrM_ne (by decide), u2_ne _ (by decide), zrM_ne (by decide), u2_ne _ (by decide), zrM_ne (by decide), u2_ne _ (by decide), zrM_ne (by decide), u2_ne _ (by decide), zrM_ne (by decide), u2_ne _ (by decide), zrM_ne (by decide), u2_ne _ (by decide), u2_ne _ (by decide), zrM_ne (by decide), u2_ne _ (by decide), zrM_ne (by decide), u2_ne _ (by decide), zrM_ne (by decide), u2_ne _ (by decide), zrM_at]
theorem mIni_181 {g : Mm} : mIni g 181 = fun _ => 0 := by unfold mIni; rw [u2_ne _ (by decide), u2_ne _ (by decide), u2_ne _ (by decide), u2_ne _ (by decide), u2_ne _ (by decide), u2_ne _ (by decide), zrM_ne (by decide), u2_ne _ (by decide), zrM_ne (by decide), u2_ne _ (by decide), zrM_ne (by decide), u2_ne _ (by decide), zrM_ne (by decide), u2_ne _ (by decide), zrM_ne (by decide), u2_ne _ (by decide), zrM_ne (by decide), u2_ne _ (by decide), zrM_ne (by decide), u2_ne _ (by decide), zrM_ne (by decide), u2_ne _ (by decide), u2_ne _ (by decide), zrM_ne (by decide), u2_ne _ (by decide), zrM_ne (by decide), u2_ne _ (by decide), zrM_ne (by decide), u2_ne _ (by decide), zrM_ne (by decide), u2_ne _ (by decide), zrM_ne (by decide), u2_ne _ (by decide), zrM_ne (by decide), u2_ne _ (by decide), zrM_ne (by decide), u2_ne _ (by decide), zrM_ne (by decide), u2_ne _ (by decide), u2_ne _ (by decide), zrM_ne (by decide), u2_ne _ (by decide), zrM_ne (by decide), u2_ne _ (by decide), zrM_at]
theorem mIni_182 {g : Mm} : mIni g 182 = fun _ => 0 := by unfold mIni; rw [u2_ne _ (by decide), u2_ne _ (by decide), u2_ne _ (by decide), u2_ne _ (by decide), u2_ne _ (by decide), u2_ne _ (by decide), zrM_ne (by decide), u2_ne _ (by decide), zrM_ne (by decide), u2_ne _ (by decide), zrM_ne (by decide), u2_ne _ (by decide), zrM_ne (by decide), u2_ne _ (by decide), zrM_ne (by decide), u2_ne _ (by decide), zrM_ne (by decide), u2_ne _ (by decide), zrM_ne (by decide), u2_ne _ (by decide), zrM_ne (by decide), u2_ne _ (by decide), u2_ne _ (by decide), zrM_ne (by decide), u2_ne _ (by decide), zrM_ne (by decide), u2_ne _ (by decide), zrM_ne (by decide), u2_ne _ (by decide), zrM_ne (by decide), u2_ne _ (by decide), zrM_ne (by decide), u2_ne _ (by decide), zrM_ne (by decide), u2_ne _ (by decide), zrM_ne (by decide), u2_ne _ (by decide), zrM_ne (by decide), u2_ne _ (by decide), u2_ne _ (by decide), zrM_ne (by decide), u2_ne _ (by decide), zrM_at]
theorem mIni_183 {g : Mm} : mIni g 183 = fun _ => 0 := by unfold mIni; rw [u2_ne _ (by decide), u2_ne _ (by decide), u2_ne _ (by decide), u2_ne _ (by decide), u2_ne _ (by decide), u2_ne _ (by decide), zrM_ne (by decide), u2_ne _ (by decide), zrM_ne (by decide), u2_ne _ (by decide), zrM_ne (by decide), u2_ne _ (by decide), zrM_ne (by decide), u2_ne _ (by decide), zrM_ne (by decide), u2_ne _ (by decide), zrM_ne (by decide), u2_ne _ (by decide), zrM_ne (by decide), u2_ne _ (by decide), zrM_ne (by decide), u2_ne _ (by decide), u2_ne _ (by decide), zrM_ne (by decide), u2_ne _ (by decide), zrM_ne (by decide), u2_ne _ (by decide), zrM_ne (by decide), u2_ne _ (by decide), zrM_ne (by decide), u2_ne _ (by decide), zrM_ne (by decide), u2_ne _ (by decide), zrM_ne (by decide), u2_ne _ (by decide), zrM_ne (by decide), u2_ne _ (by decide), zrM_ne (by decide), u2_ne _ (by decide), u2_ne _ (by decide), zrM_at]
theorem mIni_191 {g : Mm} : mIni g 191 = fun _ => 0 := by unfold mIni; rw [u2_ne _ (by decide), u2_ne _ (by decide), u2_ne _ (by decide), u2_ne _ (by decide), u2_ne _ (by decide), u2_ne _ (by decide), zrM_ne (by decide), u2_ne _ (by decide), zrM_ne (by decide), u2_ne _ (by decide), zrM_ne (by decide), u2_ne _ (by decide), zrM_ne (by decide), u2_ne _ (by decide), zrM_ne (by decide), u2_ne _ (by decide), zrM_ne (by decide), u2_ne _ (by decide), zrM_ne (by decide), u2_ne _ (by decide), zrM_ne (by decide), u2_ne _ (by decide), u2_ne _ (by decide), zrM_ne (by decide), u2_ne _ (by decide), zrM_ne (by decide), u2_ne _ (by decide), zrM_ne (by decide), u2_ne _ (by decide), zrM_ne (by decide), u2_ne _ (by decide), zrM_ne (by decide), u2_ne _ (by decide), zrM_ne (by decide), u2_ne _ (by decide), zrM_ne (by decide), u2_ne _ (by decide), zrM_at]
theorem mIni_197 {g : Mm} : mIni g 197 = fun _ => 0 := by unfold mIni; rw [u2_ne _ (by decide), u2_ne _ (by decide), u2_ne _ (by decide), u2_ne _ (by decide), u2_ne _ (by decide), u2_ne _ (by decide), zrM_ne (by decide), u2_ne _ (by decide), zrM_ne (by decide), u2_ne _ (by decide), zrM_ne (by decide), u2_ne _ (by decide), zrM_ne (by decide), u2_ne _ (by decide), zrM_ne (by decide), u2_ne _ (by decide), zrM_ne (by decide), u2_ne _ (by decide), zrM_ne (by decide), u2_ne _ (by decide), zrM_ne (by decide), u2_ne _ (by decide), u2_ne _ (by decide), zrM_ne (by decide), u2_ne _ (by decide), zrM_ne (by decide), u2_ne _ (by decide), zrM_ne (by decide), u2_ne _ (by decide), zrM_ne (by decide), u2_ne _ (by decide), zrM_ne (by decide), u2_ne _ (by decide), zrM_ne (by decide), u2_ne _ (by decide), zrM_at]
theorem mIni_198 {g : Mm} : mIni g 198 = fun _ => 0 := by unfold mIni; rw [u2_ne _ (by decide), u2_ne _ (by decide), u2_ne _ (by decide), u2_ne _ (by decide), u2_ne _ (by decide), u2_ne _ (by decide), zrM_ne (by decide), u2_ne _ (by decide), zrM_ne (by decide), u2_ne _ (by decide), zrM_ne (by decide), u2_ne _ (by decide), zrM_ne (by decide), u2_ne _ (by decide), zrM_ne (by decide), u2_ne _ (by decide), zrM_ne (by decide), u2_ne _ (by decide), zrM_ne (by decide), u2_ne _ (by decide), zrM_ne (by decide), u2_ne _ (by decide), u2_ne _ (by decide), zrM_ne (by decide), u2_ne _ (by decide), zrM_ne (by decide), u2_ne _ (by decide), zrM_ne (by decide), u2_ne _ (by decide), zrM_ne (by decide), u2_ne _ (by decide), zrM_ne (by decide), u2_ne _ (by decide), zrM_at]
theorem mIni_199 {g : Mm} : mIni g 199 = fun _ => 0 := by unfold mIni; rw [u2_ne _ (by decide), u2_ne _ (by decide), u2_ne _ (by decide), u2_ne _ (by decide), u2_ne _ (by decide), u2_ne _ (by decide), zrM_ne (by decide), u2_ne _ (by decide), zrM_ne (by decide), u2_ne _ (by decide), zrM_ne (by decide), u2_ne _ (by decide), zrM_ne (by decide), u2_ne _ (by decide), zrM_ne (by decide), u2_ne _ (by decide), zrM_ne (by decide), u2_ne _ (by decide), zrM_ne (by decide), u2_ne _ (by decide), zrM_ne (by decide), u2_ne _ (by decide), u2_ne _ (by decide), zrM_ne (by decide), u2_ne _ (by decide), zrM_ne (by decide), u2_ne _ (by decide), zrM_ne (by decide), u2_ne _ (by decide), zrM_ne (by decide), u2_ne _ (by decide), zrM_at]
theorem mIni_201 {g : Mm} : mIni g 201 = fun _ => 0 := by unfold mIni; rw [u2_ne _ (by decide), u2_ne _ (by decide), u2_ne _ (by decide), u2_ne _ (by decide), u2_ne _ (by decide), u2_ne _ (by decide), zrM_ne (by decide), u2_ne _ (by decide), zrM_ne (by decide), u2_ne _ (by decide), zrM_ne (by decide), u2_ne _ (by decide), zrM_ne (by decide), u2_ne _ (by decide), zrM_ne (by decide), u2_ne _ (by decide), zrM_ne (by decide), u2_ne _ (by decide), zrM_ne (by decide), u2_ne _ (by decide), zrM_ne (by decide), u2_ne _ (by decide), u2_ne _ (by decide), zrM_ne (by decide), u2_ne _ (by decide), zrM_ne (by decide), u2_ne _ (by decide), zrM_ne (by decide), u2_ne _ (by decide), zrM_at]
theorem mIni_205 {g : Mm} : mIni g 205 = fun _ => 0 := by unfold mIni; rw [u2_ne _ (by decide), u2_ne _ (by decide), u2_ne _ (by decide), u2_ne _ (by decide), u2_ne _ (by decide), u2_ne _ (by decide), zrM_ne (by decide), u2_ne _ (by decide), zrM_ne (by decide), u2_ne _ (by decide), zrM_ne (by decide), u2_ne _ (by decide), zrM_ne (by decide), u2_ne _ (by decide), zrM_ne (by decide), u2_ne _ (by decide), zrM_ne (by decide), u2_ne _ (by decide), zrM_ne (by decide), u2_ne _ (by decide), zrM_ne (by decide), u2_ne _ (by decide), u2_ne _ (by decide), zrM_at]
theorem mIni_210 {g : Mm} : mIni g 210 = fun _ => 0 := by unfold mIni; rw [u2_ne _ (by decide), u2_ne _ (by decide), u2_ne _ (by decide), u2_ne _ (by decide), u2_ne _ (by decide), u2_ne _ (by decide), zrM_ne (by decide), u2_ne _ (by decide), zrM_ne (by decide), u2_ne _ (by decide), zrM_ne (by decide), u2_ne _ (by decide), zrM_ne (by decide), u2_ne _ (by decide), zrM_ne (by decide), u2_ne _ (by decide), zrM_ne (by decide), u2_ne _ (by decide), zrM_ne (by decide), u2_ne _ (by decide), zrM_at]
theorem mIni_211 {g : Mm} : mIni g 211 = fun _ => 0 := by unfold mIni; rw [u2_ne _ (by decide), u2_ne _ (by decide), u2_ne _ (by decide), u2_ne _ (by decide), u2_ne _ (by decide), u2_ne _ (by decide), zrM_ne (by decide), u2_ne _ (by decide), zrM_ne (by decide), u2_ne _ (by decide), zrM_ne (by decide), u2_ne _ (by decide), zrM_ne (by decide), u2_ne _ (by decide), zrM_ne (by decide), u2_ne _ (by decide), zrM_ne (by decide), u2_ne _ (by decide), zrM_at]
theorem mIni_212 {g : Mm} : mIni g 212 = fun _ => 0 := by unfold mIni; rw [u2_ne _ (by decide), u2_ne _ (by decide), u2_ne _ (by decide), u2_ne _ (by decide), u2_ne _ (by decide), u2_ne _ (by decide), zrM_ne (by decide), u2_ne _ (by decide), zrM_ne (by decide), u2_ne _ (by decide), zrM_ne (by decide), u2_ne _ (by decide), zrM_ne (by decide), u2_ne _ (by decide), zrM_ne (by decide), u2_ne _ (by decide), zrM_at]
theorem mIni_213 {g : Mm} : mIni g 213 = fun _ => 0 := by unfold mIni; rw [u2_ne _ (by decide), u2_ne _ (by decide), u2_ne _ (by decide), u2_ne _ (by decide), u2_ne _ (by decide), u2_ne _ (by decide), zrM_ne (by decide), u2_ne _ (by decide), zrM_ne (by decide), u2_ne _ (by decide), zrM_ne (by decide), u2_ne _ (by decide), zrM_ne (by decide), u2_ne _ (by decide), zrM_at]
theorem mIni_214 {g : Mm} : mIni g 214 = fun _ => 0 := by unfold mIni; rw [u2_ne _ (by decide), u2_ne _ (by decide), u2_ne _ (by decide), u2_ne _ (by decide), u2_ne _ (by decide), u2_ne _ (by decide), zrM_ne (by decide), u2_ne _ (by decide), zrM_ne (by decide), u2_ne _ (by decide), zrM_ne (by decide), u2_ne _ (by decide), zrM_at]
theorem mIni_215 {g : Mm} : mIni g 215 = fun _ => 0 := by unfold mIni; rw [u2_ne _ (by decide), u2_ne _ (by decide), u2_ne _ (by decide), u2_ne _ (by decide), u2_ne _ (by decide), u2_ne _ (by decide), zrM_ne (by decide), u2_ne _ (by decide), zrM_ne (by decide), u2_ne _ (by decide), zrM_at]
theorem mIni_216 {g : Mm} : mIni g 216 = fun _ => 0 := by unfold mIni; rw [u2_ne _ (by decide), u2_ne _ (by decide), u2_ne _ (by decide), u2_ne _ (by decide), u2_ne _ (by decide), u2_ne _ (by decide), zrM_ne (by decide), u2_ne _ (by decide), zrM_at]
theorem mIni_218 {g : Mm} : mIni g 218 = fun _ => 0 := by unfold mIni; rw [u2_ne _ (by decide), u2_ne _ (by decide), u2_ne _ (by decide), u2_ne _ (by decide), u2_ne _ (by decide), u2_ne _ (by decide), zrM_at]
theorem mIni_164 {g : Mm} : mIni g 164 = upd (upd (upd (upd (upd (fun _ => 0) 0 1) 1 1) 3 1000) 4 50) 5 (-1) := by unfold mIni; rw [u2_row, u2_row, u2_row, u2_row, u2_row, u2_ne _ (by decide), zrM_ne (by decide), u2_ne _ (by decide), zrM_ne (by decide), u2_ne _ (by decide), zrM_ne (by decide), u2_ne _ (by decide), zrM_ne (by decide), u2_ne _ (by decide), zrM_ne (by decide), u2_ne _ (by decide), zrM_ne (by decide), u2_ne _ (by decide), zrM_ne (by decide), u2_ne _ (by decide), zrM_ne (by decide), u2_ne _ (by decide), u2_ne _ (by decide), zrM_ne (by decide), u2_ne _ (by decide), zrM_ne (by decide), u2_ne _ (by decide), zrM_ne (by decide), u2_ne _ (by decide), zrM_ne (by decide), u2_ne _ (by decide), zrM_ne (by decide), u2_ne _ (by decide), zrM_ne (by decide), u2_ne _ (by decide), zrM_ne (by decide), u2_ne _ (by decide), zrM_ne (by decide), u2_ne _ (by decide), u2_ne _ (by decide), zrM_ne (by decide), u2_ne _ (by decide), zrM_ne (by decide), u2_ne _ (by decide), zrM_ne (by decide), u2_ne _ (by decide), zrM_ne (by decide), u2_ne _ (by decide), zrM_ne (by decide), u2_ne _ (by decide), zrM_ne (by decide), u2_ne _ (by decide), zrM_ne (by decide), u2_ne _ (by decide), zrM_ne (by decide), u2_ne _ (by decide), u2_ne _ (by decide), u2_ne _ (by decide), zrM_ne (by decide), u2_ne _ (by decide), zrM_at]; rfl
section Ctors
variable {l : Launch} {E : Ey} {N : List Nat} {g : Mm} {Px : State → Prop}
set_option maxHeartbeats 4000000 in
set_option maxRecDepth 10000 in
theorem i_X8 (hN : ∀ a, 163 ≤ a → a ≤ 218 → a ∉ N) (hz : g 162 = fun _ => 0) : CtG l E layG N 1 26 66250 yX8_init 162 g Px (fun N' g' => N' = N ++ ordM ∧ (∀ c ∈ N, c ≠ 162 → g' c = g c) ∧ MF g') := by
  refine CtG_of (by decide) rfl k_yX8_init (by decide) (fun S0 hG hZ hr hnm hpx hcl hb => ?_)
  have hS := hG.1
  have r162 : g 162 = (fun _ => 0) := hz
  refine J_aload_n hS dX8_init_0 rfl ?_
  refine J_obj hS dX8_init_1 mlX8_7 ob_i ob_c rfl (by decide) (Nat.le_of_ble_eq_true rfl) ?_
  refine J_aload_n hS dX8_init_4 rfl ?_
  refine J_sipush (v := 3464) hS dX8_init_5 (by decide) ?_
  refine J_newA hG hcl (164) (hN 164 (by decide) (by decide)) (by omega) dX8_init_8 rfl ac_I (lg_r (show Ar lay NC .int 164 3464 from arM 1 3464 (by decide) (by decide) rfl)) (Or.inl ⟨rfl, Or.inl rfl⟩) (by decide) (by decide) (by decide) (rl_c (v := .ref (162)) hb (rl_n rl_0)) (rn_c (v := .ref (162)) hb rn_0) (by decide) (by decide) (fun S E hG hcl => ?_)
  have hS := hG.1
  obtain ⟨g1, eg1⟩ : ∃ x : Mm, x = zrM g (164) := ⟨_, rfl⟩
  rw [← eg1] at hcl ⊢
  have hb := mi_a (x := 164) hb
  have m_164 := mi_s (x := 164) (N := N)
  have r162 : g1 162 = (fun _ => 0) := by rw [eg1, zrM_ne (by decide), r162]
  refine J_putFR (t := 164) hS (by rw [hG.2.1]; exact hnm) dX8_init_10 ffX8_13 (Or.inr ⟨_, rfl⟩) ⟨hb, lg_o ob162.2⟩ rfl (by omega) (by omega) (fun g2 eg2 => ?_)
  have hcl := Cl.putR (k := 1) (t := 164) hcl (lg_o ob162.2) rfl m_164 (by omega)
  rw [← eg2] at hcl
  have r162 : g2 162 = (upd (fun _ => 0) 1 (nI (164))) := by rw [eg2, u2_row, r162]
  refine J_aload_n hS dX8_init_13 rfl ?_
  refine J_sipush (v := 3464) hS dX8_init_14 (by decide) ?_
  refine J_newA hG hcl (165) (ni_a (hN 165 (by decide) (by decide)) (by decide)) (by omega) dX8_init_17 rfl ac_I (lg_r (show Ar lay NC .int 165 3464 from arM 2 3464 (by decide) (by decide) rfl)) (Or.inl ⟨rfl, Or.inl rfl⟩) (by decide) (by decide) (by decide) (rl_c (v := .ref (162)) hb (rl_n rl_0)) (rn_c (v := .ref (162)) hb rn_0) (by decide) (by decide) (fun S E hG hcl => ?_)
  have hS := hG.1
  obtain ⟨g3, eg3⟩ : ∃ x : Mm, x = zrM g2 (165) := ⟨_, rfl⟩
  rw [← eg3] at hcl ⊢
  have hb := mi_a (x := 165) hb
  have m_164 := mi_a (x := 165) m_164
  have m_165 := mi_s (x := 165) (N := (N ++ [164]))
  have r162 : g3 162 = (upd (fun _ => 0) 1 (nI (164))) := by rw [eg3, zrM_ne (by decide), r162]
  refine J_putFR (t := 165) hS (by rw [hG.2.1]; exact hnm) dX8_init_19 ffX8_17 (Or.inr ⟨_, rfl⟩) ⟨hb, lg_o ob162.2⟩ rfl (by omega) (by omega) (fun g4 eg4 => ?_)
  have hcl := Cl.putR (k := 2) (t := 165) hcl (lg_o ob162.2) rfl m_165 (by omega)
  rw [← eg4] at hcl
  have r162 : g4 162 = (upd (upd (fun _ => 0) 1 (nI (164))) 2 (nI (165))) := by rw [eg4, u2_row, r162]
  refine J_aload_n hS dX8_init_22 rfl ?_
  refine J_aload_n hS dX8_init_23 rfl ?_
  refine J_getD hS dX8_init_24 flX8_13 ⟨hb, lg_o ob162.2⟩ rfl (v := .ref 164) (by rw [show g4 162 1 = nI 164 by rw [r162]; rfl]; exact ab2 (by decide) (by decide)) ?_
  refine J_putD (x := nI (164)) hS dX8_init_27 fpX8_20 (Or.inr ⟨_, rfl⟩) ⟨hb, lg_o ob162.2⟩ rfl (ab2 (by omega) (by omega)) (Or.inr ⟨_, rfl⟩) (fun g5 eg5 => ?_)
  have hcl := Cl.putR (k := 3) (t := 164) hcl (lg_o ob162.2) rfl m_164 (by omega)
  rw [← eg5] at hcl
  have r162 : g5 162 = (upd (upd (upd (fun _ => 0) 1 (nI (164))) 2 (nI (165))) 3 (nI (164))) := by rw [eg5, u2_row, r162]
  refine J_aload_n hS dX8_init_30 rfl ?_
  refine J_iconst (v := (-1)) hS dX8_init_31 (by decide) ?_
  refine J_putI hS dX8_init_32 fpX8_23 ⟨hb, lg_o ob162.2⟩ rfl (fun g6 eg6 => ?_)
  have hcl := Cl.putI (k := 12) (v := (-1)) hcl (lg_o ob162.2) rfl
  rw [← eg6] at hcl
  have r162 : g6 162 = (upd (upd (upd (upd (fun _ => 0) 1 (nI (164))) 2 (nI (165))) 3 (nI (164))) 12 ((-1))) := by rw [eg6, u2_row, r162]
  refine J_aload_n hS dX8_init_35 rfl ?_
  refine J_sipush (v := 300) hS dX8_init_36 (by decide) ?_
  refine J_newA hG hcl (176) (ni_a (ni_a (hN 176 (by decide) (by decide)) (by decide)) (by decide)) (by omega) dX8_init_39 rfl ac_I (lg_r (show Ar lay NC .int 176 300 from arM 13 300 (by decide) (by decide) rfl)) (Or.inl ⟨rfl, Or.inl rfl⟩) (by decide) (by decide) (by decide) (rl_c (v := .ref (162)) hb (rl_n rl_0)) (rn_c (v := .ref (162)) hb rn_0) (by decide) (by decide) (fun S E hG hcl => ?_)
  have hS := hG.1
  obtain ⟨g7, eg7⟩ : ∃ x : Mm, x = zrM g6 (176) := ⟨_, rfl⟩
  rw [← eg7] at hcl ⊢
  have hb := mi_a (x := 176) hb
  have m_164 := mi_a (x := 176) m_164
  have m_165 := mi_a (x := 176) m_165
  have m_176 := mi_s (x := 176) (N := ((N ++ [164]) ++ [165]))
  have r162 : g7 162 = (upd (upd (upd (upd (fun _ => 0) 1 (nI (164))) 2 (nI (165))) 3 (nI (164))) 12 ((-1))) := by rw [eg7, zrM_ne (by decide), r162]
  refine J_putFR (t := 176) hS (by rw [hG.2.1]; exact hnm) dX8_init_41 ffX8_26 (Or.inr ⟨_, rfl⟩) ⟨hb, lg_o ob162.2⟩ rfl (by omega) (by omega) (fun g8 eg8 => ?_)
  have hcl := Cl.putR (k := 13) (t := 176) hcl (lg_o ob162.2) rfl m_176 (by omega)
  rw [← eg8] at hcl
  have r162 : g8 162 = (upd (upd (upd (upd (upd (fun _ => 0) 1 (nI (164))) 2 (nI (165))) 3 (nI (164))) 12 ((-1))) 13 (nI (176))) := by rw [eg8, u2_row, r162]
  refine J_aload_n hS dX8_init_44 rfl ?_
  refine J_bipush (v := 6) hS dX8_init_45 (by decide) ?_
  refine J_newA hG hcl (177) (ni_a (ni_a (ni_a (hN 177 (by decide) (by decide)) (by decide)) (by decide)) (by decide)) (by omega) dX8_init_47 rfl ac_I (lg_r (show Ar lay NC .int 177 6 from arM 14 6 (by decide) (by decide) rfl)) (Or.inl ⟨rfl, Or.inl rfl⟩) (by decide) (by decide) (by decide) (rl_c (v := .ref (162)) hb (rl_n rl_0)) (rn_c (v := .ref (162)) hb rn_0) (by decide) (by decide) (fun S E hG hcl => ?_)
  have hS := hG.1
  obtain ⟨g9, eg9⟩ : ∃ x : Mm, x = zrM g8 (177) := ⟨_, rfl⟩
  rw [← eg9] at hcl ⊢
  have hb := mi_a (x := 177) hb
  have m_164 := mi_a (x := 177) m_164
  have m_165 := mi_a (x := 177) m_165
  have m_176 := mi_a (x := 177) m_176
  have m_177 := mi_s (x := 177) (N := (((N ++ [164]) ++ [165]) ++ [176]))
  have r162 : g9 162 = (upd (upd (upd (upd (upd (fun _ => 0) 1 (nI (164))) 2 (nI (165))) 3 (nI (164))) 12 ((-1))) 13 (nI (176))) := by rw [eg9, zrM_ne (by decide), r162]
  refine J_putFR (t := 177) hS (by rw [hG.2.1]; exact hnm) dX8_init_49 ffX8_29 (Or.inr ⟨_, rfl⟩) ⟨hb, lg_o ob162.2⟩ rfl (by omega) (by omega) (fun g10 eg10 => ?_)
  have hcl := Cl.putR (k := 14) (t := 177) hcl (lg_o ob162.2) rfl m_177 (by omega)
  rw [← eg10] at hcl
  have r162 : g10 162 = (upd (upd (upd (upd (upd (upd (fun _ => 0) 1 (nI (164))) 2 (nI (165))) 3 (nI (164))) 12 ((-1))) 13 (nI (176))) 14 (nI (177))) := by rw [eg10, u2_row, r162]
  refine J_aload_n hS dX8_init_52 rfl ?_
  refine J_bipush (v := 72) hS dX8_init_53 (by decide) ?_
  refine J_newA hG hcl (178) (ni_a (ni_a (ni_a (ni_a (hN 178 (by decide) (by decide)) (by decide)) (by decide)) (by decide)) (by decide)) (by omega) dX8_init_55 rfl ac_I (lg_r (show Ar lay NC .int 178 72 from arM 15 72 (by decide) (by decide) rfl)) (Or.inl ⟨rfl, Or.inl rfl⟩) (by decide) (by decide) (by decide) (rl_c (v := .ref (162)) hb (rl_n rl_0)) (rn_c (v := .ref (162)) hb rn_0) (by decide) (by decide) (fun S E hG hcl => ?_)
  have hS := hG.1
  obtain ⟨g11, eg11⟩ : ∃ x : Mm, x = zrM g10 (178) := ⟨_, rfl⟩
  rw [← eg11] at hcl ⊢
  have hb := mi_a (x := 178) hb
  have m_164 := mi_a (x := 178) m_164
  have m_165 := mi_a (x := 178) m_165
  have m_176 := mi_a (x := 178) m_176
  have m_177 := mi_a (x := 178) m_177
  have m_178 := mi_s (x := 178) (N := ((((N ++ [164]) ++ [165]) ++ [176]) ++ [177]))
  have r162 : g11 162 = (upd (upd (upd (upd (upd (upd (fun _ => 0) 1 (nI (164))) 2 (nI (165))) 3 (nI (164))) 12 ((-1))) 13 (nI (176))) 14 (nI (177))) := by rw [eg11, zrM_ne (by decide), r162]
  refine J_putFR (t := 178) hS (by rw [hG.2.1]; exact hnm) dX8_init_57 ffX8_32 (Or.inr ⟨_, rfl⟩) ⟨hb, lg_o ob162.2⟩ rfl (by omega) (by omega) (fun g12 eg12 => ?_)
  have hcl := Cl.putR (k := 15) (t := 178) hcl (lg_o ob162.2) rfl m_178 (by omega)
  rw [← eg12] at hcl
  have r162 : g12 162 = (upd (upd (upd (upd (upd (upd (upd (fun _ => 0) 1 (nI (164))) 2 (nI (165))) 3 (nI (164))) 12 ((-1))) 13 (nI (176))) 14 (nI (177))) 15 (nI (178))) := by rw [eg12, u2_row, r162]
  refine J_aload_n hS dX8_init_60 rfl ?_
  refine J_bipush (v := 72) hS dX8_init_61 (by decide) ?_
  refine J_newA hG hcl (179) (ni_a (ni_a (ni_a (ni_a (ni_a (hN 179 (by decide) (by decide)) (by decide)) (by decide)) (by decide)) (by decide)) (by decide)) (by omega) dX8_init_63 rfl ac_I (lg_r (show Ar lay NC .int 179 72 from arM 16 72 (by decide) (by decide) rfl)) (Or.inl ⟨rfl, Or.inl rfl⟩) (by decide) (by decide) (by decide) (rl_c (v := .ref (162)) hb (rl_n rl_0)) (rn_c (v := .ref (162)) hb rn_0) (by decide) (by decide) (fun S E hG hcl => ?_)
  have hS := hG.1
  obtain ⟨g13, eg13⟩ : ∃ x : Mm, x = zrM g12 (179) := ⟨_, rfl⟩
  rw [← eg13] at hcl ⊢
  have hb := mi_a (x := 179) hb
  have m_164 := mi_a (x := 179) m_164
  have m_165 := mi_a (x := 179) m_165
  have m_176 := mi_a (x := 179) m_176
  have m_177 := mi_a (x := 179) m_177
  have m_178 := mi_a (x := 179) m_178
  have m_179 := mi_s (x := 179) (N := (((((N ++ [164]) ++ [165]) ++ [176]) ++ [177]) ++ [178]))
  have r162 : g13 162 = (upd (upd (upd (upd (upd (upd (upd (fun _ => 0) 1 (nI (164))) 2 (nI (165))) 3 (nI (164))) 12 ((-1))) 13 (nI (176))) 14 (nI (177))) 15 (nI (178))) := by rw [eg13, zrM_ne (by decide), r162]
  refine J_putFR (t := 179) hS (by rw [hG.2.1]; exact hnm) dX8_init_65 ffX8_35 (Or.inr ⟨_, rfl⟩) ⟨hb, lg_o ob162.2⟩ rfl (by omega) (by omega) (fun g14 eg14 => ?_)
  have hcl := Cl.putR (k := 16) (t := 179) hcl (lg_o ob162.2) rfl m_179 (by omega)
  rw [← eg14] at hcl
  have r162 : g14 162 = (upd (upd (upd (upd (upd (upd (upd (upd (fun _ => 0) 1 (nI (164))) 2 (nI (165))) 3 (nI (164))) 12 ((-1))) 13 (nI (176))) 14 (nI (177))) 15 (nI (178))) 16 (nI (179))) := by rw [eg14, u2_row, r162]
  refine J_aload_n hS dX8_init_68 rfl ?_
  refine J_bipush (v := 72) hS dX8_init_69 (by decide) ?_
  refine J_newA hG hcl (180) (ni_a (ni_a (ni_a (ni_a (ni_a (ni_a (hN 180 (by decide) (by decide)) (by decide)) (by decide)) (by decide)) (by decide)) (by decide)) (by decide)) (by omega) dX8_init_71 rfl ac_I (lg_r (show Ar lay NC .int 180 72 from arM 17 72 (by decide) (by decide) rfl)) (Or.inl ⟨rfl, Or.inl rfl⟩) (by decide) (by decide) (by decide) (rl_c (v := .ref (162)) hb (rl_n rl_0)) (rn_c (v := .ref (162)) hb rn_0) (by decide) (by decide) (fun S E hG hcl => ?_)
  have hS := hG.1
  obtain ⟨g15, eg15⟩ : ∃ x : Mm, x = zrM g14 (180) := ⟨_, rfl⟩
  rw [← eg15] at hcl ⊢
  have hb := mi_a (x := 180) hb
  have m_164 := mi_a (x := 180) m_164
  have m_165 := mi_a (x := 180) m_165
  have m_176 := mi_a (x := 180) m_176
  have m_177 := mi_a (x := 180) m_177
  have m_178 := mi_a (x := 180) m_178
  have m_179 := mi_a (x := 180) m_179
  have m_180 := mi_s (x := 180) (N := ((((((N ++ [164]) ++ [165]) ++ [176]) ++ [177]) ++ [178]) ++ [179]))
  have r162 : g15 162 = (upd (upd (upd (upd (upd (upd (upd (upd (fun _ => 0) 1 (nI (164))) 2 (nI (165))) 3 (nI (164))) 12 ((-1))) 13 (nI (176))) 14 (nI (177))) 15 (nI (178))) 16 (nI (179))) := by rw [eg15, zrM_ne (by decide), r162]
  refine J_putFR (t := 180) hS (by rw [hG.2.1]; exact hnm) dX8_init_73 ffX8_38 (Or.inr ⟨_, rfl⟩) ⟨hb, lg_o ob162.2⟩ rfl (by omega) (by omega) (fun g16 eg16 => ?_)
  have hcl := Cl.putR (k := 17) (t := 180) hcl (lg_o ob162.2) rfl m_180 (by omega)
  rw [← eg16] at hcl
  have r162 : g16 162 = (upd (upd (upd (upd (upd (upd (upd (upd (upd (fun _ => 0) 1 (nI (164))) 2 (nI (165))) 3 (nI (164))) 12 ((-1))) 13 (nI (176))) 14 (nI (177))) 15 (nI (178))) 16 (nI (179))) 17 (nI (180))) := by rw [eg16, u2_row, r162]
  refine J_aload_n hS dX8_init_76 rfl ?_
  refine J_bipush (v := 72) hS dX8_init_77 (by decide) ?_
  refine J_newA hG hcl (181) (ni_a (ni_a (ni_a (ni_a (ni_a (ni_a (ni_a (hN 181 (by decide) (by decide)) (by decide)) (by decide)) (by decide)) (by decide)) (by decide)) (by decide)) (by decide)) (by omega) dX8_init_79 rfl ac_I (lg_r (show Ar lay NC .int 181 72 from arM 18 72 (by decide) (by decide) rfl)) (Or.inl ⟨rfl, Or.inl rfl⟩) (by decide) (by decide) (by decide) (rl_c (v := .ref (162)) hb (rl_n rl_0)) (rn_c (v := .ref (162)) hb rn_0) (by decide) (by decide) (fun S E hG hcl => ?_)
  have hS := hG.1
  obtain ⟨g17, eg17⟩ : ∃ x : Mm, x = zrM g16 (181) := ⟨_, rfl⟩
  rw [← eg17] at hcl ⊢
  have hb := mi_a (x := 181) hb
  have m_164 := mi_a (x := 181) m_164
  have m_165 := mi_a (x := 181) m_165
  have m_176 := mi_a (x := 181) m_176
  have m_177 := mi_a (x := 181) m_177
  have m_178 := mi_a (x := 181) m_178
  have m_179 := mi_a (x := 181) m_179
  have m_180 := mi_a (x := 181) m_180
  have m_181 := mi_s (x := 181) (N := (((((((N ++ [164]) ++ [165]) ++ [176]) ++ [177]) ++ [178]) ++ [179]) ++ [180]))
  have r162 : g17 162 = (upd (upd (upd (upd (upd (upd (upd (upd (upd (fun _ => 0) 1 (nI (164))) 2 (nI (165))) 3 (nI (164))) 12 ((-1))) 13 (nI (176))) 14 (nI (177))) 15 (nI (178))) 16 (nI (179))) 17 (nI (180))) := by rw [eg17, zrM_ne (by decide), r162]
  refine J_putFR (t := 181) hS (by rw [hG.2.1]; exact hnm) dX8_init_81 ffX8_41 (Or.inr ⟨_, rfl⟩) ⟨hb, lg_o ob162.2⟩ rfl (by omega) (by omega) (fun g18 eg18 => ?_)
  have hcl := Cl.putR (k := 18) (t := 181) hcl (lg_o ob162.2) rfl m_181 (by omega)
  rw [← eg18] at hcl
  have r162 : g18 162 = (upd (upd (upd (upd (upd (upd (upd (upd (upd (upd (fun _ => 0) 1 (nI (164))) 2 (nI (165))) 3 (nI (164))) 12 ((-1))) 13 (nI (176))) 14 (nI (177))) 15 (nI (178))) 16 (nI (179))) 17 (nI (180))) 18 (nI (181))) := by rw [eg18, u2_row, r162]
  refine J_aload_n hS dX8_init_84 rfl ?_
  refine J_sipush (v := 1800) hS dX8_init_85 (by decide) ?_
  refine J_newA hG hcl (182) (ni_a (ni_a (ni_a (ni_a (ni_a (ni_a (ni_a (ni_a (hN 182 (by decide) (by decide)) (by decide)) (by decide)) (by decide)) (by decide)) (by decide)) (by decide)) (by decide)) (by decide)) (by omega) dX8_init_88 rfl ac_I (lg_r (show Ar lay NC .int 182 1800 from arM 19 1800 (by decide) (by decide) rfl)) (Or.inl ⟨rfl, Or.inl rfl⟩) (by decide) (by decide) (by decide) (rl_c (v := .ref (162)) hb (rl_n rl_0)) (rn_c (v := .ref (162)) hb rn_0) (by decide) (by decide) (fun S E hG hcl => ?_)
  have hS := hG.1
  obtain ⟨g19, eg19⟩ : ∃ x : Mm, x = zrM g18 (182) := ⟨_, rfl⟩
  rw [← eg19] at hcl ⊢
  have hb := mi_a (x := 182) hb
  have m_164 := mi_a (x := 182) m_164
  have m_165 := mi_a (x := 182) m_165
  have m_176 := mi_a (x := 182) m_176
  have m_177 := mi_a (x := 182) m_177
  have m_178 := mi_a (x := 182) m_178
  have m_179 := mi_a (x := 182) m_179
  have m_180 := mi_a (x := 182) m_180
  have m_181 := mi_a (x := 182) m_181
  have m_182 := mi_s (x := 182) (N := ((((((((N ++ [164]) ++ [165]) ++ [176]) ++ [177]) ++ [178]) ++ [179]) ++ [180]) ++ [181]))
  have r162 : g19 162 = (upd (upd (upd (upd (upd (upd (upd (upd (upd (upd (fun _ => 0) 1 (nI (164))) 2 (nI (165))) 3 (nI (164))) 12 ((-1))) 13 (nI (176))) 14 (nI (177))) 15 (nI (178))) 16 (nI (179))) 17 (nI (180))) 18 (nI (181))) := by rw [eg19, zrM_ne (by decide), r162]
  refine J_putFR (t := 182) hS (by rw [hG.2.1]; exact hnm) dX8_init_90 ffX8_44 (Or.inr ⟨_, rfl⟩) ⟨hb, lg_o ob162.2⟩ rfl (by omega) (by omega) (fun g20 eg20 => ?_)
  have hcl := Cl.putR (k := 19) (t := 182) hcl (lg_o ob162.2) rfl m_182 (by omega)
  rw [← eg20] at hcl
  have r162 : g20 162 = (upd (upd (upd (upd (upd (upd (upd (upd (upd (upd (upd (fun _ => 0) 1 (nI (164))) 2 (nI (165))) 3 (nI (164))) 12 ((-1))) 13 (nI (176))) 14 (nI (177))) 15 (nI (178))) 16 (nI (179))) 17 (nI (180))) 18 (nI (181))) 19 (nI (182))) := by rw [eg20, u2_row, r162]
  refine J_aload_n hS dX8_init_93 rfl ?_
  refine J_sipush (v := 1800) hS dX8_init_94 (by decide) ?_
  refine J_newA hG hcl (183) (ni_a (ni_a (ni_a (ni_a (ni_a (ni_a (ni_a (ni_a (ni_a (hN 183 (by decide) (by decide)) (by decide)) (by decide)) (by decide)) (by decide)) (by decide)) (by decide)) (by decide)) (by decide)) (by decide)) (by omega) dX8_init_97 rfl ac_I (lg_r (show Ar lay NC .int 183 1800 from arM 20 1800 (by decide) (by decide) rfl)) (Or.inl ⟨rfl, Or.inl rfl⟩) (by decide) (by decide) (by decide) (rl_c (v := .ref (162)) hb (rl_n rl_0)) (rn_c (v := .ref (162)) hb rn_0) (by decide) (by decide) (fun S E hG hcl => ?_)
  have hS := hG.1
  obtain ⟨g21, eg21⟩ : ∃ x : Mm, x = zrM g20 (183) := ⟨_, rfl⟩
  rw [← eg21] at hcl ⊢
  have hb := mi_a (x := 183) hb
  have m_164 := mi_a (x := 183) m_164
  have m_165 := mi_a (x := 183) m_165
  have m_176 := mi_a (x := 183) m_176
  have m_177 := mi_a (x := 183) m_177
  have m_178 := mi_a (x := 183) m_178
  have m_179 := mi_a (x := 183) m_179
  have m_180 := mi_a (x := 183) m_180
  have m_181 := mi_a (x := 183) m_181
  have m_182 := mi_a (x := 183) m_182
  have m_183 := mi_s (x := 183) (N := (((((((((N ++ [164]) ++ [165]) ++ [176]) ++ [177]) ++ [178]) ++ [179]) ++ [180]) ++ [181]) ++ [182]))
  have r162 : g21 162 = (upd (upd (upd (upd (upd (upd (upd (upd (upd (upd (upd (fun _ => 0) 1 (nI (164))) 2 (nI (165))) 3 (nI (164))) 12 ((-1))) 13 (nI (176))) 14 (nI (177))) 15 (nI (178))) 16 (nI (179))) 17 (nI (180))) 18 (nI (181))) 19 (nI (182))) := by rw [eg21, zrM_ne (by decide), r162]
  refine J_putFR (t := 183) hS (by rw [hG.2.1]; exact hnm) dX8_init_99 ffX8_47 (Or.inr ⟨_, rfl⟩) ⟨hb, lg_o ob162.2⟩ rfl (by omega) (by omega) (fun g22 eg22 => ?_)
  have hcl := Cl.putR (k := 20) (t := 183) hcl (lg_o ob162.2) rfl m_183 (by omega)
  rw [← eg22] at hcl
  have r162 : g22 162 = (upd (upd (upd (upd (upd (upd (upd (upd (upd (upd (upd (upd (fun _ => 0) 1 (nI (164))) 2 (nI (165))) 3 (nI (164))) 12 ((-1))) 13 (nI (176))) 14 (nI (177))) 15 (nI (178))) 16 (nI (179))) 17 (nI (180))) 18 (nI (181))) 19 (nI (182))) 20 (nI (183))) := by rw [eg22, u2_row, r162]
  refine J_aload_n hS dX8_init_102 rfl ?_
  refine J_iconst (v := (-1)) hS dX8_init_103 (by decide) ?_
  refine J_putI hS dX8_init_104 fpX8_50 ⟨hb, lg_o ob162.2⟩ rfl (fun g23 eg23 => ?_)
  have hcl := Cl.putI (k := 27) (v := (-1)) hcl (lg_o ob162.2) rfl
  rw [← eg23] at hcl
  have r162 : g23 162 = (upd (upd (upd (upd (upd (upd (upd (upd (upd (upd (upd (upd (upd (fun _ => 0) 1 (nI (164))) 2 (nI (165))) 3 (nI (164))) 12 ((-1))) 13 (nI (176))) 14 (nI (177))) 15 (nI (178))) 16 (nI (179))) 17 (nI (180))) 18 (nI (181))) 19 (nI (182))) 20 (nI (183))) 27 ((-1))) := by rw [eg23, u2_row, r162]
  refine J_aload_n hS dX8_init_107 rfl ?_
  refine J_sipush (v := 160) hS dX8_init_108 (by decide) ?_
  refine J_newA hG hcl (191) (ni_a (ni_a (ni_a (ni_a (ni_a (ni_a (ni_a (ni_a (ni_a (ni_a (hN 191 (by decide) (by decide)) (by decide)) (by decide)) (by decide)) (by decide)) (by decide)) (by decide)) (by decide)) (by decide)) (by decide)) (by decide)) (by omega) dX8_init_111 rfl ac_I (lg_r (show Ar lay NC .int 191 160 from arM 28 160 (by decide) (by decide) rfl)) (Or.inl ⟨rfl, Or.inl rfl⟩) (by decide) (by decide) (by decide) (rl_c (v := .ref (162)) hb (rl_n rl_0)) (rn_c (v := .ref (162)) hb rn_0) (by decide) (by decide) (fun S E hG hcl => ?_)
  have hS := hG.1
  obtain ⟨g24, eg24⟩ : ∃ x : Mm, x = zrM g23 (191) := ⟨_, rfl⟩
  rw [← eg24] at hcl ⊢
  have hb := mi_a (x := 191) hb
  have m_164 := mi_a (x := 191) m_164
  have m_165 := mi_a (x := 191) m_165
  have m_176 := mi_a (x := 191) m_176
  have m_177 := mi_a (x := 191) m_177
  have m_178 := mi_a (x := 191) m_178
  have m_179 := mi_a (x := 191) m_179
  have m_180 := mi_a (x := 191) m_180
  have m_181 := mi_a (x := 191) m_181
  have m_182 := mi_a (x := 191) m_182
  have m_183 := mi_a (x := 191) m_183
  have m_191 := mi_s (x := 191) (N := ((((((((((N ++ [164]) ++ [165]) ++ [176]) ++ [177]) ++ [178]) ++ [179]) ++ [180]) ++ [181]) ++ [182]) ++ [183]))
  have r162 : g24 162 = (upd (upd (upd (upd (upd (upd (upd (upd (upd (upd (upd (upd (upd (fun _ => 0) 1 (nI (164))) 2 (nI (165))) 3 (nI (164))) 12 ((-1))) 13 (nI (176))) 14 (nI (177))) 15 (nI (178))) 16 (nI (179))) 17 (nI (180))) 18 (nI (181))) 19 (nI (182))) 20 (nI (183))) 27 ((-1))) := by rw [eg24, zrM_ne (by decide), r162]
  refine J_putFR (t := 191) hS (by rw [hG.2.1]; exact hnm) dX8_init_113 ffX8_53 (Or.inr ⟨_, rfl⟩) ⟨hb, lg_o ob162.2⟩ rfl (by omega) (by omega) (fun g25 eg25 => ?_)
  have hcl := Cl.putR (k := 28) (t := 191) hcl (lg_o ob162.2) rfl m_191 (by omega)
  rw [← eg25] at hcl
  have r162 : g25 162 = (upd (upd (upd (upd (upd (upd (upd (upd (upd (upd (upd (upd (upd (upd (fun _ => 0) 1 (nI (164))) 2 (nI (165))) 3 (nI (164))) 12 ((-1))) 13 (nI (176))) 14 (nI (177))) 15 (nI (178))) 16 (nI (179))) 17 (nI (180))) 18 (nI (181))) 19 (nI (182))) 20 (nI (183))) 27 ((-1))) 28 (nI (191))) := by rw [eg25, u2_row, r162]
  refine J_aload_n hS dX8_init_116 rfl ?_
  refine J_iconst (v := 3) hS dX8_init_117 (by decide) ?_
  refine J_newA hG hcl (197) (ni_a (ni_a (ni_a (ni_a (ni_a (ni_a (ni_a (ni_a (ni_a (ni_a (ni_a (hN 197 (by decide) (by decide)) (by decide)) (by decide)) (by decide)) (by decide)) (by decide)) (by decide)) (by decide)) (by decide)) (by decide)) (by decide)) (by decide)) (by omega) dX8_init_118 rfl ac_I (lg_r (show Ar lay NC .int 197 3 from arM 34 3 (by decide) (by decide) rfl)) (Or.inl ⟨rfl, Or.inl rfl⟩) (by decide) (by decide) (by decide) (rl_c (v := .ref (162)) hb (rl_n rl_0)) (rn_c (v := .ref (162)) hb rn_0) (by decide) (by decide) (fun S E hG hcl => ?_)
  have hS := hG.1
  obtain ⟨g26, eg26⟩ : ∃ x : Mm, x = zrM g25 (197) := ⟨_, rfl⟩
  rw [← eg26] at hcl ⊢
  have hb := mi_a (x := 197) hb
  have m_164 := mi_a (x := 197) m_164
  have m_165 := mi_a (x := 197) m_165
  have m_176 := mi_a (x := 197) m_176
  have m_177 := mi_a (x := 197) m_177
  have m_178 := mi_a (x := 197) m_178
  have m_179 := mi_a (x := 197) m_179
  have m_180 := mi_a (x := 197) m_180
  have m_181 := mi_a (x := 197) m_181
  have m_182 := mi_a (x := 197) m_182
  have m_183 := mi_a (x := 197) m_183
  have m_191 := mi_a (x := 197) m_191
  have m_197 := mi_s (x := 197) (N := (((((((((((N ++ [164]) ++ [165]) ++ [176]) ++ [177]) ++ [178]) ++ [179]) ++ [180]) ++ [181]) ++ [182]) ++ [183]) ++ [191]))
  have r162 : g26 162 = (upd (upd (upd (upd (upd (upd (upd (upd (upd (upd (upd (upd (upd (upd (fun _ => 0) 1 (nI (164))) 2 (nI (165))) 3 (nI (164))) 12 ((-1))) 13 (nI (176))) 14 (nI (177))) 15 (nI (178))) 16 (nI (179))) 17 (nI (180))) 18 (nI (181))) 19 (nI (182))) 20 (nI (183))) 27 ((-1))) 28 (nI (191))) := by rw [eg26, zrM_ne (by decide), r162]
  refine J_putFR (t := 197) hS (by rw [hG.2.1]; exact hnm) dX8_init_120 ffX8_56 (Or.inr ⟨_, rfl⟩) ⟨hb, lg_o ob162.2⟩ rfl (by omega) (by omega) (fun g27 eg27 => ?_)
  have hcl := Cl.putR (k := 34) (t := 197) hcl (lg_o ob162.2) rfl m_197 (by omega)
  rw [← eg27] at hcl
  have r162 : g27 162 = (upd (upd (upd (upd (upd (upd (upd (upd (upd (upd (upd (upd (upd (upd (upd (fun _ => 0) 1 (nI (164))) 2 (nI (165))) 3 (nI (164))) 12 ((-1))) 13 (nI (176))) 14 (nI (177))) 15 (nI (178))) 16 (nI (179))) 17 (nI (180))) 18 (nI (181))) 19 (nI (182))) 20 (nI (183))) 27 ((-1))) 28 (nI (191))) 34 (nI (197))) := by rw [eg27, u2_row, r162]
  refine J_aload_n hS dX8_init_123 rfl ?_
  refine J_iconst (v := 3) hS dX8_init_124 (by decide) ?_
  refine J_newA hG hcl (198) (ni_a (ni_a (ni_a (ni_a (ni_a (ni_a (ni_a (ni_a (ni_a (ni_a (ni_a (ni_a (hN 198 (by decide) (by decide)) (by decide)) (by decide)) (by decide)) (by decide)) (by decide)) (by decide)) (by decide)) (by decide)) (by decide)) (by decide)) (by decide)) (by decide)) (by omega) dX8_init_125 rfl ac_I (lg_r (show Ar lay NC .int 198 3 from arM 35 3 (by decide) (by decide) rfl)) (Or.inl ⟨rfl, Or.inl rfl⟩) (by decide) (by decide) (by decide) (rl_c (v := .ref (162)) hb (rl_n rl_0)) (rn_c (v := .ref (162)) hb rn_0) (by decide) (by decide) (fun S E hG hcl => ?_)
  have hS := hG.1
  obtain ⟨g28, eg28⟩ : ∃ x : Mm, x = zrM g27 (198) := ⟨_, rfl⟩
  rw [← eg28] at hcl ⊢
  have hb := mi_a (x := 198) hb
  have m_164 := mi_a (x := 198) m_164
  have m_165 := mi_a (x := 198) m_165
  have m_176 := mi_a (x := 198) m_176
  have m_177 := mi_a (x := 198) m_177
  have m_178 := mi_a (x := 198) m_178
  have m_179 := mi_a (x := 198) m_179
  have m_180 := mi_a (x := 198) m_180
  have m_181 := mi_a (x := 198) m_181
  have m_182 := mi_a (x := 198) m_182
  have m_183 := mi_a (x := 198) m_183
  have m_191 := mi_a (x := 198) m_191
  have m_197 := mi_a (x := 198) m_197
  have m_198 := mi_s (x := 198) (N := ((((((((((((N ++ [164]) ++ [165]) ++ [176]) ++ [177]) ++ [178]) ++ [179]) ++ [180]) ++ [181]) ++ [182]) ++ [183]) ++ [191]) ++ [197]))
  have r162 : g28 162 = (upd (upd (upd (upd (upd (upd (upd (upd (upd (upd (upd (upd (upd (upd (upd (fun _ => 0) 1 (nI (164))) 2 (nI (165))) 3 (nI (164))) 12 ((-1))) 13 (nI (176))) 14 (nI (177))) 15 (nI (178))) 16 (nI (179))) 17 (nI (180))) 18 (nI (181))) 19 (nI (182))) 20 (nI (183))) 27 ((-1))) 28 (nI (191))) 34 (nI (197))) := by rw [eg28, zrM_ne (by decide), r162]
  refine J_putFR (t := 198) hS (by rw [hG.2.1]; exact hnm) dX8_init_127 ffX8_59 (Or.inr ⟨_, rfl⟩) ⟨hb, lg_o ob162.2⟩ rfl (by omega) (by omega) (fun g29 eg29 => ?_)
  have hcl := Cl.putR (k := 35) (t := 198) hcl (lg_o ob162.2) rfl m_198 (by omega)
  rw [← eg29] at hcl
  have r162 : g29 162 = (upd (upd (upd (upd (upd (upd (upd (upd (upd (upd (upd (upd (upd (upd (upd (upd (fun _ => 0) 1 (nI (164))) 2 (nI (165))) 3 (nI (164))) 12 ((-1))) 13 (nI (176))) 14 (nI (177))) 15 (nI (178))) 16 (nI (179))) 17 (nI (180))) 18 (nI (181))) 19 (nI (182))) 20 (nI (183))) 27 ((-1))) 28 (nI (191))) 34 (nI (197))) 35 (nI (198))) := by rw [eg29, u2_row, r162]
  refine J_aload_n hS dX8_init_130 rfl ?_
  refine J_iconst (v := 3) hS dX8_init_131 (by decide) ?_
  refine J_newA hG hcl (199) (ni_a (ni_a (ni_a (ni_a (ni_a (ni_a (ni_a (ni_a (ni_a (ni_a (ni_a (ni_a (ni_a (hN 199 (by decide) (by decide)) (by decide)) (by decide)) (by decide)) (by decide)) (by decide)) (by decide)) (by decide)) (by decide)) (by decide)) (by decide)) (by decide)) (by decide)) (by decide)) (by omega) dX8_init_132 rfl ac_I (lg_r (show Ar lay NC .int 199 3 from arM 36 3 (by decide) (by decide) rfl)) (Or.inl ⟨rfl, Or.inl rfl⟩) (by decide) (by decide) (by decide) (rl_c (v := .ref (162)) hb (rl_n rl_0)) (rn_c (v := .ref (162)) hb rn_0) (by decide) (by decide) (fun S E hG hcl => ?_)
  have hS := hG.1
  obtain ⟨g30, eg30⟩ : ∃ x : Mm, x = zrM g29 (199) := ⟨_, rfl⟩
  rw [← eg30] at hcl ⊢
  have hb := mi_a (x := 199) hb
  have m_164 := mi_a (x := 199) m_164
  have m_165 := mi_a (x := 199) m_165
  have m_176 := mi_a (x := 199) m_176
  have m_177 := mi_a (x := 199) m_177
  have m_178 := mi_a (x := 199) m_178
  have m_179 := mi_a (x := 199) m_179
  have m_180 := mi_a (x := 199) m_180
  have m_181 := mi_a (x := 199) m_181
  have m_182 := mi_a (x := 199) m_182
  have m_183 := mi_a (x := 199) m_183
  have m_191 := mi_a (x := 199) m_191
  have m_197 := mi_a (x := 199) m_197
  have m_198 := mi_a (x := 199) m_198
  have m_199 := mi_s (x := 199) (N := (((((((((((((N ++ [164]) ++ [165]) ++ [176]) ++ [177]) ++ [178]) ++ [179]) ++ [180]) ++ [181]) ++ [182]) ++ [183]) ++ [191]) ++ [197]) ++ [198]))
  have r162 : g30 162 = (upd (upd (upd (upd (upd (upd (upd (upd (upd (upd (upd (upd (upd (upd (upd (upd (fun _ => 0) 1 (nI (164))) 2 (nI (165))) 3 (nI (164))) 12 ((-1))) 13 (nI (176))) 14 (nI (177))) 15 (nI (178))) 16 (nI (179))) 17 (nI (180))) 18 (nI (181))) 19 (nI (182))) 20 (nI (183))) 27 ((-1))) 28 (nI (191))) 34 (nI (197))) 35 (nI (198))) := by rw [eg30, zrM_ne (by decide), r162]
  refine J_putFR (t := 199) hS (by rw [hG.2.1]; exact hnm) dX8_init_134 ffX8_62 (Or.inr ⟨_, rfl⟩) ⟨hb, lg_o ob162.2⟩ rfl (by omega) (by omega) (fun g31 eg31 => ?_)
  have hcl := Cl.putR (k := 36) (t := 199) hcl (lg_o ob162.2) rfl m_199 (by omega)
  rw [← eg31] at hcl
  have r162 : g31 162 = (upd (upd (upd (upd (upd (upd (upd (upd (upd (upd (upd (upd (upd (upd (upd (upd (upd (fun _ => 0) 1 (nI (164))) 2 (nI (165))) 3 (nI (164))) 12 ((-1))) 13 (nI (176))) 14 (nI (177))) 15 (nI (178))) 16 (nI (179))) 17 (nI (180))) 18 (nI (181))) 19 (nI (182))) 20 (nI (183))) 27 ((-1))) 28 (nI (191))) 34 (nI (197))) 35 (nI (198))) 36 (nI (199))) := by rw [eg31, u2_row, r162]
  refine J_aload_n hS dX8_init_137 rfl ?_
  refine J_sipush (v := 30000) hS dX8_init_138 (by decide) ?_
  refine J_newA hG hcl (201) (ni_a (ni_a (ni_a (ni_a (ni_a (ni_a (ni_a (ni_a (ni_a (ni_a (ni_a (ni_a (ni_a (ni_a (hN 201 (by decide) (by decide)) (by decide)) (by decide)) (by decide)) (by decide)) (by decide)) (by decide)) (by decide)) (by decide)) (by decide)) (by decide)) (by decide)) (by decide)) (by decide)) (by decide)) (by omega) dX8_init_141 rfl ac_I (lg_r (show Ar lay NC .int 201 30000 from arM 38 30000 (by decide) (by decide) rfl)) (Or.inl ⟨rfl, Or.inl rfl⟩) (by decide) (by decide) (by decide) (rl_c (v := .ref (162)) hb (rl_n rl_0)) (rn_c (v := .ref (162)) hb rn_0) (by decide) (by decide) (fun S E hG hcl => ?_)
  have hS := hG.1
  obtain ⟨g32, eg32⟩ : ∃ x : Mm, x = zrM g31 (201) := ⟨_, rfl⟩
  rw [← eg32] at hcl ⊢
  have hb := mi_a (x := 201) hb
  have m_164 := mi_a (x := 201) m_164
  have m_165 := mi_a (x := 201) m_165
  have m_176 := mi_a (x := 201) m_176
  have m_177 := mi_a (x := 201) m_177
  have m_178 := mi_a (x := 201) m_178
  have m_179 := mi_a (x := 201) m_179
  have m_180 := mi_a (x := 201) m_180
  have m_181 := mi_a (x := 201) m_181
  have m_182 := mi_a (x := 201) m_182
  have m_183 := mi_a (x := 201) m_183
  have m_191 := mi_a (x := 201) m_191
  have m_197 := mi_a (x := 201) m_197
  have m_198 := mi_a (x := 201) m_198
  have m_199 := mi_a (x := 201) m_199
  have m_201 := mi_s (x := 201) (N := ((((((((((((((N ++ [164]) ++ [165]) ++ [176]) ++ [177]) ++ [178]) ++ [179]) ++ [180]) ++ [181]) ++ [182]) ++ [183]) ++ [191]) ++ [197]) ++ [198]) ++ [199]))
  have r162 : g32 162 = (upd (upd (upd (upd (upd (upd (upd (upd (upd (upd (upd (upd (upd (upd (upd (upd (upd (fun _ => 0) 1 (nI (164))) 2 (nI (165))) 3 (nI (164))) 12 ((-1))) 13 (nI (176))) 14 (nI (177))) 15 (nI (178))) 16 (nI (179))) 17 (nI (180))) 18 (nI (181))) 19 (nI (182))) 20 (nI (183))) 27 ((-1))) 28 (nI (191))) 34 (nI (197))) 35 (nI (198))) 36 (nI (199))) := by rw [eg32, zrM_ne (by decide), r162]
  refine J_putFR (t := 201) hS (by rw [hG.2.1]; exact hnm) dX8_init_143 ffX8_65 (Or.inr ⟨_, rfl⟩) ⟨hb, lg_o ob162.2⟩ rfl (by omega) (by omega) (fun g33 eg33 => ?_)
  have hcl := Cl.putR (k := 38) (t := 201) hcl (lg_o ob162.2) rfl m_201 (by omega)
  rw [← eg33] at hcl
  have r162 : g33 162 = (upd (upd (upd (upd (upd (upd (upd (upd (upd (upd (upd (upd (upd (upd (upd (upd (upd (upd (fun _ => 0) 1 (nI (164))) 2 (nI (165))) 3 (nI (164))) 12 ((-1))) 13 (nI (176))) 14 (nI (177))) 15 (nI (178))) 16 (nI (179))) 17 (nI (180))) 18 (nI (181))) 19 (nI (182))) 20 (nI (183))) 27 ((-1))) 28 (nI (191))) 34 (nI (197))) 35 (nI (198))) 36 (nI (199))) 38 (nI (201))) := by rw [eg33, u2_row, r162]
  refine J_aload_n hS dX8_init_146 rfl ?_
  refine J_bipush (v := 12) hS dX8_init_147 (by decide) ?_
  refine J_newA hG hcl (202) (ni_a (ni_a (ni_a (ni_a (ni_a (ni_a (ni_a (ni_a (ni_a (ni_a (ni_a (ni_a (ni_a (ni_a (ni_a (hN 202 (by decide) (by decide)) (by decide)) (by decide)) (by decide)) (by decide)) (by decide)) (by decide)) (by decide)) (by decide)) (by decide)) (by decide)) (by decide)) (by decide)) (by decide)) (by decide)) (by decide)) (by omega) dX8_init_149 rfl ac_I (lg_r (show Ar lay NC .int 202 12 from arM 39 12 (by decide) (by decide) rfl)) (Or.inl ⟨rfl, Or.inl rfl⟩) (by decide) (by decide) (by decide) (rl_c (v := .ref (162)) hb (rl_n rl_0)) (rn_c (v := .ref (162)) hb rn_0) (by decide) (by decide) (fun S E hG hcl => ?_)
  have hS := hG.1
  obtain ⟨g34, eg34⟩ : ∃ x : Mm, x = zrM g33 (202) := ⟨_, rfl⟩
  rw [← eg34] at hcl ⊢
  have hb := mi_a (x := 202) hb
  have m_164 := mi_a (x := 202) m_164
  have m_165 := mi_a (x := 202) m_165
  have m_176 := mi_a (x := 202) m_176
  have m_177 := mi_a (x := 202) m_177
  have m_178 := mi_a (x := 202) m_178
  have m_179 := mi_a (x := 202) m_179
  have m_180 := mi_a (x := 202) m_180
  have m_181 := mi_a (x := 202) m_181
  have m_182 := mi_a (x := 202) m_182
  have m_183 := mi_a (x := 202) m_183
  have m_191 := mi_a (x := 202) m_191
  have m_197 := mi_a (x := 202) m_197
  have m_198 := mi_a (x := 202) m_198
  have m_199 := mi_a (x := 202) m_199
  have m_201 := mi_a (x := 202) m_201
  have m_202 := mi_s (x := 202) (N := (((((((((((((((N ++ [164]) ++ [165]) ++ [176]) ++ [177]) ++ [178]) ++ [179]) ++ [180]) ++ [181]) ++ [182]) ++ [183]) ++ [191]) ++ [197]) ++ [198]) ++ [199]) ++ [201]))
  have r162 : g34 162 = (upd (upd (upd (upd (upd (upd (upd (upd (upd (upd (upd (upd (upd (upd (upd (upd (upd (upd (fun _ => 0) 1 (nI (164))) 2 (nI (165))) 3 (nI (164))) 12 ((-1))) 13 (nI (176))) 14 (nI (177))) 15 (nI (178))) 16 (nI (179))) 17 (nI (180))) 18 (nI (181))) 19 (nI (182))) 20 (nI (183))) 27 ((-1))) 28 (nI (191))) 34 (nI (197))) 35 (nI (198))) 36 (nI (199))) 38 (nI (201))) := by rw [eg34, zrM_ne (by decide), r162]
  refine J_putFR (t := 202) hS (by rw [hG.2.1]; exact hnm) dX8_init_151 ffX8_68 (Or.inr ⟨_, rfl⟩) ⟨hb, lg_o ob162.2⟩ rfl (by omega) (by omega) (fun g35 eg35 => ?_)
  have hcl := Cl.putR (k := 39) (t := 202) hcl (lg_o ob162.2) rfl m_202 (by omega)
  rw [← eg35] at hcl
  have r162 : g35 162 = (upd (upd (upd (upd (upd (upd (upd (upd (upd (upd (upd (upd (upd (upd (upd (upd (upd (upd (upd (fun _ => 0) 1 (nI (164))) 2 (nI (165))) 3 (nI (164))) 12 ((-1))) 13 (nI (176))) 14 (nI (177))) 15 (nI (178))) 16 (nI (179))) 17 (nI (180))) 18 (nI (181))) 19 (nI (182))) 20 (nI (183))) 27 ((-1))) 28 (nI (191))) 34 (nI (197))) 35 (nI (198))) 36 (nI (199))) 38 (nI (201))) 39 (nI (202))) := by rw [eg35, u2_row, r162]
  refine J_aload_n hS dX8_init_154 rfl ?_
  refine J_sipush (v := 144) hS dX8_init_155 (by decide) ?_
  refine J_newA hG hcl (203) (ni_a (ni_a (ni_a (ni_a (ni_a (ni_a (ni_a (ni_a (ni_a (ni_a (ni_a (ni_a (ni_a (ni_a (ni_a (ni_a (hN 203 (by decide) (by decide)) (by decide)) (by decide)) (by decide)) (by decide)) (by decide)) (by decide)) (by decide)) (by decide)) (by decide)) (by decide)) (by decide)) (by decide)) (by decide)) (by decide)) (by decide)) (by decide)) (by omega) dX8_init_158 rfl ac_I (lg_r (show Ar lay NC .int 203 144 from arM 40 144 (by decide) (by decide) rfl)) (Or.inl ⟨rfl, Or.inl rfl⟩) (by decide) (by decide) (by decide) (rl_c (v := .ref (162)) hb (rl_n rl_0)) (rn_c (v := .ref (162)) hb rn_0) (by decide) (by decide) (fun S E hG hcl => ?_)
  have hS := hG.1
  obtain ⟨g36, eg36⟩ : ∃ x : Mm, x = zrM g35 (203) := ⟨_, rfl⟩
  rw [← eg36] at hcl ⊢
  have hb := mi_a (x := 203) hb
  have m_164 := mi_a (x := 203) m_164
  have m_165 := mi_a (x := 203) m_165
  have m_176 := mi_a (x := 203) m_176
  have m_177 := mi_a (x := 203) m_177
  have m_178 := mi_a (x := 203) m_178
  have m_179 := mi_a (x := 203) m_179
  have m_180 := mi_a (x := 203) m_180
  have m_181 := mi_a (x := 203) m_181
  have m_182 := mi_a (x := 203) m_182
  have m_183 := mi_a (x := 203) m_183
  have m_191 := mi_a (x := 203) m_191
  have m_197 := mi_a (x := 203) m_197
  have m_198 := mi_a (x := 203) m_198
  have m_199 := mi_a (x := 203) m_199
  have m_201 := mi_a (x := 203) m_201
  have m_202 := mi_a (x := 203) m_202
  have m_203 := mi_s (x := 203) (N := ((((((((((((((((N ++ [164]) ++ [165]) ++ [176]) ++ [177]) ++ [178]) ++ [179]) ++ [180]) ++ [181]) ++ [182]) ++ [183]) ++ [191]) ++ [197]) ++ [198]) ++ [199]) ++ [201]) ++ [202]))
  have r162 : g36 162 = (upd (upd (upd (upd (upd (upd (upd (upd (upd (upd (upd (upd (upd (upd (upd (upd (upd (upd (upd (fun _ => 0) 1 (nI (164))) 2 (nI (165))) 3 (nI (164))) 12 ((-1))) 13 (nI (176))) 14 (nI (177))) 15 (nI (178))) 16 (nI (179))) 17 (nI (180))) 18 (nI (181))) 19 (nI (182))) 20 (nI (183))) 27 ((-1))) 28 (nI (191))) 34 (nI (197))) 35 (nI (198))) 36 (nI (199))) 38 (nI (201))) 39 (nI (202))) := by rw [eg36, zrM_ne (by decide), r162]
  refine J_putFR (t := 203) hS (by rw [hG.2.1]; exact hnm) dX8_init_160 ffX8_71 (Or.inr ⟨_, rfl⟩) ⟨hb, lg_o ob162.2⟩ rfl (by omega) (by omega) (fun g37 eg37 => ?_)
  have hcl := Cl.putR (k := 40) (t := 203) hcl (lg_o ob162.2) rfl m_203 (by omega)
  rw [← eg37] at hcl
  have r162 : g37 162 = (upd (upd (upd (upd (upd (upd (upd (upd (upd (upd (upd (upd (upd (upd (upd (upd (upd (upd (upd (upd (fun _ => 0) 1 (nI (164))) 2 (nI (165))) 3 (nI (164))) 12 ((-1))) 13 (nI (176))) 14 (nI (177))) 15 (nI (178))) 16 (nI (179))) 17 (nI (180))) 18 (nI (181))) 19 (nI (182))) 20 (nI (183))) 27 ((-1))) 28 (nI (191))) 34 (nI (197))) 35 (nI (198))) 36 (nI (199))) 38 (nI (201))) 39 (nI (202))) 40 (nI (203))) := by rw [eg37, u2_row, r162]
  refine J_aload_n hS dX8_init_163 rfl ?_
  refine J_bipush (v := 24) hS dX8_init_164 (by decide) ?_
  refine J_newA hG hcl (205) (ni_a (ni_a (ni_a (ni_a (ni_a (ni_a (ni_a (ni_a (ni_a (ni_a (ni_a (ni_a (ni_a (ni_a (ni_a (ni_a (ni_a (hN 205 (by decide) (by decide)) (by decide)) (by decide)) (by decide)) (by decide)) (by decide)) (by decide)) (by decide)) (by decide)) (by decide)) (by decide)) (by decide)) (by decide)) (by decide)) (by decide)) (by decide)) (by decide)) (by decide)) (by omega) dX8_init_166 rfl ac_I (lg_r (show Ar lay NC .int 205 24 from arM 42 24 (by decide) (by decide) rfl)) (Or.inl ⟨rfl, Or.inl rfl⟩) (by decide) (by decide) (by decide) (rl_c (v := .ref (162)) hb (rl_n rl_0)) (rn_c (v := .ref (162)) hb rn_0) (by decide) (by decide) (fun S E hG hcl => ?_)
  have hS := hG.1
  obtain ⟨g38, eg38⟩ : ∃ x : Mm, x = zrM g37 (205) := ⟨_, rfl⟩
  rw [← eg38] at hcl ⊢
  have hb := mi_a (x := 205) hb
  have m_164 := mi_a (x := 205) m_164
  have m_165 := mi_a (x := 205) m_165
  have m_176 := mi_a (x := 205) m_176
  have m_177 := mi_a (x := 205) m_177
  have m_178 := mi_a (x := 205) m_178
  have m_179 := mi_a (x := 205) m_179
  have m_180 := mi_a (x := 205) m_180
  have m_181 := mi_a (x := 205) m_181
  have m_182 := mi_a (x := 205) m_182
  have m_183 := mi_a (x := 205) m_183
  have m_191 := mi_a (x := 205) m_191
  have m_197 := mi_a (x := 205) m_197
  have m_198 := mi_a (x := 205) m_198
  have m_199 := mi_a (x := 205) m_199
  have m_201 := mi_a (x := 205) m_201
  have m_202 := mi_a (x := 205) m_202
  have m_203 := mi_a (x := 205) m_203
  have m_205 := mi_s (x := 205) (N := (((((((((((((((((N ++ [164]) ++ [165]) ++ [176]) ++ [177]) ++ [178]) ++ [179]) ++ [180]) ++ [181]) ++ [182]) ++ [183]) ++ [191]) ++ [197]) ++ [198]) ++ [199]) ++ [201]) ++ [202]) ++ [203]))
  have r162 : g38 162 = (upd (upd (upd (upd (upd (upd (upd (upd (upd (upd (upd (upd (upd (upd (upd (upd (upd (upd (upd (upd (fun _ => 0) 1 (nI (164))) 2 (nI (165))) 3 (nI (164))) 12 ((-1))) 13 (nI (176))) 14 (nI (177))) 15 (nI (178))) 16 (nI (179))) 17 (nI (180))) 18 (nI (181))) 19 (nI (182))) 20 (nI (183))) 27 ((-1))) 28 (nI (191))) 34 (nI (197))) 35 (nI (198))) 36 (nI (199))) 38 (nI (201))) 39 (nI (202))) 40 (nI (203))) := by rw [eg38, zrM_ne (by decide), r162]
  refine J_putFR (t := 205) hS (by rw [hG.2.1]; exact hnm) dX8_init_168 ffX8_74 (Or.inr ⟨_, rfl⟩) ⟨hb, lg_o ob162.2⟩ rfl (by omega) (by omega) (fun g39 eg39 => ?_)
  have hcl := Cl.putR (k := 42) (t := 205) hcl (lg_o ob162.2) rfl m_205 (by omega)
  rw [← eg39] at hcl
  have r162 : g39 162 = (upd (upd (upd (upd (upd (upd (upd (upd (upd (upd (upd (upd (upd (upd (upd (upd (upd (upd (upd (upd (upd (fun _ => 0) 1 (nI (164))) 2 (nI (165))) 3 (nI (164))) 12 ((-1))) 13 (nI (176))) 14 (nI (177))) 15 (nI (178))) 16 (nI (179))) 17 (nI (180))) 18 (nI (181))) 19 (nI (182))) 20 (nI (183))) 27 ((-1))) 28 (nI (191))) 34 (nI (197))) 35 (nI (198))) 36 (nI (199))) 38 (nI (201))) 39 (nI (202))) 40 (nI (203))) 42 (nI (205))) := by rw [eg39, u2_row, r162]
  refine J_aload_n hS dX8_init_171 rfl ?_
  refine J_iconst (v := (-1)) hS dX8_init_172 (by decide) ?_
  refine J_putI hS dX8_init_173 fpX8_77 ⟨hb, lg_o ob162.2⟩ rfl (fun g40 eg40 => ?_)
  have hcl := Cl.putI (k := 46) (v := (-1)) hcl (lg_o ob162.2) rfl
  rw [← eg40] at hcl
  have r162 : g40 162 = (upd (upd (upd (upd (upd (upd (upd (upd (upd (upd (upd (upd (upd (upd (upd (upd (upd (upd (upd (upd (upd (upd (fun _ => 0) 1 (nI (164))) 2 (nI (165))) 3 (nI (164))) 12 ((-1))) 13 (nI (176))) 14 (nI (177))) 15 (nI (178))) 16 (nI (179))) 17 (nI (180))) 18 (nI (181))) 19 (nI (182))) 20 (nI (183))) 27 ((-1))) 28 (nI (191))) 34 (nI (197))) 35 (nI (198))) 36 (nI (199))) 38 (nI (201))) 39 (nI (202))) 40 (nI (203))) 42 (nI (205))) 46 ((-1))) := by rw [eg40, u2_row, r162]
  refine J_aload_n hS dX8_init_176 rfl ?_
  refine J_iconst (v := 3) hS dX8_init_177 (by decide) ?_
  refine J_newA hG hcl (210) (ni_a (ni_a (ni_a (ni_a (ni_a (ni_a (ni_a (ni_a (ni_a (ni_a (ni_a (ni_a (ni_a (ni_a (ni_a (ni_a (ni_a (ni_a (hN 210 (by decide) (by decide)) (by decide)) (by decide)) (by decide)) (by decide)) (by decide)) (by decide)) (by decide)) (by decide)) (by decide)) (by decide)) (by decide)) (by decide)) (by decide)) (by decide)) (by decide)) (by decide)) (by decide)) (by decide)) (by omega) dX8_init_178 rfl ac_I (lg_r (show Ar lay NC .int 210 3 from arM 47 3 (by decide) (by decide) rfl)) (Or.inl ⟨rfl, Or.inl rfl⟩) (by decide) (by decide) (by decide) (rl_c (v := .ref (162)) hb (rl_n rl_0)) (rn_c (v := .ref (162)) hb rn_0) (by decide) (by decide) (fun S E hG hcl => ?_)
  have hS := hG.1
  obtain ⟨g41, eg41⟩ : ∃ x : Mm, x = zrM g40 (210) := ⟨_, rfl⟩
  rw [← eg41] at hcl ⊢
  have hb := mi_a (x := 210) hb
  have m_164 := mi_a (x := 210) m_164
  have m_165 := mi_a (x := 210) m_165
  have m_176 := mi_a (x := 210) m_176
  have m_177 := mi_a (x := 210) m_177
  have m_178 := mi_a (x := 210) m_178
  have m_179 := mi_a (x := 210) m_179
  have m_180 := mi_a (x := 210) m_180
  have m_181 := mi_a (x := 210) m_181
  have m_182 := mi_a (x := 210) m_182
  have m_183 := mi_a (x := 210) m_183
  have m_191 := mi_a (x := 210) m_191
  have m_197 := mi_a (x := 210) m_197
  have m_198 := mi_a (x := 210) m_198
  have m_199 := mi_a (x := 210) m_199
  have m_201 := mi_a (x := 210) m_201
  have m_202 := mi_a (x := 210) m_202
  have m_203 := mi_a (x := 210) m_203
  have m_205 := mi_a (x := 210) m_205
  have m_210 := mi_s (x := 210) (N := ((((((((((((((((((N ++ [164]) ++ [165]) ++ [176]) ++ [177]) ++ [178]) ++ [179]) ++ [180]) ++ [181]) ++ [182]) ++ [183]) ++ [191]) ++ [197]) ++ [198]) ++ [199]) ++ [201]) ++ [202]) ++ [203]) ++ [205]))
  have r162 : g41 162 = (upd (upd (upd (upd (upd (upd (upd (upd (upd (upd (upd (upd (upd (upd (upd (upd (upd (upd (upd (upd (upd (upd (fun _ => 0) 1 (nI (164))) 2 (nI (165))) 3 (nI (164))) 12 ((-1))) 13 (nI (176))) 14 (nI (177))) 15 (nI (178))) 16 (nI (179))) 17 (nI (180))) 18 (nI (181))) 19 (nI (182))) 20 (nI (183))) 27 ((-1))) 28 (nI (191))) 34 (nI (197))) 35 (nI (198))) 36 (nI (199))) 38 (nI (201))) 39 (nI (202))) 40 (nI (203))) 42 (nI (205))) 46 ((-1))) := by rw [eg41, zrM_ne (by decide), r162]
  refine J_putFR (t := 210) hS (by rw [hG.2.1]; exact hnm) dX8_init_180 ffX8_80 (Or.inr ⟨_, rfl⟩) ⟨hb, lg_o ob162.2⟩ rfl (by omega) (by omega) (fun g42 eg42 => ?_)
  have hcl := Cl.putR (k := 47) (t := 210) hcl (lg_o ob162.2) rfl m_210 (by omega)
  rw [← eg42] at hcl
  have r162 : g42 162 = (upd (upd (upd (upd (upd (upd (upd (upd (upd (upd (upd (upd (upd (upd (upd (upd (upd (upd (upd (upd (upd (upd (upd (fun _ => 0) 1 (nI (164))) 2 (nI (165))) 3 (nI (164))) 12 ((-1))) 13 (nI (176))) 14 (nI (177))) 15 (nI (178))) 16 (nI (179))) 17 (nI (180))) 18 (nI (181))) 19 (nI (182))) 20 (nI (183))) 27 ((-1))) 28 (nI (191))) 34 (nI (197))) 35 (nI (198))) 36 (nI (199))) 38 (nI (201))) 39 (nI (202))) 40 (nI (203))) 42 (nI (205))) 46 ((-1))) 47 (nI (210))) := by rw [eg42, u2_row, r162]
  refine J_aload_n hS dX8_init_183 rfl ?_
  refine J_iconst (v := 3) hS dX8_init_184 (by decide) ?_
  refine J_newA hG hcl (211) (ni_a (ni_a (ni_a (ni_a (ni_a (ni_a (ni_a (ni_a (ni_a (ni_a (ni_a (ni_a (ni_a (ni_a (ni_a (ni_a (ni_a (ni_a (ni_a (hN 211 (by decide) (by decide)) (by decide)) (by decide)) (by decide)) (by decide)) (by decide)) (by decide)) (by decide)) (by decide)) (by decide)) (by decide)) (by decide)) (by decide)) (by decide)) (by decide)) (by decide)) (by decide)) (by decide)) (by decide)) (by decide)) (by omega) dX8_init_185 rfl ac_I (lg_r (show Ar lay NC .int 211 3 from arM 48 3 (by decide) (by decide) rfl)) (Or.inl ⟨rfl, Or.inl rfl⟩) (by decide) (by decide) (by decide) (rl_c (v := .ref (162)) hb (rl_n rl_0)) (rn_c (v := .ref (162)) hb rn_0) (by decide) (by decide) (fun S E hG hcl => ?_)
  have hS := hG.1
  obtain ⟨g43, eg43⟩ : ∃ x : Mm, x = zrM g42 (211) := ⟨_, rfl⟩
  rw [← eg43] at hcl ⊢
  have hb := mi_a (x := 211) hb
  have m_164 := mi_a (x := 211) m_164
  have m_165 := mi_a (x := 211) m_165
  have m_176 := mi_a (x := 211) m_176
  have m_177 := mi_a (x := 211) m_177
  have m_178 := mi_a (x := 211) m_178
  have m_179 := mi_a (x := 211) m_179
  have m_180 := mi_a (x := 211) m_180
  have m_181 := mi_a (x := 211) m_181
  have m_182 := mi_a (x := 211) m_182
  have m_183 := mi_a (x := 211) m_183
  have m_191 := mi_a (x := 211) m_191
  have m_197 := mi_a (x := 211) m_197
  have m_198 := mi_a (x := 211) m_198
  have m_199 := mi_a (x := 211) m_199
  have m_201 := mi_a (x := 211) m_201
  have m_202 := mi_a (x := 211) m_202
  have m_203 := mi_a (x := 211) m_203
  have m_205 := mi_a (x := 211) m_205
  have m_210 := mi_a (x := 211) m_210
  have m_211 := mi_s (x := 211) (N := (((((((((((((((((((N ++ [164]) ++ [165]) ++ [176]) ++ [177]) ++ [178]) ++ [179]) ++ [180]) ++ [181]) ++ [182]) ++ [183]) ++ [191]) ++ [197]) ++ [198]) ++ [199]) ++ [201]) ++ [202]) ++ [203]) ++ [205]) ++ [210]))
  have r162 : g43 162 = (upd (upd (upd (upd (upd (upd (upd (upd (upd (upd (upd (upd (upd (upd (upd (upd (upd (upd (upd (upd (upd (upd (upd (fun _ => 0) 1 (nI (164))) 2 (nI (165))) 3 (nI (164))) 12 ((-1))) 13 (nI (176))) 14 (nI (177))) 15 (nI (178))) 16 (nI (179))) 17 (nI (180))) 18 (nI (181))) 19 (nI (182))) 20 (nI (183))) 27 ((-1))) 28 (nI (191))) 34 (nI (197))) 35 (nI (198))) 36 (nI (199))) 38 (nI (201))) 39 (nI (202))) 40 (nI (203))) 42 (nI (205))) 46 ((-1))) 47 (nI (210))) := by rw [eg43, zrM_ne (by decide), r162]
  refine J_putFR (t := 211) hS (by rw [hG.2.1]; exact hnm) dX8_init_187 ffX8_83 (Or.inr ⟨_, rfl⟩) ⟨hb, lg_o ob162.2⟩ rfl (by omega) (by omega) (fun g44 eg44 => ?_)
  have hcl := Cl.putR (k := 48) (t := 211) hcl (lg_o ob162.2) rfl m_211 (by omega)
  rw [← eg44] at hcl
  have r162 : g44 162 = (upd (upd (upd (upd (upd (upd (upd (upd (upd (upd (upd (upd (upd (upd (upd (upd (upd (upd (upd (upd (upd (upd (upd (upd (fun _ => 0) 1 (nI (164))) 2 (nI (165))) 3 (nI (164))) 12 ((-1))) 13 (nI (176))) 14 (nI (177))) 15 (nI (178))) 16 (nI (179))) 17 (nI (180))) 18 (nI (181))) 19 (nI (182))) 20 (nI (183))) 27 ((-1))) 28 (nI (191))) 34 (nI (197))) 35 (nI (198))) 36 (nI (199))) 38 (nI (201))) 39 (nI (202))) 40 (nI (203))) 42 (nI (205))) 46 ((-1))) 47 (nI (210))) 48 (nI (211))) := by rw [eg44, u2_row, r162]
  refine J_aload_n hS dX8_init_190 rfl ?_
  refine J_sipush (v := 10392) hS dX8_init_191 (by decide) ?_
  refine J_newA hG hcl (212) (ni_a (ni_a (ni_a (ni_a (ni_a (ni_a (ni_a (ni_a (ni_a (ni_a (ni_a (ni_a (ni_a (ni_a (ni_a (ni_a (ni_a (ni_a (ni_a (ni_a (hN 212 (by decide) (by decide)) (by decide)) (by decide)) (by decide)) (by decide)) (by decide)) (by decide)) (by decide)) (by decide)) (by decide)) (by decide)) (by decide)) (by decide)) (by decide)) (by decide)) (by decide)) (by decide)) (by decide)) (by decide)) (by decide)) (by decide)) (by omega) dX8_init_194 rfl ac_I (lg_r (show Ar lay NC .int 212 10392 from arM 49 10392 (by decide) (by decide) rfl)) (Or.inl ⟨rfl, Or.inl rfl⟩) (by decide) (by decide) (by decide) (rl_c (v := .ref (162)) hb (rl_n rl_0)) (rn_c (v := .ref (162)) hb rn_0) (by decide) (by decide) (fun S E hG hcl => ?_)
  have hS := hG.1
  obtain ⟨g45, eg45⟩ : ∃ x : Mm, x = zrM g44 (212) := ⟨_, rfl⟩
  rw [← eg45] at hcl ⊢
  have hb := mi_a (x := 212) hb
  have m_164 := mi_a (x := 212) m_164
  have m_165 := mi_a (x := 212) m_165
  have m_176 := mi_a (x := 212) m_176
  have m_177 := mi_a (x := 212) m_177
  have m_178 := mi_a (x := 212) m_178
  have m_179 := mi_a (x := 212) m_179
  have m_180 := mi_a (x := 212) m_180
  have m_181 := mi_a (x := 212) m_181
  have m_182 := mi_a (x := 212) m_182
  have m_183 := mi_a (x := 212) m_183
  have m_191 := mi_a (x := 212) m_191
  have m_197 := mi_a (x := 212) m_197
  have m_198 := mi_a (x := 212) m_198
  have m_199 := mi_a (x := 212) m_199
  have m_201 := mi_a (x := 212) m_201
  have m_202 := mi_a (x := 212) m_202
  have m_203 := mi_a (x := 212) m_203
  have m_205 := mi_a (x := 212) m_205
  have m_210 := mi_a (x := 212) m_210
  have m_211 := mi_a (x := 212) m_211
  have m_212 := mi_s (x := 212) (N := ((((((((((((((((((((N ++ [164]) ++ [165]) ++ [176]) ++ [177]) ++ [178]) ++ [179]) ++ [180]) ++ [181]) ++ [182]) ++ [183]) ++ [191]) ++ [197]) ++ [198]) ++ [199]) ++ [201]) ++ [202]) ++ [203]) ++ [205]) ++ [210]) ++ [211]))
  have r162 : g45 162 = (upd (upd (upd (upd (upd (upd (upd (upd (upd (upd (upd (upd (upd (upd (upd (upd (upd (upd (upd (upd (upd (upd (upd (upd (fun _ => 0) 1 (nI (164))) 2 (nI (165))) 3 (nI (164))) 12 ((-1))) 13 (nI (176))) 14 (nI (177))) 15 (nI (178))) 16 (nI (179))) 17 (nI (180))) 18 (nI (181))) 19 (nI (182))) 20 (nI (183))) 27 ((-1))) 28 (nI (191))) 34 (nI (197))) 35 (nI (198))) 36 (nI (199))) 38 (nI (201))) 39 (nI (202))) 40 (nI (203))) 42 (nI (205))) 46 ((-1))) 47 (nI (210))) 48 (nI (211))) := by rw [eg45, zrM_ne (by decide), r162]
  refine J_putFR (t := 212) hS (by rw [hG.2.1]; exact hnm) dX8_init_196 ffX8_86 (Or.inr ⟨_, rfl⟩) ⟨hb, lg_o ob162.2⟩ rfl (by omega) (by omega) (fun g46 eg46 => ?_)
  have hcl := Cl.putR (k := 49) (t := 212) hcl (lg_o ob162.2) rfl m_212 (by omega)
  rw [← eg46] at hcl
  have r162 : g46 162 = (upd (upd (upd (upd (upd (upd (upd (upd (upd (upd (upd (upd (upd (upd (upd (upd (upd (upd (upd (upd (upd (upd (upd (upd (upd (fun _ => 0) 1 (nI (164))) 2 (nI (165))) 3 (nI (164))) 12 ((-1))) 13 (nI (176))) 14 (nI (177))) 15 (nI (178))) 16 (nI (179))) 17 (nI (180))) 18 (nI (181))) 19 (nI (182))) 20 (nI (183))) 27 ((-1))) 28 (nI (191))) 34 (nI (197))) 35 (nI (198))) 36 (nI (199))) 38 (nI (201))) 39 (nI (202))) 40 (nI (203))) 42 (nI (205))) 46 ((-1))) 47 (nI (210))) 48 (nI (211))) 49 (nI (212))) := by rw [eg46, u2_row, r162]
  refine J_aload_n hS dX8_init_199 rfl ?_
  refine J_sipush (v := 300) hS dX8_init_200 (by decide) ?_
  refine J_newA hG hcl (213) (ni_a (ni_a (ni_a (ni_a (ni_a (ni_a (ni_a (ni_a (ni_a (ni_a (ni_a (ni_a (ni_a (ni_a (ni_a (ni_a (ni_a (ni_a (ni_a (ni_a (ni_a (hN 213 (by decide) (by decide)) (by decide)) (by decide)) (by decide)) (by decide)) (by decide)) (by decide)) (by decide)) (by decide)) (by decide)) (by decide)) (by decide)) (by decide)) (by decide)) (by decide)) (by decide)) (by decide)) (by decide)) (by decide)) (by decide)) (by decide)) (by decide)) (by omega) dX8_init_203 rfl ac_Z (lg_r az213) (Or.inl ⟨rfl, Or.inr rfl⟩) (by decide) (by decide) (by decide) (rl_c (v := .ref (162)) hb (rl_n rl_0)) (rn_c (v := .ref (162)) hb rn_0) (by decide) (by decide) (fun S E hG hcl => ?_)
  have hS := hG.1
  obtain ⟨g47, eg47⟩ : ∃ x : Mm, x = zrM g46 (213) := ⟨_, rfl⟩
  rw [← eg47] at hcl ⊢
  have hb := mi_a (x := 213) hb
  have m_164 := mi_a (x := 213) m_164
  have m_165 := mi_a (x := 213) m_165
  have m_176 := mi_a (x := 213) m_176
  have m_177 := mi_a (x := 213) m_177
  have m_178 := mi_a (x := 213) m_178
  have m_179 := mi_a (x := 213) m_179
  have m_180 := mi_a (x := 213) m_180
  have m_181 := mi_a (x := 213) m_181
  have m_182 := mi_a (x := 213) m_182
  have m_183 := mi_a (x := 213) m_183
  have m_191 := mi_a (x := 213) m_191
  have m_197 := mi_a (x := 213) m_197
  have m_198 := mi_a (x := 213) m_198
  have m_199 := mi_a (x := 213) m_199
  have m_201 := mi_a (x := 213) m_201
  have m_202 := mi_a (x := 213) m_202
  have m_203 := mi_a (x := 213) m_203
  have m_205 := mi_a (x := 213) m_205
  have m_210 := mi_a (x := 213) m_210
  have m_211 := mi_a (x := 213) m_211
  have m_212 := mi_a (x := 213) m_212
  have m_213 := mi_s (x := 213) (N := (((((((((((((((((((((N ++ [164]) ++ [165]) ++ [176]) ++ [177]) ++ [178]) ++ [179]) ++ [180]) ++ [181]) ++ [182]) ++ [183]) ++ [191]) ++ [197]) ++ [198]) ++ [199]) ++ [201]) ++ [202]) ++ [203]) ++ [205]) ++ [210]) ++ [211]) ++ [212]))
  have r162 : g47 162 = (upd (upd (upd (upd (upd (upd (upd (upd (upd (upd (upd (upd (upd (upd (upd (upd (upd (upd (upd (upd (upd (upd (upd (upd (upd (fun _ => 0) 1 (nI (164))) 2 (nI (165))) 3 (nI (164))) 12 ((-1))) 13 (nI (176))) 14 (nI (177))) 15 (nI (178))) 16 (nI (179))) 17 (nI (180))) 18 (nI (181))) 19 (nI (182))) 20 (nI (183))) 27 ((-1))) 28 (nI (191))) 34 (nI (197))) 35 (nI (198))) 36 (nI (199))) 38 (nI (201))) 39 (nI (202))) 40 (nI (203))) 42 (nI (205))) 46 ((-1))) 47 (nI (210))) 48 (nI (211))) 49 (nI (212))) := by rw [eg47, zrM_ne (by decide), r162]
  refine J_putFR (t := 213) hS (by rw [hG.2.1]; exact hnm) dX8_init_205 ffX8_89 (Or.inr ⟨_, rfl⟩) ⟨hb, lg_o ob162.2⟩ rfl (by omega) (by omega) (fun g48 eg48 => ?_)
  have hcl := Cl.putR (k := 50) (t := 213) hcl (lg_o ob162.2) rfl m_213 (by omega)
  rw [← eg48] at hcl
  have r162 : g48 162 = (upd (upd (upd (upd (upd (upd (upd (upd (upd (upd (upd (upd (upd (upd (upd (upd (upd (upd (upd (upd (upd (upd (upd (upd (upd (upd (fun _ => 0) 1 (nI (164))) 2 (nI (165))) 3 (nI (164))) 12 ((-1))) 13 (nI (176))) 14 (nI (177))) 15 (nI (178))) 16 (nI (179))) 17 (nI (180))) 18 (nI (181))) 19 (nI (182))) 20 (nI (183))) 27 ((-1))) 28 (nI (191))) 34 (nI (197))) 35 (nI (198))) 36 (nI (199))) 38 (nI (201))) 39 (nI (202))) 40 (nI (203))) 42 (nI (205))) 46 ((-1))) 47 (nI (210))) 48 (nI (211))) 49 (nI (212))) 50 (nI (213))) := by rw [eg48, u2_row, r162]
  refine J_aload_n hS dX8_init_208 rfl ?_
  refine J_bipush (v := 9) hS dX8_init_209 (by decide) ?_
  refine J_newA hG hcl (214) (ni_a (ni_a (ni_a (ni_a (ni_a (ni_a (ni_a (ni_a (ni_a (ni_a (ni_a (ni_a (ni_a (ni_a (ni_a (ni_a (ni_a (ni_a (ni_a (ni_a (ni_a (ni_a (hN 214 (by decide) (by decide)) (by decide)) (by decide)) (by decide)) (by decide)) (by decide)) (by decide)) (by decide)) (by decide)) (by decide)) (by decide)) (by decide)) (by decide)) (by decide)) (by decide)) (by decide)) (by decide)) (by decide)) (by decide)) (by decide)) (by decide)) (by decide)) (by decide)) (by omega) dX8_init_211 rfl ac_I (lg_r (show Ar lay NC .int 214 9 from arM 51 9 (by decide) (by decide) rfl)) (Or.inl ⟨rfl, Or.inl rfl⟩) (by decide) (by decide) (by decide) (rl_c (v := .ref (162)) hb (rl_n rl_0)) (rn_c (v := .ref (162)) hb rn_0) (by decide) (by decide) (fun S E hG hcl => ?_)
  have hS := hG.1
  obtain ⟨g49, eg49⟩ : ∃ x : Mm, x = zrM g48 (214) := ⟨_, rfl⟩
  rw [← eg49] at hcl ⊢
  have hb := mi_a (x := 214) hb
  have m_164 := mi_a (x := 214) m_164
  have m_165 := mi_a (x := 214) m_165
  have m_176 := mi_a (x := 214) m_176
  have m_177 := mi_a (x := 214) m_177
  have m_178 := mi_a (x := 214) m_178
  have m_179 := mi_a (x := 214) m_179
  have m_180 := mi_a (x := 214) m_180
  have m_181 := mi_a (x := 214) m_181
  have m_182 := mi_a (x := 214) m_182
  have m_183 := mi_a (x := 214) m_183
  have m_191 := mi_a (x := 214) m_191
  have m_197 := mi_a (x := 214) m_197
  have m_198 := mi_a (x := 214) m_198
  have m_199 := mi_a (x := 214) m_199
  have m_201 := mi_a (x := 214) m_201
  have m_202 := mi_a (x := 214) m_202
  have m_203 := mi_a (x := 214) m_203
  have m_205 := mi_a (x := 214) m_205
  have m_210 := mi_a (x := 214) m_210
  have m_211 := mi_a (x := 214) m_211
  have m_212 := mi_a (x := 214) m_212
  have m_213 := mi_a (x := 214) m_213
  have m_214 := mi_s (x := 214) (N := ((((((((((((((((((((((N ++ [164]) ++ [165]) ++ [176]) ++ [177]) ++ [178]) ++ [179]) ++ [180]) ++ [181]) ++ [182]) ++ [183]) ++ [191]) ++ [197]) ++ [198]) ++ [199]) ++ [201]) ++ [202]) ++ [203]) ++ [205]) ++ [210]) ++ [211]) ++ [212]) ++ [213]))
  have r162 : g49 162 = (upd (upd (upd (upd (upd (upd (upd (upd (upd (upd (upd (upd (upd (upd (upd (upd (upd (upd (upd (upd (upd (upd (upd (upd (upd (upd (fun _ => 0) 1 (nI (164))) 2 (nI (165))) 3 (nI (164))) 12 ((-1))) 13 (nI (176))) 14 (nI (177))) 15 (nI (178))) 16 (nI (179))) 17 (nI (180))) 18 (nI (181))) 19 (nI (182))) 20 (nI (183))) 27 ((-1))) 28 (nI (191))) 34 (nI (197))) 35 (nI (198))) 36 (nI (199))) 38 (nI (201))) 39 (nI (202))) 40 (nI (203))) 42 (nI (205))) 46 ((-1))) 47 (nI (210))) 48 (nI (211))) 49 (nI (212))) 50 (nI (213))) := by rw [eg49, zrM_ne (by decide), r162]
  refine J_putFR (t := 214) hS (by rw [hG.2.1]; exact hnm) dX8_init_213 ffX8_93 (Or.inr ⟨_, rfl⟩) ⟨hb, lg_o ob162.2⟩ rfl (by omega) (by omega) (fun g50 eg50 => ?_)
  have hcl := Cl.putR (k := 51) (t := 214) hcl (lg_o ob162.2) rfl m_214 (by omega)
  rw [← eg50] at hcl
  have r162 : g50 162 = (upd (upd (upd (upd (upd (upd (upd (upd (upd (upd (upd (upd (upd (upd (upd (upd (upd (upd (upd (upd (upd (upd (upd (upd (upd (upd (upd (fun _ => 0) 1 (nI (164))) 2 (nI (165))) 3 (nI (164))) 12 ((-1))) 13 (nI (176))) 14 (nI (177))) 15 (nI (178))) 16 (nI (179))) 17 (nI (180))) 18 (nI (181))) 19 (nI (182))) 20 (nI (183))) 27 ((-1))) 28 (nI (191))) 34 (nI (197))) 35 (nI (198))) 36 (nI (199))) 38 (nI (201))) 39 (nI (202))) 40 (nI (203))) 42 (nI (205))) 46 ((-1))) 47 (nI (210))) 48 (nI (211))) 49 (nI (212))) 50 (nI (213))) 51 (nI (214))) := by rw [eg50, u2_row, r162]
  refine J_aload_n hS dX8_init_216 rfl ?_
  refine J_sipush (v := 192) hS dX8_init_217 (by decide) ?_
  refine J_newA hG hcl (215) (ni_a (ni_a (ni_a (ni_a (ni_a (ni_a (ni_a (ni_a (ni_a (ni_a (ni_a (ni_a (ni_a (ni_a (ni_a (ni_a (ni_a (ni_a (ni_a (ni_a (ni_a (ni_a (ni_a (hN 215 (by decide) (by decide)) (by decide)) (by decide)) (by decide)) (by decide)) (by decide)) (by decide)) (by decide)) (by decide)) (by decide)) (by decide)) (by decide)) (by decide)) (by decide)) (by decide)) (by decide)) (by decide)) (by decide)) (by decide)) (by decide)) (by decide)) (by decide)) (by decide)) (by decide)) (by omega) dX8_init_220 rfl ac_I (lg_r (show Ar lay NC .int 215 192 from arM 52 192 (by decide) (by decide) rfl)) (Or.inl ⟨rfl, Or.inl rfl⟩) (by decide) (by decide) (by decide) (rl_c (v := .ref (162)) hb (rl_n rl_0)) (rn_c (v := .ref (162)) hb rn_0) (by decide) (by decide) (fun S E hG hcl => ?_)
  have hS := hG.1
  obtain ⟨g51, eg51⟩ : ∃ x : Mm, x = zrM g50 (215) := ⟨_, rfl⟩
  rw [← eg51] at hcl ⊢
  have hb := mi_a (x := 215) hb
  have m_164 := mi_a (x := 215) m_164
  have m_165 := mi_a (x := 215) m_165
  have m_176 := mi_a (x := 215) m_176
  have m_177 := mi_a (x := 215) m_177
  have m_178 := mi_a (x := 215) m_178
  have m_179 := mi_a (x := 215) m_179
  have m_180 := mi_a (x := 215) m_180
  have m_181 := mi_a (x := 215) m_181
  have m_182 := mi_a (x := 215) m_182
  have m_183 := mi_a (x := 215) m_183
  have m_191 := mi_a (x := 215) m_191
  have m_197 := mi_a (x := 215) m_197
  have m_198 := mi_a (x := 215) m_198
  have m_199 := mi_a (x := 215) m_199
  have m_201 := mi_a (x := 215) m_201
  have m_202 := mi_a (x := 215) m_202
  have m_203 := mi_a (x := 215) m_203
  have m_205 := mi_a (x := 215) m_205
  have m_210 := mi_a (x := 215) m_210
  have m_211 := mi_a (x := 215) m_211
  have m_212 := mi_a (x := 215) m_212
  have m_213 := mi_a (x := 215) m_213
  have m_214 := mi_a (x := 215) m_214
  have m_215 := mi_s (x := 215) (N := (((((((((((((((((((((((N ++ [164]) ++ [165]) ++ [176]) ++ [177]) ++ [178]) ++ [179]) ++ [180]) ++ [181]) ++ [182]) ++ [183]) ++ [191]) ++ [197]) ++ [198]) ++ [199]) ++ [201]) ++ [202]) ++ [203]) ++ [205]) ++ [210]) ++ [211]) ++ [212]) ++ [213]) ++ [214]))
  have r162 : g51 162 = (upd (upd (upd (upd (upd (upd (upd (upd (upd (upd (upd (upd (upd (upd (upd (upd (upd (upd (upd (upd (upd (upd (upd (upd (upd (upd (upd (fun _ => 0) 1 (nI (164))) 2 (nI (165))) 3 (nI (164))) 12 ((-1))) 13 (nI (176))) 14 (nI (177))) 15 (nI (178))) 16 (nI (179))) 17 (nI (180))) 18 (nI (181))) 19 (nI (182))) 20 (nI (183))) 27 ((-1))) 28 (nI (191))) 34 (nI (197))) 35 (nI (198))) 36 (nI (199))) 38 (nI (201))) 39 (nI (202))) 40 (nI (203))) 42 (nI (205))) 46 ((-1))) 47 (nI (210))) 48 (nI (211))) 49 (nI (212))) 50 (nI (213))) 51 (nI (214))) := by rw [eg51, zrM_ne (by decide), r162]
  refine J_putFR (t := 215) hS (by rw [hG.2.1]; exact hnm) dX8_init_222 ffX8_96 (Or.inr ⟨_, rfl⟩) ⟨hb, lg_o ob162.2⟩ rfl (by omega) (by omega) (fun g52 eg52 => ?_)
  have hcl := Cl.putR (k := 52) (t := 215) hcl (lg_o ob162.2) rfl m_215 (by omega)
  rw [← eg52] at hcl
  have r162 : g52 162 = (upd (upd (upd (upd (upd (upd (upd (upd (upd (upd (upd (upd (upd (upd (upd (upd (upd (upd (upd (upd (upd (upd (upd (upd (upd (upd (upd (upd (fun _ => 0) 1 (nI (164))) 2 (nI (165))) 3 (nI (164))) 12 ((-1))) 13 (nI (176))) 14 (nI (177))) 15 (nI (178))) 16 (nI (179))) 17 (nI (180))) 18 (nI (181))) 19 (nI (182))) 20 (nI (183))) 27 ((-1))) 28 (nI (191))) 34 (nI (197))) 35 (nI (198))) 36 (nI (199))) 38 (nI (201))) 39 (nI (202))) 40 (nI (203))) 42 (nI (205))) 46 ((-1))) 47 (nI (210))) 48 (nI (211))) 49 (nI (212))) 50 (nI (213))) 51 (nI (214))) 52 (nI (215))) := by rw [eg52, u2_row, r162]
  refine J_aload_n hS dX8_init_225 rfl ?_
  refine J_bipush (v := 24) hS dX8_init_226 (by decide) ?_
  refine J_newA hG hcl (216) (ni_a (ni_a (ni_a (ni_a (ni_a (ni_a (ni_a (ni_a (ni_a (ni_a (ni_a (ni_a (ni_a (ni_a (ni_a (ni_a (ni_a (ni_a (ni_a (ni_a (ni_a (ni_a (ni_a (ni_a (hN 216 (by decide) (by decide)) (by decide)) (by decide)) (by decide)) (by decide)) (by decide)) (by decide)) (by decide)) (by decide)) (by decide)) (by decide)) (by decide)) (by decide)) (by decide)) (by decide)) (by decide)) (by decide)) (by decide)) (by decide)) (by decide)) (by decide)) (by decide)) (by decide)) (by decide)) (by decide)) (by omega) dX8_init_228 rfl ac_I (lg_r (show Ar lay NC .int 216 24 from arM 53 24 (by decide) (by decide) rfl)) (Or.inl ⟨rfl, Or.inl rfl⟩) (by decide) (by decide) (by decide) (rl_c (v := .ref (162)) hb (rl_n rl_0)) (rn_c (v := .ref (162)) hb rn_0) (by decide) (by decide) (fun S E hG hcl => ?_)
  have hS := hG.1
  obtain ⟨g53, eg53⟩ : ∃ x : Mm, x = zrM g52 (216) := ⟨_, rfl⟩
  rw [← eg53] at hcl ⊢
  have hb := mi_a (x := 216) hb
  have m_164 := mi_a (x := 216) m_164
  have m_165 := mi_a (x := 216) m_165
  have m_176 := mi_a (x := 216) m_176
  have m_177 := mi_a (x := 216) m_177
  have m_178 := mi_a (x := 216) m_178
  have m_179 := mi_a (x := 216) m_179
  have m_180 := mi_a (x := 216) m_180
  have m_181 := mi_a (x := 216) m_181
  have m_182 := mi_a (x := 216) m_182
  have m_183 := mi_a (x := 216) m_183
  have m_191 := mi_a (x := 216) m_191
  have m_197 := mi_a (x := 216) m_197
  have m_198 := mi_a (x := 216) m_198
  have m_199 := mi_a (x := 216) m_199
  have m_201 := mi_a (x := 216) m_201
  have m_202 := mi_a (x := 216) m_202
  have m_203 := mi_a (x := 216) m_203
  have m_205 := mi_a (x := 216) m_205
  have m_210 := mi_a (x := 216) m_210
  have m_211 := mi_a (x := 216) m_211
  have m_212 := mi_a (x := 216) m_212
  have m_213 := mi_a (x := 216) m_213
  have m_214 := mi_a (x := 216) m_214
  have m_215 := mi_a (x := 216) m_215
  have m_216 := mi_s (x := 216) (N := ((((((((((((((((((((((((N ++ [164]) ++ [165]) ++ [176]) ++ [177]) ++ [178]) ++ [179]) ++ [180]) ++ [181]) ++ [182]) ++ [183]) ++ [191]) ++ [197]) ++ [198]) ++ [199]) ++ [201]) ++ [202]) ++ [203]) ++ [205]) ++ [210]) ++ [211]) ++ [212]) ++ [213]) ++ [214]) ++ [215]))
  have r162 : g53 162 = (upd (upd (upd (upd (upd (upd (upd (upd (upd (upd (upd (upd (upd (upd (upd (upd (upd (upd (upd (upd (upd (upd (upd (upd (upd (upd (upd (upd (fun _ => 0) 1 (nI (164))) 2 (nI (165))) 3 (nI (164))) 12 ((-1))) 13 (nI (176))) 14 (nI (177))) 15 (nI (178))) 16 (nI (179))) 17 (nI (180))) 18 (nI (181))) 19 (nI (182))) 20 (nI (183))) 27 ((-1))) 28 (nI (191))) 34 (nI (197))) 35 (nI (198))) 36 (nI (199))) 38 (nI (201))) 39 (nI (202))) 40 (nI (203))) 42 (nI (205))) 46 ((-1))) 47 (nI (210))) 48 (nI (211))) 49 (nI (212))) 50 (nI (213))) 51 (nI (214))) 52 (nI (215))) := by rw [eg53, zrM_ne (by decide), r162]
  refine J_putFR (t := 216) hS (by rw [hG.2.1]; exact hnm) dX8_init_230 ffX8_99 (Or.inr ⟨_, rfl⟩) ⟨hb, lg_o ob162.2⟩ rfl (by omega) (by omega) (fun g54 eg54 => ?_)
  have hcl := Cl.putR (k := 53) (t := 216) hcl (lg_o ob162.2) rfl m_216 (by omega)
  rw [← eg54] at hcl
  have r162 : g54 162 = (upd (upd (upd (upd (upd (upd (upd (upd (upd (upd (upd (upd (upd (upd (upd (upd (upd (upd (upd (upd (upd (upd (upd (upd (upd (upd (upd (upd (upd (fun _ => 0) 1 (nI (164))) 2 (nI (165))) 3 (nI (164))) 12 ((-1))) 13 (nI (176))) 14 (nI (177))) 15 (nI (178))) 16 (nI (179))) 17 (nI (180))) 18 (nI (181))) 19 (nI (182))) 20 (nI (183))) 27 ((-1))) 28 (nI (191))) 34 (nI (197))) 35 (nI (198))) 36 (nI (199))) 38 (nI (201))) 39 (nI (202))) 40 (nI (203))) 42 (nI (205))) 46 ((-1))) 47 (nI (210))) 48 (nI (211))) 49 (nI (212))) 50 (nI (213))) 51 (nI (214))) 52 (nI (215))) 53 (nI (216))) := by rw [eg54, u2_row, r162]
  refine J_aload_n hS dX8_init_233 rfl ?_
  refine J_sipush (v := 13856) hS dX8_init_234 (by decide) ?_
  refine J_newA hG hcl (218) (ni_a (ni_a (ni_a (ni_a (ni_a (ni_a (ni_a (ni_a (ni_a (ni_a (ni_a (ni_a (ni_a (ni_a (ni_a (ni_a (ni_a (ni_a (ni_a (ni_a (ni_a (ni_a (ni_a (ni_a (ni_a (hN 218 (by decide) (by decide)) (by decide)) (by decide)) (by decide)) (by decide)) (by decide)) (by decide)) (by decide)) (by decide)) (by decide)) (by decide)) (by decide)) (by decide)) (by decide)) (by decide)) (by decide)) (by decide)) (by decide)) (by decide)) (by decide)) (by decide)) (by decide)) (by decide)) (by decide)) (by decide)) (by decide)) (by omega) dX8_init_237 rfl ac_I (lg_r (show Ar lay NC .int 218 13856 from arM 55 13856 (by decide) (by decide) rfl)) (Or.inl ⟨rfl, Or.inl rfl⟩) (by decide) (by decide) (by decide) (rl_c (v := .ref (162)) hb (rl_n rl_0)) (rn_c (v := .ref (162)) hb rn_0) (by decide) (by decide) (fun S E hG hcl => ?_)
  have hS := hG.1
  obtain ⟨g55, eg55⟩ : ∃ x : Mm, x = zrM g54 (218) := ⟨_, rfl⟩
  rw [← eg55] at hcl ⊢
  have hb := mi_a (x := 218) hb
  have m_164 := mi_a (x := 218) m_164
  have m_165 := mi_a (x := 218) m_165
  have m_176 := mi_a (x := 218) m_176
  have m_177 := mi_a (x := 218) m_177
  have m_178 := mi_a (x := 218) m_178
  have m_179 := mi_a (x := 218) m_179
  have m_180 := mi_a (x := 218) m_180
  have m_181 := mi_a (x := 218) m_181
  have m_182 := mi_a (x := 218) m_182
  have m_183 := mi_a (x := 218) m_183
  have m_191 := mi_a (x := 218) m_191
  have m_197 := mi_a (x := 218) m_197
  have m_198 := mi_a (x := 218) m_198
  have m_199 := mi_a (x := 218) m_199
  have m_201 := mi_a (x := 218) m_201
  have m_202 := mi_a (x := 218) m_202
  have m_203 := mi_a (x := 218) m_203
  have m_205 := mi_a (x := 218) m_205
  have m_210 := mi_a (x := 218) m_210
  have m_211 := mi_a (x := 218) m_211
  have m_212 := mi_a (x := 218) m_212
  have m_213 := mi_a (x := 218) m_213
  have m_214 := mi_a (x := 218) m_214
  have m_215 := mi_a (x := 218) m_215
  have m_216 := mi_a (x := 218) m_216
  have m_218 := mi_s (x := 218) (N := (((((((((((((((((((((((((N ++ [164]) ++ [165]) ++ [176]) ++ [177]) ++ [178]) ++ [179]) ++ [180]) ++ [181]) ++ [182]) ++ [183]) ++ [191]) ++ [197]) ++ [198]) ++ [199]) ++ [201]) ++ [202]) ++ [203]) ++ [205]) ++ [210]) ++ [211]) ++ [212]) ++ [213]) ++ [214]) ++ [215]) ++ [216]))
  have r162 : g55 162 = (upd (upd (upd (upd (upd (upd (upd (upd (upd (upd (upd (upd (upd (upd (upd (upd (upd (upd (upd (upd (upd (upd (upd (upd (upd (upd (upd (upd (upd (fun _ => 0) 1 (nI (164))) 2 (nI (165))) 3 (nI (164))) 12 ((-1))) 13 (nI (176))) 14 (nI (177))) 15 (nI (178))) 16 (nI (179))) 17 (nI (180))) 18 (nI (181))) 19 (nI (182))) 20 (nI (183))) 27 ((-1))) 28 (nI (191))) 34 (nI (197))) 35 (nI (198))) 36 (nI (199))) 38 (nI (201))) 39 (nI (202))) 40 (nI (203))) 42 (nI (205))) 46 ((-1))) 47 (nI (210))) 48 (nI (211))) 49 (nI (212))) 50 (nI (213))) 51 (nI (214))) 52 (nI (215))) 53 (nI (216))) := by rw [eg55, zrM_ne (by decide), r162]
  refine J_putFR (t := 218) hS (by rw [hG.2.1]; exact hnm) dX8_init_239 ffX8_102 (Or.inr ⟨_, rfl⟩) ⟨hb, lg_o ob162.2⟩ rfl (by omega) (by omega) (fun g56 eg56 => ?_)
  have hcl := Cl.putR (k := 55) (t := 218) hcl (lg_o ob162.2) rfl m_218 (by omega)
  rw [← eg56] at hcl
  have r162 : g56 162 = (upd (upd (upd (upd (upd (upd (upd (upd (upd (upd (upd (upd (upd (upd (upd (upd (upd (upd (upd (upd (upd (upd (upd (upd (upd (upd (upd (upd (upd (upd (fun _ => 0) 1 (nI (164))) 2 (nI (165))) 3 (nI (164))) 12 ((-1))) 13 (nI (176))) 14 (nI (177))) 15 (nI (178))) 16 (nI (179))) 17 (nI (180))) 18 (nI (181))) 19 (nI (182))) 20 (nI (183))) 27 ((-1))) 28 (nI (191))) 34 (nI (197))) 35 (nI (198))) 36 (nI (199))) 38 (nI (201))) 39 (nI (202))) 40 (nI (203))) 42 (nI (205))) 46 ((-1))) 47 (nI (210))) 48 (nI (211))) 49 (nI (212))) 50 (nI (213))) 51 (nI (214))) 52 (nI (215))) 53 (nI (216))) 55 (nI (218))) := by rw [eg56, u2_row, r162]
  refine J_aload_n hS dX8_init_242 rfl ?_
  refine J_getD hS dX8_init_243 flX8_13 ⟨hb, lg_o ob162.2⟩ rfl (v := .ref 164) (by rw [show g56 162 1 = nI 164 by rw [r162]; rfl]; exact ab2 (by decide) (by decide)) ?_
  refine J_iconst (v := 0) hS dX8_init_246 (by decide) ?_
  refine J_iconst (v := 1) hS dX8_init_247 (by decide) ?_
  refine J_iast hS dX8_init_248 ⟨m_164, _, lg_r (show Ar lay NC .int 164 3464 from arM 1 3464 (by decide) (by decide) rfl), rfl⟩ (by unfold vp_in; decide) (fun g57 eg57 => ?_)
  have hcl := Cl.putA (k := (0 : Int32).toNatClampNeg) (v := 1) hcl (lg_r (show Ar lay NC .int 164 3464 from arM 1 3464 (by decide) (by decide) rfl)) rfl
  rw [← eg57] at hcl
  have r162 : g57 162 = (upd (upd (upd (upd (upd (upd (upd (upd (upd (upd (upd (upd (upd (upd (upd (upd (upd (upd (upd (upd (upd (upd (upd (upd (upd (upd (upd (upd (upd (upd (fun _ => 0) 1 (nI (164))) 2 (nI (165))) 3 (nI (164))) 12 ((-1))) 13 (nI (176))) 14 (nI (177))) 15 (nI (178))) 16 (nI (179))) 17 (nI (180))) 18 (nI (181))) 19 (nI (182))) 20 (nI (183))) 27 ((-1))) 28 (nI (191))) 34 (nI (197))) 35 (nI (198))) 36 (nI (199))) 38 (nI (201))) 39 (nI (202))) 40 (nI (203))) 42 (nI (205))) 46 ((-1))) 47 (nI (210))) 48 (nI (211))) 49 (nI (212))) 50 (nI (213))) 51 (nI (214))) 52 (nI (215))) 53 (nI (216))) 55 (nI (218))) := by rw [eg57, u2_ne _ (by decide), r162]
  refine J_aload_n hS dX8_init_249 rfl ?_
  refine J_getD hS dX8_init_250 flX8_13 ⟨hb, lg_o ob162.2⟩ rfl (v := .ref 164) (by rw [show g57 162 1 = nI 164 by rw [r162]; rfl]; exact ab2 (by decide) (by decide)) ?_
  refine J_iconst (v := 1) hS dX8_init_253 (by decide) ?_
  refine J_iconst (v := 1) hS dX8_init_254 (by decide) ?_
  refine J_iast hS dX8_init_255 ⟨m_164, _, lg_r (show Ar lay NC .int 164 3464 from arM 1 3464 (by decide) (by decide) rfl), rfl⟩ (by unfold vp_in; decide) (fun g58 eg58 => ?_)
  have hcl := Cl.putA (k := (1 : Int32).toNatClampNeg) (v := 1) hcl (lg_r (show Ar lay NC .int 164 3464 from arM 1 3464 (by decide) (by decide) rfl)) rfl
  rw [← eg58] at hcl
  have r162 : g58 162 = (upd (upd (upd (upd (upd (upd (upd (upd (upd (upd (upd (upd (upd (upd (upd (upd (upd (upd (upd (upd (upd (upd (upd (upd (upd (upd (upd (upd (upd (upd (fun _ => 0) 1 (nI (164))) 2 (nI (165))) 3 (nI (164))) 12 ((-1))) 13 (nI (176))) 14 (nI (177))) 15 (nI (178))) 16 (nI (179))) 17 (nI (180))) 18 (nI (181))) 19 (nI (182))) 20 (nI (183))) 27 ((-1))) 28 (nI (191))) 34 (nI (197))) 35 (nI (198))) 36 (nI (199))) 38 (nI (201))) 39 (nI (202))) 40 (nI (203))) 42 (nI (205))) 46 ((-1))) 47 (nI (210))) 48 (nI (211))) 49 (nI (212))) 50 (nI (213))) 51 (nI (214))) 52 (nI (215))) 53 (nI (216))) 55 (nI (218))) := by rw [eg58, u2_ne _ (by decide), r162]
  refine J_aload_n hS dX8_init_256 rfl ?_
  refine J_getD hS dX8_init_257 flX8_13 ⟨hb, lg_o ob162.2⟩ rfl (v := .ref 164) (by rw [show g58 162 1 = nI 164 by rw [r162]; rfl]; exact ab2 (by decide) (by decide)) ?_
  refine J_iconst (v := 3) hS dX8_init_260 (by decide) ?_
  refine J_sipush (v := 1000) hS dX8_init_261 (by decide) ?_
  refine J_iast hS dX8_init_264 ⟨m_164, _, lg_r (show Ar lay NC .int 164 3464 from arM 1 3464 (by decide) (by decide) rfl), rfl⟩ (by unfold vp_in; decide) (fun g59 eg59 => ?_)
  have hcl := Cl.putA (k := (3 : Int32).toNatClampNeg) (v := 1000) hcl (lg_r (show Ar lay NC .int 164 3464 from arM 1 3464 (by decide) (by decide) rfl)) rfl
  rw [← eg59] at hcl
  have r162 : g59 162 = (upd (upd (upd (upd (upd (upd (upd (upd (upd (upd (upd (upd (upd (upd (upd (upd (upd (upd (upd (upd (upd (upd (upd (upd (upd (upd (upd (upd (upd (upd (fun _ => 0) 1 (nI (164))) 2 (nI (165))) 3 (nI (164))) 12 ((-1))) 13 (nI (176))) 14 (nI (177))) 15 (nI (178))) 16 (nI (179))) 17 (nI (180))) 18 (nI (181))) 19 (nI (182))) 20 (nI (183))) 27 ((-1))) 28 (nI (191))) 34 (nI (197))) 35 (nI (198))) 36 (nI (199))) 38 (nI (201))) 39 (nI (202))) 40 (nI (203))) 42 (nI (205))) 46 ((-1))) 47 (nI (210))) 48 (nI (211))) 49 (nI (212))) 50 (nI (213))) 51 (nI (214))) 52 (nI (215))) 53 (nI (216))) 55 (nI (218))) := by rw [eg59, u2_ne _ (by decide), r162]
  refine J_aload_n hS dX8_init_265 rfl ?_
  refine J_getD hS dX8_init_266 flX8_13 ⟨hb, lg_o ob162.2⟩ rfl (v := .ref 164) (by rw [show g59 162 1 = nI 164 by rw [r162]; rfl]; exact ab2 (by decide) (by decide)) ?_
  refine J_iconst (v := 4) hS dX8_init_269 (by decide) ?_
  refine J_bipush (v := 50) hS dX8_init_270 (by decide) ?_
  refine J_iast hS dX8_init_272 ⟨m_164, _, lg_r (show Ar lay NC .int 164 3464 from arM 1 3464 (by decide) (by decide) rfl), rfl⟩ (by unfold vp_in; decide) (fun g60 eg60 => ?_)
  have hcl := Cl.putA (k := (4 : Int32).toNatClampNeg) (v := 50) hcl (lg_r (show Ar lay NC .int 164 3464 from arM 1 3464 (by decide) (by decide) rfl)) rfl
  rw [← eg60] at hcl
  have r162 : g60 162 = (upd (upd (upd (upd (upd (upd (upd (upd (upd (upd (upd (upd (upd (upd (upd (upd (upd (upd (upd (upd (upd (upd (upd (upd (upd (upd (upd (upd (upd (upd (fun _ => 0) 1 (nI (164))) 2 (nI (165))) 3 (nI (164))) 12 ((-1))) 13 (nI (176))) 14 (nI (177))) 15 (nI (178))) 16 (nI (179))) 17 (nI (180))) 18 (nI (181))) 19 (nI (182))) 20 (nI (183))) 27 ((-1))) 28 (nI (191))) 34 (nI (197))) 35 (nI (198))) 36 (nI (199))) 38 (nI (201))) 39 (nI (202))) 40 (nI (203))) 42 (nI (205))) 46 ((-1))) 47 (nI (210))) 48 (nI (211))) 49 (nI (212))) 50 (nI (213))) 51 (nI (214))) 52 (nI (215))) 53 (nI (216))) 55 (nI (218))) := by rw [eg60, u2_ne _ (by decide), r162]
  refine J_aload_n hS dX8_init_273 rfl ?_
  refine J_getD hS dX8_init_274 flX8_13 ⟨hb, lg_o ob162.2⟩ rfl (v := .ref 164) (by rw [show g60 162 1 = nI 164 by rw [r162]; rfl]; exact ab2 (by decide) (by decide)) ?_
  refine J_iconst (v := 5) hS dX8_init_277 (by decide) ?_
  refine J_iconst (v := (-1)) hS dX8_init_278 (by decide) ?_
  refine J_iast hS dX8_init_279 ⟨m_164, _, lg_r (show Ar lay NC .int 164 3464 from arM 1 3464 (by decide) (by decide) rfl), rfl⟩ (by unfold vp_in; decide) (fun g61 eg61 => ?_)
  have hcl := Cl.putA (k := (5 : Int32).toNatClampNeg) (v := (-1)) hcl (lg_r (show Ar lay NC .int 164 3464 from arM 1 3464 (by decide) (by decide) rfl)) rfl
  rw [← eg61] at hcl
  have r162 : g61 162 = (upd (upd (upd (upd (upd (upd (upd (upd (upd (upd (upd (upd (upd (upd (upd (upd (upd (upd (upd (upd (upd (upd (upd (upd (upd (upd (upd (upd (upd (upd (fun _ => 0) 1 (nI (164))) 2 (nI (165))) 3 (nI (164))) 12 ((-1))) 13 (nI (176))) 14 (nI (177))) 15 (nI (178))) 16 (nI (179))) 17 (nI (180))) 18 (nI (181))) 19 (nI (182))) 20 (nI (183))) 27 ((-1))) 28 (nI (191))) 34 (nI (197))) 35 (nI (198))) 36 (nI (199))) 38 (nI (201))) 39 (nI (202))) 40 (nI (203))) 42 (nI (205))) 46 ((-1))) 47 (nI (210))) 48 (nI (211))) 49 (nI (212))) 50 (nI (213))) 51 (nI (214))) 52 (nI (215))) 53 (nI (216))) 55 (nI (218))) := by rw [eg61, u2_ne _ (by decide), r162]
  have EG : g61 = mIni g := by rw [eg61, eg60, eg59, eg58, eg57, eg56, eg55, eg54, eg53, eg52, eg51, eg50, eg49, eg48, eg47, eg46, eg45, eg44, eg43, eg42, eg41, eg40, eg39, eg38, eg37, eg36, eg35, eg34, eg33, eg32, eg31, eg30, eg29, eg28, eg27, eg26, eg25, eg24, eg23, eg22, eg21, eg20, eg19, eg18, eg17, eg16, eg15, eg14, eg13, eg12, eg11, eg10, eg9, eg8, eg7, eg6, eg5, eg4, eg3, eg2, eg1]; rfl
  have h39 : g61 162 39 = nI 202 := by rw [r162]; rfl
  have h40 : g61 162 40 = nI 203 := by rw [r162]; rfl
  have rest : ∀ c ∈ N, c ≠ 162 → g61 c = g c := fun c hc hcb => by rw [EG]; exact mIni_ne (fun h => by simp only [ordM, List.mem_cons, List.not_mem_nil, or_false] at h; rcases h with e | e | e | e | e | e | e | e | e | e | e | e | e | e | e | e | e | e | e | e | e | e | e | e | e | e <;> exact hN _ (by omega) (by omega) hc) hcb
  have z165 : g61 165 = fun _ => 0 := by rw [EG]; exact mIni_165
  have z176 : g61 176 = fun _ => 0 := by rw [EG]; exact mIni_176
  have z177 : g61 177 = fun _ => 0 := by rw [EG]; exact mIni_177
  have z178 : g61 178 = fun _ => 0 := by rw [EG]; exact mIni_178
  have z179 : g61 179 = fun _ => 0 := by rw [EG]; exact mIni_179
  have z180 : g61 180 = fun _ => 0 := by rw [EG]; exact mIni_180
  have z181 : g61 181 = fun _ => 0 := by rw [EG]; exact mIni_181
  have z182 : g61 182 = fun _ => 0 := by rw [EG]; exact mIni_182
  have z183 : g61 183 = fun _ => 0 := by rw [EG]; exact mIni_183
  have z191 : g61 191 = fun _ => 0 := by rw [EG]; exact mIni_191
  have z197 : g61 197 = fun _ => 0 := by rw [EG]; exact mIni_197
  have z198 : g61 198 = fun _ => 0 := by rw [EG]; exact mIni_198
  have z199 : g61 199 = fun _ => 0 := by rw [EG]; exact mIni_199
  have z201 : g61 201 = fun _ => 0 := by rw [EG]; exact mIni_201
  have z205 : g61 205 = fun _ => 0 := by rw [EG]; exact mIni_205
  have z210 : g61 210 = fun _ => 0 := by rw [EG]; exact mIni_210
  have z211 : g61 211 = fun _ => 0 := by rw [EG]; exact mIni_211
  have z212 : g61 212 = fun _ => 0 := by rw [EG]; exact mIni_212
  have z213 : g61 213 = fun _ => 0 := by rw [EG]; exact mIni_213
  have z214 : g61 214 = fun _ => 0 := by rw [EG]; exact mIni_214
  have z215 : g61 215 = fun _ => 0 := by rw [EG]; exact mIni_215
  have z216 : g61 216 = fun _ => 0 := by rw [EG]; exact mIni_216
  have z218 : g61 218 = fun _ => 0 := by rw [EG]; exact mIni_218
  have z164 : g61 164 = upd (upd (upd (upd (upd (fun _ => 0) 0 1) 1 1) 3 1000) 4 50) 5 (-1) := by rw [EG]; exact mIni_164
  have two : ∀ (GA : Mm), Cl layG ((((((((((((((((((((((((((N ++ [164]) ++ [165]) ++ [176]) ++ [177]) ++ [178]) ++ [179]) ++ [180]) ++ [181]) ++ [182]) ++ [183]) ++ [191]) ++ [197]) ++ [198]) ++ [199]) ++ [201]) ++ [202]) ++ [203]) ++ [205]) ++ [210]) ++ [211]) ++ [212]) ++ [213]) ++ [214]) ++ [215]) ++ [216]) ++ [218]) GA → (∀ c, c ≠ 202 → GA c = g61 c) → (∀ j, j < 12 → GA 202 j = -1) → J S 26 66250 GA 301 [some (.ref 162), some (.int (nI 12))] [] := by
    intro GA hclA hA hB
    have loop2 : ∀ r i (x : Int32) (G : Mm), i + r = 144 → x = nI i → Cl layG ((((((((((((((((((((((((((N ++ [164]) ++ [165]) ++ [176]) ++ [177]) ++ [178]) ++ [179]) ++ [180]) ++ [181]) ++ [182]) ++ [183]) ++ [191]) ++ [197]) ++ [198]) ++ [199]) ++ [201]) ++ [202]) ++ [203]) ++ [205]) ++ [210]) ++ [211]) ++ [212]) ++ [213]) ++ [214]) ++ [215]) ++ [216]) ++ [218]) G → (∀ c, c ≠ 203 → G c = GA c) → (∀ j, j < i → G 203 j = -1) → J S 26 66250 G 303 [some (.ref 162), some (.int x)] [] := by
      intro r
      induction r with
      | zero =>
        intro i x G hi ex hcl hG2 hG3
        refine J_iload_n hS dX8_init_303 rfl ?_
        refine J_sipush (v := 144) hS dX8_init_304 (by decide) ?_
        refine J_icmp_ge (tgt := 323) hS dX8_init_307 (by decide) (fun c => ?_) (fun c => ?_)
        · refine J_vretG hG hcl hZ hr dX8_init_323 (by decide) (by decide) ?_
          have b : ∀ c, c ≠ 202 → c ≠ 203 → G c = g61 c := fun c h1 h2 => (hG2 c h2).trans (hA c h1)
          refine ⟨by simp [ordM], fun c hc hcb => ?_, ⟨fun k hk => ?_, by rw [b 162 (by decide) (by decide), r162]; rfl, by rw [b 162 (by decide) (by decide), r162]; rfl, by rw [b 162 (by decide) (by decide), r162]; rfl, by rw [b 162 (by decide) (by decide), r162]; rfl, fun k hk => ?_⟩, by rw [b 164 (by decide) (by decide)]; exact z164, fun j hj => by rw [hG2 202 (by decide)]; exact hB j hj, fun j hj => hG3 j (by omega), by rw [b 165 (by decide) (by decide)]; exact z165, by rw [b 176 (by decide) (by decide)]; exact z176, by rw [b 177 (by decide) (by decide)]; exact z177, by rw [b 178 (by decide) (by decide)]; exact z178, by rw [b 179 (by decide) (by decide)]; exact z179, by rw [b 180 (by decide) (by decide)]; exact z180, by rw [b 181 (by decide) (by decide)]; exact z181, by rw [b 182 (by decide) (by decide)]; exact z182, by rw [b 183 (by decide) (by decide)]; exact z183, by rw [b 191 (by decide) (by decide)]; exact z191, by rw [b 197 (by decide) (by decide)]; exact z197, by rw [b 198 (by decide) (by decide)]; exact z198, by rw [b 199 (by decide) (by decide)]; exact z199, by rw [b 201 (by decide) (by decide)]; exact z201, by rw [b 205 (by decide) (by decide)]; exact z205, by rw [b 210 (by decide) (by decide)]; exact z210, by rw [b 211 (by decide) (by decide)]; exact z211, by rw [b 212 (by decide) (by decide)]; exact z212, by rw [b 213 (by decide) (by decide)]; exact z213, by rw [b 214 (by decide) (by decide)]; exact z214, by rw [b 215 (by decide) (by decide)]; exact z215, by rw [b 216 (by decide) (by decide)]; exact z216, by rw [b 218 (by decide) (by decide)]; exact z218⟩
          · have x202 : c ≠ 202 := fun e => hN 202 (by decide) (by decide) (by rw [← e]; exact hc)
            have x203 : c ≠ 203 := fun e => hN 203 (by decide) (by decide) (by rw [← e]; exact hc)
            rw [b c x202 x203]; exact rest c hc hcb
          · rw [b 162 (by decide) (by decide), r162]
            simp only [List.mem_cons, List.not_mem_nil, or_false] at hk
            rcases hk with e | e | e | e | e | e | e | e | e | e | e | e | e | e | e | e | e | e | e | e | e | e | e | e | e | e <;> subst e <;> rfl
          · rw [b 162 (by decide) (by decide), r162]
            simp only [List.mem_cons, List.not_mem_nil, or_false] at hk
            rcases hk with e | e | e | e | e | e | e | e | e | e | e | e | e | e | e | e | e | e | e | e | e | e | e | e | e | e <;> subst e <;> rfl
        · exfalso; apply c; rw [ex, show i = 144 by omega]; decide
      | succ r ih =>
        intro i x G hi ex hcl hG2 hG3
        refine J_iload_n hS dX8_init_303 rfl ?_
        refine J_sipush (v := 144) hS dX8_init_304 (by decide) ?_
        refine J_icmp_ge (tgt := 323) hS dX8_init_307 (by decide) (fun c => ?_) (fun c => ?_)
        · exfalso
          rw [ex, show (144 : Int32) = nI 144 from rfl] at c
          have := (nI_leI (by omega) (by omega)).mp c
          omega
        · refine J_aload_n hS dX8_init_310 rfl ?_
          refine J_getD hS dX8_init_311 flX8_71 ⟨hb, lg_o ob162.2⟩ rfl (v := .ref 203) (by rw [hG2 162 (by decide), hA 162 (by decide), h40]; exact ab2 (by decide) (by decide)) ?_
          refine J_iload_n hS dX8_init_314 rfl ?_
          refine J_iconst (v := (-1)) hS dX8_init_315 (by decide) ?_
          have ec : x.toNatClampNeg = i := by rw [ex, nI_clamp (by omega)]
          refine J_iast hS dX8_init_316 ⟨m_203, _, lg_r (show Ar lay NC .int 203 144 from arM 40 144 (by decide) (by decide) rfl), rfl⟩ (vpi i ex (by omega) (by decide)) (fun G2 eG2 => ?_)
          have hcl := Cl.putA (k := x.toNatClampNeg) (v := -1) hcl (lg_r (show Ar lay NC .int 203 144 from arM 40 144 (by decide) (by decide) rfl)) rfl
          rw [← eG2] at hcl
          refine J_iinc (lt := fun z => [some (.ref 162), some (.int z)]) (v := 1) hS dX8_init_317 rfl (by decide) (fun _ => rfl) (fun z ez => ?_)
          refine J_goto (tgt := 303) hS dX8_init_320 (by decide) ?_
          refine ih (i + 1) z G2 (by omega) (by rw [ez, ex, show (1 : Int32) = nI 1 from rfl, nI_add]) hcl (fun c hc => by rw [eG2, u2_ne c hc]; exact hG2 c hc) (fun j hj => ?_)
          rw [eG2, ec, u2_row]
          by_cases e : j = i
          · subst e; simp [upd]
          · simp only [upd, if_neg e]; exact hG3 j (by omega)
    refine J_iconst (v := 0) hS dX8_init_301 (by decide) ?_
    refine J_istore_n (lt := fun x => [some (.ref 162), some (.int x)]) hS dX8_init_302 (Nat.le_of_ble_eq_true rfl) (fun _ => rfl) (fun x ex => ?_)
    exact loop2 144 0 x GA (by omega) ex hclA (fun _ _ => rfl) (fun j hj => absurd hj (by omega))
  have loop1 : ∀ r i (x : Int32) (G : Mm), i + r = 12 → x = nI i → Cl layG ((((((((((((((((((((((((((N ++ [164]) ++ [165]) ++ [176]) ++ [177]) ++ [178]) ++ [179]) ++ [180]) ++ [181]) ++ [182]) ++ [183]) ++ [191]) ++ [197]) ++ [198]) ++ [199]) ++ [201]) ++ [202]) ++ [203]) ++ [205]) ++ [210]) ++ [211]) ++ [212]) ++ [213]) ++ [214]) ++ [215]) ++ [216]) ++ [218]) G → (∀ c, c ≠ 202 → G c = g61 c) → (∀ j, j < i → G 202 j = -1) → J S 26 66250 G 282 [some (.ref 162), some (.int x)] [] := by
    intro r
    induction r with
    | zero =>
      intro i x G hi ex hcl hG2 hG3
      refine J_iload_n hS dX8_init_282 rfl ?_
      refine J_bipush (v := 12) hS dX8_init_283 (by decide) ?_
      refine J_icmp_ge (tgt := 301) hS dX8_init_285 (by decide) (fun c => ?_) (fun c => ?_)
      · have ei : x = nI 12 := by rw [ex, show i = 12 by omega]
        rw [ei]
        exact two G hcl hG2 (fun j hj => hG3 j (by omega))
      · exfalso; apply c; rw [ex, show i = 12 by omega]; decide
    | succ r ih =>
      intro i x G hi ex hcl hG2 hG3
      refine J_iload_n hS dX8_init_282 rfl ?_
      refine J_bipush (v := 12) hS dX8_init_283 (by decide) ?_
      refine J_icmp_ge (tgt := 301) hS dX8_init_285 (by decide) (fun c => ?_) (fun c => ?_)
      · exfalso
        rw [ex, show (12 : Int32) = nI 12 from rfl] at c
        have := (nI_leI (by omega) (by omega)).mp c
        omega
      · refine J_aload_n hS dX8_init_288 rfl ?_
        refine J_getD hS dX8_init_289 flX8_68 ⟨hb, lg_o ob162.2⟩ rfl (v := .ref 202) (by rw [hG2 162 (by decide), h39]; exact ab2 (by decide) (by decide)) ?_
        refine J_iload_n hS dX8_init_292 rfl ?_
        refine J_iconst (v := (-1)) hS dX8_init_293 (by decide) ?_
        have ec : x.toNatClampNeg = i := by rw [ex, nI_clamp (by omega)]
        refine J_iast hS dX8_init_294 ⟨m_202, _, lg_r (show Ar lay NC .int 202 12 from arM 39 12 (by decide) (by decide) rfl), rfl⟩ (vpi i ex (by omega) (by decide)) (fun G2 eG2 => ?_)
        have hcl := Cl.putA (k := x.toNatClampNeg) (v := -1) hcl (lg_r (show Ar lay NC .int 202 12 from arM 39 12 (by decide) (by decide) rfl)) rfl
        rw [← eG2] at hcl
        refine J_iinc (lt := fun z => [some (.ref 162), some (.int z)]) (v := 1) hS dX8_init_295 rfl (by decide) (fun _ => rfl) (fun z ez => ?_)
        refine J_goto (tgt := 282) hS dX8_init_298 (by decide) ?_
        refine ih (i + 1) z G2 (by omega) (by rw [ez, ex, show (1 : Int32) = nI 1 from rfl, nI_add]) hcl (fun c hc => by rw [eG2, u2_ne c hc]; exact hG2 c hc) (fun j hj => ?_)
        rw [eG2, ec, u2_row]
        by_cases e : j = i
        · subst e; simp [upd]
        · simp only [upd, if_neg e]; exact hG3 j (by omega)
  refine J_iconst (v := 0) hS dX8_init_280 (by decide) ?_
  refine J_istore_n (lt := fun x => [some (.ref 162), some (.int x)]) hS dX8_init_281 (Nat.le_of_ble_eq_true rfl) (fun _ => rfl) (fun x ex => ?_)
  exact loop1 12 0 x g61 (by omega) ex hcl (fun _ _ => rfl) (fun j hj => absurd hj (by omega))
end Ctors
