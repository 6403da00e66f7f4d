/-! Pictures of the cells: one world, each cell at its place. Class (0 to 51): 0 the object itself, 1 Symmetry, 2 its table, 3 its row, 4 CycleText, 5 parsed, 6 text, 7 ranks, 8 listed, 9 groups, 10 + 3 g the g-th Subgroup, 11 + 3 g its members, 12 + 3 g its generators (g = 12, 13: the spares). Reference: 52 the object, 53 images, 54 permutation, 55 set, 56 many, 57 generator, 58 found, 59 chars. -/
abbrev tys_ (ca : Nat → ClassId) : List (ClassId × FieldType) := [(ca 0, .byte), (ca 1, .int), (ca 2, .long), (ca 3, .char), (ca 4, .object "MotionGroups$Subgroup")]
theorem nb_p1 (k : Nat) : nI k + Int32.ofInt 1 = nI (k + 1) := by
  have e : Int32.ofInt 1 = (1 : Int32) := by decide
  rw [e]; exact nI_1 k
theorem nb_m1 {k : Nat} (h : 0 < k) : nI k + Int32.ofInt (-1) = nI (k - 1) := by
  have e : Int32.ofInt (-1) = (-1 : Int32) := by decide
  rw [e]; exact sb_m1 h
theorem pm_un1 {u f k y : Nat} (h : u.testBit y = true) : pm_un u (f + 1) k y = pm_un u f k (y + 1) := by
  show (if u.testBit y = true then _ else _) = _
  rw [if_pos h]
theorem pm_un2 {u f y : Nat} (h : u.testBit y = false) : pm_un u (f + 1) 0 y = y := by
  show (if u.testBit y = true then _ else if (0 : Nat) = 0 then y else _) = y
  rw [if_neg (by rw [h]; decide), if_pos rfl]
theorem pm_un3 {u f k y : Nat} (h : u.testBit y = false) (hk : k ≠ 0) : pm_un u (f + 1) k y = pm_un u f (k - 1) (y + 1) := by
  show (if u.testBit y = true then _ else if k = 0 then y else _) = _
  rw [if_neg (by rw [h]; decide), if_neg hk]
theorem nb_t1 {a k : Nat} (h : a / 2 ^ k % 2 ≠ 0) : a.testBit k = true := nb_tb1.mp (by omega)
theorem nb_t0 {a k : Nat} (h : a / 2 ^ k % 2 = 0) : a.testBit k = false := nb_tb0.mp h
theorem pm_ix {r N x n : Nat} (hr : r < N) (hx : x < n) : r * n + x < N * n := by
  have h := Nat.mul_le_mul_right n hr
  rw [Nat.succ_mul] at h
  omega
theorem pm_nn {n : Nat} (h6 : n ≤ 6) : pm_fc n * n ≤ 4320 := by
  have h1 := pm_fc_le h6
  have h2 := Nat.mul_le_mul h1 h6
  omega
/-- Symmetry as it stands behind its making -/
def sy_ok (ca : Nat → ClassId) (ad : Nat → Nat) (n : Nat) (ws : va_W) : Prop := ws[1]? = some (ad 1, .inr (1, [.int (nI n), .int (nI (pm_fc n)), .ref (ad 2), .ref (ad 3)])) ∧ (∃ t : Nat → Int32, ws[2]? = some (ad 2, .inl (ca 0, pm_fc n * n, .inl t)) ∧ ∀ r x, r < pm_fc n → x < n → t (r * n + x) = nI (pm_im n r x)) ∧ ∃ f : Nat → Int32, ws[3]? = some (ad 3, .inl (ca 1, n, .inl f))
theorem sy_fr {ca : Nat → ClassId} {ad : Nat → Nat} {n : Nat} {ws w : va_W} (h1 : w[1]? = ws[1]?) (h2 : w[2]? = ws[2]?) (h3 : w[3]? = ws[3]?) (h : sy_ok ca ad n ws) : sy_ok ca ad n w := by
  unfold sy_ok
  rw [h1, h2, h3]
  exact h
theorem sy_row {ca : Nat → ClassId} {ad : Nat → Nat} {n : Nat} {ws w : va_W} {f : Nat → Int32} (h1 : w[1]? = ws[1]?) (h2 : w[2]? = ws[2]?) (h3 : w[3]? = some (ad 3, .inl (ca 1, n, .inl f))) (h : sy_ok ca ad n ws) : sy_ok ca ad n w := by
  unfold sy_ok
  rw [h1, h2]
  exact ⟨h.1, h.2.1, f, h3⟩
