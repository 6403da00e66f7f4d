/-! Numbers for the reference's walks -/
/-- the reference's search for a point -/
def mo_w (u n : Nat) : Nat → Nat → Nat → Nat
  | 0, _, y => y
  | f + 1, left, y => if y < n - 1 ∧ (0 < left ∨ u.testBit y = true) then mo_w u n f (if u.testBit y = true then left else left - 1) (y + 1) else y
theorem mo_w1 {u n f left y : Nat} (h1 : y < n - 1) (h2 : 0 < left ∨ u.testBit y = true) : mo_w u n (f + 1) left y = mo_w u n f (if u.testBit y = true then left else left - 1) (y + 1) := if_pos ⟨h1, h2⟩
theorem mo_w0 {u n f left y : Nat} (h : ¬ (y < n - 1 ∧ (0 < left ∨ u.testBit y = true))) : mo_w u n (f + 1) left y = y := if_neg h
def mo_okA (n : Nat) : Bool := (List.range (pm_fc n)).all (fun r => (List.range n).all (fun x => decide (mo_w (pm_us n r x) n n (pm_dg n r x) 0 = pm_im n r x)))
theorem mo_D2 : mo_okA 2 = true := by decide +kernel
theorem mo_D3 : mo_okA 3 = true := by decide +kernel
theorem mo_D4 : mo_okA 4 = true := by decide +kernel
theorem mo_D5 : mo_okA 5 = true := by decide +kernel
theorem mo_D6 : mo_okA 6 = true := by decide +kernel
theorem mo_im {n r x : Nat} (h2 : 2 ≤ n) (h6 : n ≤ 6) (hr : r < pm_fc n) (hx : x < n) : mo_w (pm_us n r x) n n (pm_dg n r x) 0 = pm_im n r x := by
  have key : mo_okA n = true := by
    have h : n = 2 ∨ n = 3 ∨ n = 4 ∨ n = 5 ∨ n = 6 := by omega
    rcases h with h | h | h | h | h <;> subst h
    · exact mo_D2
    · exact mo_D3
    · exact mo_D4
    · exact mo_D5
    · exact mo_D6
  exact of_decide_eq_true (List.all_eq_true.mp (List.all_eq_true.mp key r (List.mem_range.mpr hr)) x (List.mem_range.mpr hx))
theorem mo_fc {n x : Nat} (hx : x < n) : pm_fc (n - x) = (n - x) * pm_fc (n - 1 - x) := by
  obtain ⟨k, hk⟩ : ∃ k, n - x = k + 1 := ⟨n - x - 1, by omega⟩
  rw [hk, show n - 1 - x = k by omega]
  rfl
theorem mo_blk {n x : Nat} (hx : x < n) : pm_fc (n - x) / (n - x) = pm_fc (n - (x + 1)) := by
  rw [mo_fc hx, Nat.mul_div_cancel_left _ (by omega), show n - 1 - x = n - (x + 1) by omega]
theorem mo_lft {n r x : Nat} (hx : x < n) : r % pm_fc (n - x) / pm_fc (n - (x + 1)) = pm_dg n r x := by
  rw [mo_fc hx, show n - (x + 1) = n - 1 - x by omega, Nat.mod_mul_left_div_self]
  rfl
theorem mo_rst {n r x : Nat} (hx : x < n) : r % pm_fc (n - x) % pm_fc (n - (x + 1)) = r % pm_fc (n - (x + 1)) := by
  rw [mo_fc hx, show n - (x + 1) = n - 1 - x by omega, Nat.mod_mul_left_mod]
theorem mo_sh {y x : Nat} (hy : y < 8) (hx : x < 6) : y * 2 ^ (3 * x) < 2 ^ 32 := by
  have h : 2 ^ (3 * x) ≤ 2 ^ 15 := Nat.pow_le_pow_right (by decide) (by omega)
  have h1 : y * 2 ^ (3 * x) ≤ 7 * 2 ^ 15 := Nat.mul_le_mul (by omega) h
  have h2 : (7 : Nat) * 2 ^ 15 < 2 ^ 32 := by decide
  omega
theorem mo_qlt {f : Nat → Nat} {n : Nat} (h6 : n ≤ 6) (h : ∀ x, x < n → f x < 8) : qk_p f n < 2 ^ 31 := by
  have h1 := qk_lt h
  have h2 : 2 ^ (3 * n) ≤ 2 ^ 18 := Nat.pow_le_pow_right (by decide) (by omega)
  have h3 : (2 : Nat) ^ 18 < 2 ^ 31 := by decide
  omega
/-- the reference's packed inverse -/
def mo_qi (n a : Nat) : Nat → Nat
  | 0 => 0
  | x + 1 => mo_qi n a x ||| x * 2 ^ (3 * pm_im n a x)
theorem mo_qi_lt {n a : Nat} (h2 : 2 ≤ n) (h6 : n ≤ 6) (ha : a < pm_fc n) : ∀ x, x ≤ n → mo_qi n a x < 2 ^ 31
  | 0, _ => by show 0 < 2 ^ 31; decide
  | x + 1, h => by
    have h1 := pm_lt h2 h6 ha (x := x) (by omega)
    refine Nat.or_lt_two_pow (mo_qi_lt h2 h6 ha x (by omega)) ?_
    have h3 : 2 ^ (3 * pm_im n a x) ≤ 2 ^ 15 := Nat.pow_le_pow_right (by decide) (by omega)
    have h4 : x * 2 ^ (3 * pm_im n a x) ≤ 7 * 2 ^ 15 := Nat.mul_le_mul (by omega) h3
    have h5 : (7 : Nat) * 2 ^ 15 < 2 ^ 31 := by decide
    omega
theorem mo_qi_dig {n a y : Nat} (h2 : 2 ≤ n) (h6 : n ≤ 6) (ha : a < pm_fc n) (hy : y < n) : ∀ k, k ≤ n → mo_qi n a k / 2 ^ (3 * y) % 8 = if pm_ii n a y < k then pm_ii n a y else 0
  | 0, _ => by
    rw [if_neg (by omega)]
    show 0 / _ % 8 = 0
    rw [Nat.zero_div]
  | k + 1, h => by
    show (mo_qi n a k ||| k * 2 ^ (3 * pm_im n a k)) / _ % 8 = _
    rw [qk_or (by omega), mo_qi_dig h2 h6 ha hy k (by omega)]
    by_cases e : y = pm_im n a k
    · have e1 : pm_ii n a y = k := by rw [e]; exact pm_ii_im h2 h6 ha (by omega)
      rw [if_pos e, e1, if_neg (by omega), if_pos (by omega), Nat.zero_or]
    · have e1 : pm_ii n a y ≠ k := fun q => e (by rw [← q, pm_im_ii h2 h6 ha hy])
      rw [if_neg e, Nat.or_zero]
      by_cases e2 : pm_ii n a y < k
      · rw [if_pos e2, if_pos (by omega)]
      · rw [if_neg e2, if_neg (by omega)]
theorem mo_and7 (a : Nat) : a &&& 7 = a % 8 := Nat.and_two_pow_sub_one_eq_mod a 3
theorem mo_hi1 {x : Int32} {k : Nat} (hk : k < 2 ^ 30) (h : nI k ≤ x) : nI k - nI 1 < x := by
  rw [Int32.lt_iff_toInt_lt, pk_sub_toInt hk (by decide)]
  rw [Int32.le_iff_toInt_le, nI_toInt (by omega)] at h
  omega
theorem mo_hi0 {j k : Nat} (hk : k < 2 ^ 30) (h : j < k) : ¬ nI k - nI 1 < nI j := by
  rw [Int32.lt_iff_toInt_lt, pk_sub_toInt hk (by decide), nI_toInt (by omega)]
  omega
theorem mo_upd (st : Nat → Int64) (b a : Nat) (v : Int64) : (fun i => vp_updL st (b + a) v (b + i)) = vp_updL (fun i => st (b + i)) a v := by
  funext i
  unfold vp_updL
  by_cases e : i = a
  · rw [if_pos e, if_pos (by omega)]
  · rw [if_neg e, if_neg (by omega)]
/-- the g-th row of the reference's words is the set S -/
def mo_wd (st : Nat → Int64) (g : Nat) (S : Nat → Bool) : Prop := ∀ r, r < 768 → bw_t (fun i => st (12 * g + i)) r = S r
theorem mo_wd_fr {st st1 : Nat → Int64} {g : Nat} {S : Nat → Bool} (h : mo_wd st g S) (hf : ∀ i, i < 12 → st1 (12 * g + i) = st (12 * g + i)) : mo_wd st1 g S := fun r hr => by
  rw [← h r hr]
  unfold bw_t
  dsimp only
  rw [hf (r / 64) (by omega)]
theorem mo_hasE {st : Nat → Int64} {g r : Nat} {S : Nat → Bool} (h : mo_wd st g S) (hr : r < 768) : lg_cmp ((st (12 * g + r / 64) >>> ((nI (r % 64)).toInt64 &&& 63)) &&& 1) 1 = 0 ↔ S r = true := by
  rw [nb_cmp1, bw_hasM, h r hr]
def mo_g (n : Nat) (st : Nat → Int64) (my ge : Nat → Int32) (g : Nat) (S : Nat → Bool) (G : Nat → Nat) (k : Nat) : Prop := mo_wd st g S ∧ my g = nI k ∧ (∀ j, j < k → ge (20 * g + j) = nI (G j)) ∧ gp_gen (pm_fc n) (pm_mu n) (pm_iv n) G k (fun x => S x = true) ∧ 2 ^ k ≤ ma_cn S (pm_fc n)
