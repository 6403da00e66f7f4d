/-! Numbers for Symmetry's walks -/
theorem nb_dn0 {k : Nat} (hk : k < 2 ^ 31) (h : nI k - 1 < 0) : k = 0 := by
  rcases Nat.eq_zero_or_pos k with h1 | h1
  · exact h1
  · obtain ⟨j, rfl⟩ : ∃ j, k = j + 1 := ⟨k - 1, by omega⟩
    rw [nI_pred] at h
    exact absurd h (nI_pos (by omega))
theorem nb_dn1 {k : Nat} (hk : 0 < k) : nI k - 1 = nI (k - 1) := by
  obtain ⟨j, rfl⟩ : ∃ j, k = j + 1 := ⟨k - 1, by omega⟩
  exact nI_pred j
theorem nb_dnz (h : ¬ nI 0 - 1 < 0) : False := h (by decide)
theorem nb_dm (x : Int32) : x + Int32.ofInt (-1) = x - 1 := by
  have e : Int32.ofInt (-1) = (-1 : Int32) := by decide
  rw [e, Int32.sub_eq_add_neg]
theorem nb_ds (x : Int32) : x - nI 1 = x - 1 := by
  have e : nI 1 = (1 : Int32) := by decide
  rw [e]
theorem nb_b8 {p : Nat} (h : p < 128) : (nI p).toInt8.toInt32 = nI p := by
  have key : ∀ p, p < 128 → (nI p).toInt8.toInt32 = nI p := by decide +kernel
  exact key p h
theorem wi_1 {n r k : Nat} {f : Nat → Int32} (hk : 0 < k) (hkn : k ≤ n) (h : ∀ x, k ≤ x → x < n → f x = nI (pm_dg n r x)) : ∀ x, k - 1 ≤ x → x < n → upd f (k - 1) (nI (r / pm_fc (n - k) % (n - (k - 1)))) x = nI (pm_dg n r x) := by
  intro x h1 h2
  by_cases e : x = k - 1
  · subst e
    rw [pk_us]
    unfold pm_dg
    rw [show n - 1 - (k - 1) = n - k by omega]
  · rw [pk_un e]
    exact h x (by omega) h2
theorem wi_2 {n r k : Nat} (hk : 0 < k) (hkn : k ≤ n) : r / pm_fc (n - k) / (n - (k - 1)) = r / pm_fc (n - (k - 1)) := by
  rw [show n - (k - 1) = (n - k) + 1 by omega, Nat.div_div_eq_div_mul]
  congr 1
  exact Nat.mul_comm _ _
theorem pm_dg_lt {n r x : Nat} (hx : x < n) : pm_dg n r x < n := Nat.lt_of_lt_of_le (Nat.mod_lt _ (by omega)) (Nat.sub_le _ _)
theorem pm_us_lt {n r : Nat} (h2 : 2 ≤ n) (h6 : n ≤ 6) (hr : r < pm_fc n) : ∀ x, x ≤ n → pm_us n r x < 2 ^ n
  | 0, _ => Nat.two_pow_pos _
  | x + 1, h => nb_orlt (pm_us_lt h2 h6 hr x (by omega)) (pm_lt h2 h6 hr (by omega))
theorem pm_64 {n : Nat} (h6 : n ≤ 6) : 2 ^ n ≤ 64 := Nat.pow_le_pow_right (n := 2) (by decide) h6
theorem pm_us_64 {n r x : Nat} (h2 : 2 ≤ n) (h6 : n ≤ 6) (hr : r < pm_fc n) (hx : x ≤ n) : pm_us n r x < 64 := Nat.lt_of_lt_of_le (pm_us_lt h2 h6 hr x hx) (pm_64 h6)
theorem pm_ru_lt {n : Nat} {F : Nat → Nat} (hF : ∀ x, x < n → F x < n) : ∀ x, x ≤ n → pm_ru F x < 2 ^ n
  | 0, _ => Nat.two_pow_pos _
  | x + 1, h => nb_orlt (pm_ru_lt hF x (by omega)) (hF x (by omega))
theorem pm_ru_64 {n x : Nat} {F : Nat → Nat} (h6 : n ≤ 6) (hF : ∀ x, x < n → F x < n) (hx : x ≤ n) : pm_ru F x < 64 := Nat.lt_of_lt_of_le (pm_ru_lt hF x hx) (pm_64 h6)
theorem pm_ct_le (u : Nat) : ∀ y, pm_ct u y ≤ y
  | 0 => Nat.le_refl _
  | y + 1 => by
    have h := pm_ct_le u y
    show pm_ct u y + (if u.testBit y = true then 1 else 0) ≤ y + 1
    by_cases e : u.testBit y = true
    · rw [if_pos e]; omega
    · rw [if_neg e]; omega
theorem pm_bc {u p : Nat} (hu : u < 64) (hp : p < 6) : pm_ct (u &&& (2 ^ p - 1)) 6 = pm_ct u p := by
  have key : ∀ u, u < 64 → ∀ p, p < 6 → pm_ct (u &&& (2 ^ p - 1)) 6 = pm_ct u p := by decide +kernel
  exact key u hu p hp
def pm_ds (n r : Nat) : Nat → Nat
  | 0 => 0
  | x + 1 => pm_ds n r x * 10 + pm_im n r x
def pm_hd (n r pts : Nat) : Bool := (List.range n).all (fun x => !pts.testBit x || pm_im n r x == x)
theorem pm_hd1 {n r pts : Nat} (h : ∀ x, x < n → pts.testBit x = true → pm_im n r x = x) : pm_hd n r pts = true := by
  refine List.all_eq_true.mpr (fun x hx => ?_)
  cases hb : pts.testBit x with
  | false => rfl
  | true => simp [h x (List.mem_range.mp hx) hb]
theorem pm_hd0 {n r pts x : Nat} (hx : x < n) (hb : pts.testBit x = true) (h : pm_im n r x ≠ x) : pm_hd n r pts = false := by
  cases hc : pm_hd n r pts with
  | false => rfl
  | true =>
    have h1 := List.all_eq_true.mp hc x (List.mem_range.mpr hx)
    simp [hb, h] at h1
