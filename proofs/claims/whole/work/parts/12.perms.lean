/-! Permutations of n points (2 to 6) by their ranks: images, ranks, product, inverse; they are a group. Nothing of the machine. -/
def pm_fc : Nat → Nat
  | 0 => 1
  | n + 1 => (n + 1) * pm_fc n
/-- from the point y on, the left-th that isn't used -/
def pm_un (used : Nat) : Nat → Nat → Nat → Nat
  | 0, _, _ => 0
  | f + 1, left, y => if used.testBit y = true then pm_un used f left (y + 1) else if left = 0 then y else pm_un used f (left - 1) (y + 1)
def pm_dg (n r x : Nat) : Nat := r / pm_fc (n - 1 - x) % (n - x)
def pm_us (n r : Nat) : Nat → Nat
  | 0 => 0
  | x + 1 => pm_us n r x ||| 2 ^ pm_un (pm_us n r x) n (pm_dg n r x) 0
/-- the image of x under the permutation with rank r -/
def pm_im (n r x : Nat) : Nat := pm_un (pm_us n r x) n (pm_dg n r x) 0
/-- how many bits of u below y -/
def pm_ct (u : Nat) : Nat → Nat
  | 0 => 0
  | y + 1 => pm_ct u y + (if u.testBit y = true then 1 else 0)
def pm_ru (f : Nat → Nat) : Nat → Nat
  | 0 => 0
  | x + 1 => pm_ru f x ||| 2 ^ f x
def pm_rr (n : Nat) (f : Nat → Nat) : Nat → Nat
  | 0 => 0
  | x + 1 => pm_rr n f x * (n - x) + f x - pm_ct (pm_ru f x) (f x)
def pm_rk (n : Nat) (f : Nat → Nat) : Nat := pm_rr n f n
theorem pm_ru_congr {f g : Nat → Nat} : ∀ {x : Nat}, (∀ y, y < x → f y = g y) → pm_ru f x = pm_ru g x
  | 0, _ => rfl
  | x + 1, h => by
    show pm_ru f x ||| 2 ^ f x = pm_ru g x ||| 2 ^ g x
    rw [pm_ru_congr (fun y hy => h y (by omega)), h x (by omega)]
theorem pm_rr_congr {n : Nat} {f g : Nat → Nat} : ∀ {x : Nat}, (∀ y, y < x → f y = g y) → pm_rr n f x = pm_rr n g x
  | 0, _ => rfl
  | x + 1, h => by
    show pm_rr n f x * (n - x) + f x - pm_ct (pm_ru f x) (f x) = pm_rr n g x * (n - x) + g x - pm_ct (pm_ru g x) (g x)
    rw [pm_rr_congr (fun y hy => h y (by omega)), pm_ru_congr (fun y hy => h y (by omega)), h x (by omega)]
theorem pm_rk_congr {n : Nat} {f g : Nat → Nat} (h : ∀ y, y < n → f y = g y) : pm_rk n f = pm_rk n g := pm_rr_congr h
/-- the place of y among the images of a -/
def pm_fd (n a y : Nat) : Nat → Nat
  | 0 => 0
  | x + 1 => if pm_im n a x = y then x else pm_fd n a y x
def pm_ii (n a y : Nat) : Nat := pm_fd n a y n
def pm_mu (n a b : Nat) : Nat := pm_rk n (fun x => pm_im n b (pm_im n a x))
def pm_iv (n a : Nat) : Nat := pm_rk n (pm_ii n a)
/-- what is decided by counting through: of each rank -/
def pm_ok1 (n r : Nat) : Bool := (List.range n).all (fun x => decide (pm_im n r x < n) && (List.range x).all (fun y => decide (pm_im n r y ≠ pm_im n r x)) && decide (pm_ii n r x < n) && decide (pm_im n r (pm_ii n r x) = x)) && decide (pm_rk n (pm_im n r) = r)
def pm_okA (n : Nat) : Bool := (List.range (pm_fc n)).all (pm_ok1 n)
theorem pm_D1_2 : pm_okA 2 = true := by decide +kernel
theorem pm_D1_3 : pm_okA 3 = true := by decide +kernel
theorem pm_D1_4 : pm_okA 4 = true := by decide +kernel
theorem pm_D1_5 : pm_okA 5 = true := by decide +kernel
theorem pm_D1_6 : pm_okA 6 = true := by decide +kernel
theorem pm_D1 {n r : Nat} (h2 : 2 ≤ n) (h6 : n ≤ 6) (hr : r < pm_fc n) : pm_ok1 n r = true := by
  have key : pm_okA n = true := by
    have h : n = 2 ∨ n = 3 ∨ n = 4 ∨ n = 5 ∨ n = 6 := by omega
    rcases h with h | h | h | h | h <;> subst h
    · exact pm_D1_2
    · exact pm_D1_3
    · exact pm_D1_4
    · exact pm_D1_5
    · exact pm_D1_6
  exact List.all_eq_true.mp key r (List.mem_range.mpr hr)
theorem pm_D1x {n r x : Nat} (h2 : 2 ≤ n) (h6 : n ≤ 6) (hr : r < pm_fc n) (hx : x < n) : pm_im n r x < n ∧ (∀ y, y < x → pm_im n r y ≠ pm_im n r x) ∧ pm_ii n r x < n ∧ pm_im n r (pm_ii n r x) = x := by
  have h := pm_D1 h2 h6 hr
  unfold pm_ok1 at h
  rw [Bool.and_eq_true] at h
  have h3 := List.all_eq_true.mp h.1 x (List.mem_range.mpr hx)
  simp only [Bool.and_eq_true, decide_eq_true_eq] at h3
  refine ⟨h3.1.1.1, fun y hy => ?_, h3.1.2, h3.2⟩
  have h4 := List.all_eq_true.mp h3.1.1.2 y (List.mem_range.mpr hy)
  exact of_decide_eq_true h4
theorem pm_lt {n r x : Nat} (h2 : 2 ≤ n) (h6 : n ≤ 6) (hr : r < pm_fc n) (hx : x < n) : pm_im n r x < n := (pm_D1x h2 h6 hr hx).1
theorem pm_inj {n r x y : Nat} (h2 : 2 ≤ n) (h6 : n ≤ 6) (hr : r < pm_fc n) (hx : x < n) (hy : y < n) (h : pm_im n r x = pm_im n r y) : x = y := by
  rcases Nat.lt_trichotomy x y with h1 | h1 | h1
  · exact absurd h ((pm_D1x h2 h6 hr hy).2.1 x h1)
  · exact h1
  · exact absurd h.symm ((pm_D1x h2 h6 hr hx).2.1 y h1)
theorem pm_ii_lt {n r x : Nat} (h2 : 2 ≤ n) (h6 : n ≤ 6) (hr : r < pm_fc n) (hx : x < n) : pm_ii n r x < n := (pm_D1x h2 h6 hr hx).2.2.1
theorem pm_im_ii {n r x : Nat} (h2 : 2 ≤ n) (h6 : n ≤ 6) (hr : r < pm_fc n) (hx : x < n) : pm_im n r (pm_ii n r x) = x := (pm_D1x h2 h6 hr hx).2.2.2
theorem pm_ii_im {n r x : Nat} (h2 : 2 ≤ n) (h6 : n ≤ 6) (hr : r < pm_fc n) (hx : x < n) : pm_ii n r (pm_im n r x) = x :=
  pm_inj h2 h6 hr (pm_ii_lt h2 h6 hr (pm_lt h2 h6 hr hx)) hx (pm_im_ii h2 h6 hr (pm_lt h2 h6 hr hx))
theorem pm_rk_im {n r : Nat} (h2 : 2 ≤ n) (h6 : n ≤ 6) (hr : r < pm_fc n) : pm_rk n (pm_im n r) = r := by
  have h := pm_D1 h2 h6 hr
  unfold pm_ok1 at h
  rw [Bool.and_eq_true] at h
  exact of_decide_eq_true h.2
theorem pm_eq {n a b : Nat} (h2 : 2 ≤ n) (h6 : n ≤ 6) (ha : a < pm_fc n) (hb : b < pm_fc n) (h : ∀ x, x < n → pm_im n a x = pm_im n b x) : a = b := by
  rw [← pm_rk_im h2 h6 ha, ← pm_rk_im h2 h6 hb]
  exact pm_rk_congr h
/-- of each row of images -/
def pm_ok3 (n : Nat) (l : List Nat) : Bool := decide (pm_rk n (fun x => l.getD x 0) < pm_fc n) && (List.range n).all (fun x => decide (pm_im n (pm_rk n (fun x => l.getD x 0)) x = l.getD x 0))
/-- all rows of n different points below n that begin with l -/
def pm_rows (n : Nat) : Nat → List Nat → Bool
  | 0, l => pm_ok3 n l
  | f + 1, l => (List.range n).all (fun y => l.contains y || pm_rows n f (l ++ [y]))
theorem pm_D3_2 : pm_rows 2 2 [] = true := by decide +kernel
theorem pm_D3_3 : pm_rows 3 3 [] = true := by decide +kernel
theorem pm_D3_4 : pm_rows 4 4 [] = true := by decide +kernel
theorem pm_D3_5 : pm_rows 5 5 [] = true := by decide +kernel
theorem pm_D3_6 : pm_rows 6 6 [] = true := by decide +kernel
theorem pm_rows_at {n : Nat} {f : Nat → Nat} (hf : ∀ x, x < n → f x < n) (hi : ∀ x y, x < y → y < n → f x ≠ f y) : ∀ (k j : Nat), j + k = n → pm_rows n k ((List.range j).map f) = true → pm_ok3 n ((List.range n).map f) = true
  | 0, j, h, hr => by
    have : j = n := by omega
    subst this; exact hr
  | k + 1, j, h, hr => by
    have h1 := List.all_eq_true.mp hr (f j) (List.mem_range.mpr (hf j (by omega)))
    rw [Bool.or_eq_true] at h1
    rcases h1 with h1 | h1
    · exfalso
      rw [List.contains_iff_mem] at h1
      obtain ⟨i, hi1, hi2⟩ := List.mem_map.mp h1
      exact hi i j (List.mem_range.mp hi1) (by omega) hi2
    · refine pm_rows_at hf hi k (j + 1) (by omega) ?_
      rw [List.range_succ, List.map_append]
      exact h1
theorem pm_F3 {n : Nat} {f : Nat → Nat} (h2 : 2 ≤ n) (h6 : n ≤ 6) (hf : ∀ x, x < n → f x < n) (hi : ∀ x y, x < y → y < n → f x ≠ f y) : pm_rk n f < pm_fc n ∧ ∀ x, x < n → pm_im n (pm_rk n f) x = f x := by
  have key : pm_rows n n [] = true := by
    have h : n = 2 ∨ n = 3 ∨ n = 4 ∨ n = 5 ∨ n = 6 := by omega
    rcases h with h | h | h | h | h <;> subst h
    · exact pm_D3_2
    · exact pm_D3_3
    · exact pm_D3_4
    · exact pm_D3_5
    · exact pm_D3_6
  have h3 := pm_rows_at hf hi n 0 (by omega) key
  unfold pm_ok3 at h3
  rw [Bool.and_eq_true] at h3
  have he : ∀ x, x < n → ((List.range n).map f).getD x 0 = f x := fun x hx => by simp [hx]
  have hk : pm_rk n (fun x => ((List.range n).map f).getD x 0) = pm_rk n f := pm_rk_congr he
  refine ⟨?_, fun x hx => ?_⟩
  · rw [← hk]; exact of_decide_eq_true h3.1
  · have h4 := of_decide_eq_true (List.all_eq_true.mp h3.2 x (List.mem_range.mpr hx))
    rw [hk, he x hx] at h4
    exact h4
theorem pm_mu_F {n a b : Nat} (h2 : 2 ≤ n) (h6 : n ≤ 6) (ha : a < pm_fc n) (hb : b < pm_fc n) : pm_mu n a b < pm_fc n ∧ ∀ x, x < n → pm_im n (pm_mu n a b) x = pm_im n b (pm_im n a x) :=
  pm_F3 h2 h6 (fun x hx => pm_lt h2 h6 hb (pm_lt h2 h6 ha hx)) (fun x y hxy hy he => by
    have h1 := pm_inj h2 h6 hb (pm_lt h2 h6 ha (by omega)) (pm_lt h2 h6 ha hy) he
    have h3 := pm_inj h2 h6 ha (by omega) hy h1
    omega)
theorem pm_iv_F {n a : Nat} (h2 : 2 ≤ n) (h6 : n ≤ 6) (ha : a < pm_fc n) : pm_iv n a < pm_fc n ∧ ∀ x, x < n → pm_im n (pm_iv n a) x = pm_ii n a x :=
  pm_F3 h2 h6 (fun x hx => pm_ii_lt h2 h6 ha hx) (fun x y hxy hy he => by
    have h1 := pm_im_ii h2 h6 ha (x := x) (by omega)
    have h3 := pm_im_ii h2 h6 ha hy
    rw [he, h3] at h1
    omega)
theorem pm_fc_pos : ∀ n, 0 < pm_fc n
  | 0 => by decide
  | n + 1 => Nat.mul_pos (by omega) (pm_fc_pos n)
theorem pm_fc_le {n : Nat} (h6 : n ≤ 6) : pm_fc n ≤ 720 := by
  have h : n = 0 ∨ n = 1 ∨ n = 2 ∨ n = 3 ∨ n = 4 ∨ n = 5 ∨ n = 6 := by omega
  rcases h with h | h | h | h | h | h | h <;> subst h <;> decide
theorem pm_im0 {n x : Nat} (h2 : 2 ≤ n) (h6 : n ≤ 6) (hx : x < n) : pm_im n 0 x = x := by
  have key : ∀ n, n < 7 → ∀ x, x < n → 2 ≤ n → pm_im n 0 x = x := by decide +kernel
  exact key n (by omega) x hx h2
theorem pm_gp {n : Nat} (h2 : 2 ≤ n) (h6 : n ≤ 6) : gp_ok (pm_fc n) (pm_mu n) (pm_iv n) := by
  have m := fun {a b : Nat} (ha : a < pm_fc n) (hb : b < pm_fc n) => pm_mu_F h2 h6 ha hb
  have i := fun {a : Nat} (ha : a < pm_fc n) => pm_iv_F h2 h6 ha
  have z := pm_fc_pos n
  refine ⟨z, fun a b ha hb => (m ha hb).1, fun a ha => (i ha).1, fun a b c ha hb hc => ?_, fun a ha => ?_, fun a ha => ?_, fun a ha => ?_, fun a ha => ?_⟩
  · refine pm_eq h2 h6 (m (m ha hb).1 hc).1 (m ha (m hb hc).1).1 (fun x hx => ?_)
    rw [(m (m ha hb).1 hc).2 x hx, (m ha hb).2 x hx, (m ha (m hb hc).1).2 x hx, (m hb hc).2 _ (pm_lt h2 h6 ha hx)]
  · refine pm_eq h2 h6 (m z ha).1 ha (fun x hx => ?_)
    rw [(m z ha).2 x hx, pm_im0 h2 h6 hx]
  · refine pm_eq h2 h6 (m ha z).1 ha (fun x hx => ?_)
    rw [(m ha z).2 x hx, pm_im0 h2 h6 (pm_lt h2 h6 ha hx)]
  · refine pm_eq h2 h6 (m (i ha).1 ha).1 z (fun x hx => ?_)
    rw [(m (i ha).1 ha).2 x hx, (i ha).2 x hx, pm_im_ii h2 h6 ha hx, pm_im0 h2 h6 hx]
  · refine pm_eq h2 h6 (m ha (i ha).1).1 z (fun x hx => ?_)
    rw [(m ha (i ha).1).2 x hx, (i ha).2 _ (pm_lt h2 h6 ha hx), pm_ii_im h2 h6 ha hx, pm_im0 h2 h6 hx]
