/-! Sets of numbers below n, counted; pigeonhole. Nothing of the machine. -/
def ma_cn (S : Nat → Bool) : Nat → Nat
  | 0 => 0
  | n + 1 => ma_cn S n + (if S n = true then 1 else 0)
theorem ma_cn_le (S : Nat → Bool) : ∀ n, ma_cn S n ≤ n
  | 0 => Nat.le_refl _
  | n + 1 => by
    have h := ma_cn_le S n
    show ma_cn S n + (if S n = true then 1 else 0) ≤ n + 1
    by_cases hs : S n = true
    · rw [if_pos hs]; omega
    · rw [if_neg hs]; omega
theorem ma_cn_congr {S T : Nat → Bool} : ∀ {n : Nat}, (∀ r, r < n → S r = T r) → ma_cn S n = ma_cn T n
  | 0, _ => rfl
  | n + 1, h => by
    show ma_cn S n + (if S n = true then 1 else 0) = ma_cn T n + (if T n = true then 1 else 0)
    rw [ma_cn_congr (fun r hr => h r (by omega)), h n (by omega)]
theorem ma_cn_mono {S T : Nat → Bool} : ∀ {n : Nat}, (∀ r, r < n → S r = true → T r = true) → ma_cn S n ≤ ma_cn T n
  | 0, _ => Nat.le_refl _
  | n + 1, h => by
    have h1 := ma_cn_mono (S := S) (T := T) (n := n) (fun r hr => h r (by omega))
    show ma_cn S n + (if S n = true then 1 else 0) ≤ ma_cn T n + (if T n = true then 1 else 0)
    by_cases hs : S n = true
    · rw [if_pos hs, if_pos (h n (by omega) hs)]; omega
    · rw [if_neg hs]; omega
theorem ma_cn_up (S : Nat → Bool) {k : Nat} : ∀ {n : Nat}, k ≤ n → ma_cn S k ≤ ma_cn S n
  | 0, h => by
    have : k = 0 := by omega
    subst this; exact Nat.le_refl _
  | n + 1, h => by
    by_cases hk : k = n + 1
    · subst hk; exact Nat.le_refl _
    · have h1 := ma_cn_up S (k := k) (n := n) (by omega)
      show ma_cn S k ≤ ma_cn S n + (if S n = true then 1 else 0)
      omega
theorem ma_cn_lt {S : Nat → Bool} {r n : Nat} (hs : S r = true) (h : r < n) : ma_cn S r < ma_cn S n := by
  have h1 := ma_cn_up S (k := r + 1) (n := n) h
  have h2 : ma_cn S (r + 1) = ma_cn S r + 1 := by
    show ma_cn S r + (if S r = true then 1 else 0) = ma_cn S r + 1
    rw [if_pos hs]
  omega
/-- the k-th element is one -/
theorem ma_cn_inj {S : Nat → Bool} {a b : Nat} (ha : S a = true) (hb : S b = true) (h : ma_cn S a = ma_cn S b) : a = b := by
  rcases Nat.lt_trichotomy a b with h1 | h1 | h1
  · have := ma_cn_lt ha h1; omega
  · exact h1
  · have := ma_cn_lt hb h1; omega
def ma_in (S : Nat → Bool) (r : Nat) : Nat → Bool := fun x => S x || x == r
theorem ma_in_self (S : Nat → Bool) (r : Nat) : ma_in S r r = true := by simp [ma_in]
theorem ma_in_ne {S : Nat → Bool} {r x : Nat} (h : x ≠ r) : ma_in S r x = S x := by simp [ma_in, h]
theorem ma_in_iff {S : Nat → Bool} {r x : Nat} : ma_in S r x = true ↔ S x = true ∨ x = r := by simp [ma_in]
theorem ma_cn_in {S : Nat → Bool} {r : Nat} (hr : S r = false) : ∀ {n : Nat}, r < n → ma_cn (ma_in S r) n = ma_cn S n + 1
  | 0, h => absurd h (Nat.not_lt_zero _)
  | n + 1, h => by
    show ma_cn (ma_in S r) n + (if ma_in S r n = true then 1 else 0) = ma_cn S n + (if S n = true then 1 else 0) + 1
    by_cases hn : r = n
    · subst hn
      rw [ma_in_self, if_pos rfl, hr, if_neg (by decide)]
      rw [ma_cn_congr (S := ma_in S r) (T := S) (fun x hx => ma_in_ne (by omega))]
    · rw [ma_in_ne (fun e => hn e.symm), ma_cn_in hr (n := n) (by omega)]
      omega
/-- S, and the images of its first elements -/
def ma_un (S : Nat → Bool) (f : Nat → Nat) : Nat → Nat → Bool
  | 0 => S
  | k + 1 => fun x => ma_un S f k x || (S k && f k == x)
theorem ma_un_iff {S : Nat → Bool} {f : Nat → Nat} {x : Nat} : ∀ {k : Nat}, ma_un S f k x = true ↔ S x = true ∨ ∃ h, h < k ∧ S h = true ∧ f h = x
  | 0 => by
    show S x = true ↔ _
    constructor
    · exact Or.inl
    · rintro (h | ⟨h, h1, -⟩)
      · exact h
      · omega
  | k + 1 => by
    show (ma_un S f k x || (S k && f k == x)) = true ↔ _
    rw [Bool.or_eq_true, ma_un_iff (k := k), Bool.and_eq_true, beq_iff_eq]
    constructor
    · rintro ((h | ⟨h, h1, h2⟩) | ⟨h1, h2⟩)
      · exact Or.inl h
      · exact Or.inr ⟨h, by omega, h2⟩
      · exact Or.inr ⟨k, by omega, h1, h2⟩
    · rintro (h | ⟨h, h1, h2, h3⟩)
      · exact Or.inl (Or.inl h)
      · by_cases hk : h = k
        · subst hk; exact Or.inr ⟨h2, h3⟩
        · exact Or.inl (Or.inr ⟨h, by omega, h2, h3⟩)
theorem ma_cn_un {S : Nat → Bool} {f : Nat → Nat} {n : Nat} (hf : ∀ h, h < n → S h = true → f h < n ∧ S (f h) = false) (hi : ∀ h k, h < n → k < n → S h = true → S k = true → f h = f k → h = k) : ∀ k, k ≤ n → ma_cn (ma_un S f k) n = ma_cn S n + ma_cn S k
  | 0, _ => rfl
  | k + 1, hk => by
    have ih := ma_cn_un hf hi k (by omega)
    show _ = ma_cn S n + (ma_cn S k + (if S k = true then 1 else 0))
    by_cases hs : S k = true
    · rw [if_pos hs]
      have h1 := hf k (by omega) hs
      have h2 : ma_un S f k (f k) = false := by
        cases hc : ma_un S f k (f k) with
        | false => rfl
        | true =>
          rcases ma_un_iff.mp hc with h | ⟨h, h3, h4, h5⟩
          · rw [h1.2] at h; exact absurd h (by decide)
          · have := hi h k (by omega) (by omega) h4 hs h5; omega
      have h3 : ma_cn (ma_un S f (k + 1)) n = ma_cn (ma_in (ma_un S f k) (f k)) n := ma_cn_congr (fun x _ => by
        show (ma_un S f k x || (S k && f k == x)) = (ma_un S f k x || x == f k)
        rw [hs, Bool.true_and, Bool.beq_comm (a := f k)])
      rw [h3, ma_cn_in h2 h1.1, ih]; omega
    · rw [if_neg hs]
      have h3 : ma_cn (ma_un S f (k + 1)) n = ma_cn (ma_un S f k) n := ma_cn_congr (fun x _ => by
        show (ma_un S f k x || (S k && f k == x)) = ma_un S f k x
        rw [Bool.eq_false_iff.mpr hs]; simp)
      rw [h3, ih]; omega
/-- a set that holds S and a copy of it beside it is at least twice as large -/
theorem ma_cn_two {S T : Nat → Bool} {f : Nat → Nat} {n : Nat} (hf : ∀ h, h < n → S h = true → f h < n ∧ S (f h) = false) (hi : ∀ h k, h < n → k < n → S h = true → S k = true → f h = f k → h = k) (h1 : ∀ x, S x = true → T x = true) (h2 : ∀ h, h < n → S h = true → T (f h) = true) : 2 * ma_cn S n ≤ ma_cn T n := by
  have h3 := ma_cn_un hf hi n (Nat.le_refl _)
  have h4 : ma_cn (ma_un S f n) n ≤ ma_cn T n := ma_cn_mono (fun r _ hr => by
    rcases ma_un_iff.mp hr with h | ⟨h, h5, h6, h7⟩
    · exact h1 r h
    · rw [← h7]; exact h2 h h5 h6)
  omega
/-- the k-th element of S below n -/
def ma_el (S : Nat → Bool) (k : Nat) : Nat → Nat
  | 0 => 0
  | n + 1 => if S n = true ∧ ma_cn S n = k then n else ma_el S k n
theorem ma_el_eq {S : Nat → Bool} {k r : Nat} (hs : S r = true) (hk : ma_cn S r = k) : ∀ {n : Nat}, r < n → ma_el S k n = r
  | 0, h => absurd h (Nat.not_lt_zero _)
  | n + 1, h => by
    show (if S n = true ∧ ma_cn S n = k then n else ma_el S k n) = r
    by_cases hc : S n = true ∧ ma_cn S n = k
    · rw [if_pos hc]; exact ma_cn_inj hc.1 hs (hc.2.trans hk.symm)
    · rw [if_neg hc]
      have : r ≠ n := fun e => hc (by subst e; exact ⟨hs, hk⟩)
      exact ma_el_eq hs hk (by omega)
/-- no endless row of different numbers below N -/
theorem ma_hole : ∀ (N : Nat) (g : Nat → Nat), (∀ i, g i < N) → ∃ i j, i < j ∧ g i = g j
  | 0, g, h => absurd (h 0) (Nat.not_lt_zero _)
  | N + 1, g, h => by
    by_cases hN : ∃ i, g i = N
    · obtain ⟨i, hi⟩ := hN
      by_cases hj : ∃ j, i < j ∧ g j = N
      · obtain ⟨j, h1, h2⟩ := hj
        exact ⟨i, j, h1, hi.trans h2.symm⟩
      · obtain ⟨a, b, h1, h2⟩ := ma_hole N (fun k => g (k + i + 1)) (fun k => by
          have h3 := h (k + i + 1)
          have h4 : g (k + i + 1) ≠ N := fun e => hj ⟨k + i + 1, by omega, e⟩
          show g (k + i + 1) < N
          omega)
        exact ⟨a + i + 1, b + i + 1, by omega, h2⟩
    · exact ma_hole N g (fun k => by
        have h3 := h k
        have h4 : g k ≠ N := fun e => hN ⟨k, e⟩
        omega)
def ma_it (f : Nat → Nat) (a : Nat) : Nat → Nat
  | 0 => a
  | k + 1 => f (ma_it f a k)
/-- on a finite set what is one to one is onto -/
theorem ma_back {N : Nat} {S : Nat → Prop} {f : Nat → Nat} (hS : ∀ x, S x → x < N) (hf : ∀ x, S x → S (f x)) (hi : ∀ x y, S x → S y → f x = f y → x = y) {a : Nat} (ha : S a) : ∃ x, S x ∧ f x = a := by
  have hit : ∀ k, S (ma_it f a k) := by
    intro k
    induction k with
    | zero => exact ha
    | succ k ih => exact hf _ ih
  obtain ⟨i, j, hij, he⟩ := ma_hole N (ma_it f a) (fun k => hS _ (hit k))
  have key : ∀ i j, i < j → ma_it f a i = ma_it f a j → ∃ x, S x ∧ f x = a := by
    intro i
    induction i with
    | zero =>
      intro j hj h
      cases j with
      | zero => omega
      | succ j => exact ⟨ma_it f a j, hit j, h.symm⟩
    | succ i ih =>
      intro j hj h
      cases j with
      | zero => omega
      | succ j => exact ih j (by omega) (hi _ _ (hit i) (hit j) h)
  exact key i j hij he
