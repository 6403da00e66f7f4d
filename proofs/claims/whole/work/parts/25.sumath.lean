/-! Sets and numbers for Subgroup's walks -/
theorem ma_cn_ex {S : Nat → Bool} {j : Nat} : ∀ {n : Nat}, j < ma_cn S n → ∃ r, r < n ∧ S r = true ∧ ma_cn S r = j
  | 0, h => absurd h (Nat.not_lt_zero _)
  | n + 1, h => by
    have h : j < ma_cn S n + (if S n = true then 1 else 0) := h
    by_cases hj : j < ma_cn S n
    · obtain ⟨r, h1, h2⟩ := ma_cn_ex hj
      exact ⟨r, by omega, h2⟩
    · by_cases hs : S n = true
      · rw [if_pos hs] at h
        exact ⟨n, by omega, hs, by omega⟩
      · rw [if_neg hs] at h
        omega
/-- the elements of a subgroup in their order are a listing -/
theorem co_el {N : Nat} {mu : Nat → Nat → Nat} {iv : Nat → Nat} {H : Nat → Bool} (hH : gp_sg N mu iv (fun x => H x = true)) (h0 : 0 < N) : co_en H (fun j => ma_el H j N) (ma_cn H N) := by
  have e : ∀ j, j < ma_cn H N → ∃ r, r < N ∧ H r = true ∧ ma_cn H r = j ∧ ma_el H j N = r := fun j hj => by
    obtain ⟨r, h1, h2, h3⟩ := ma_cn_ex hj
    exact ⟨r, h1, h2, h3, ma_el_eq h2 h3 h1⟩
  refine ⟨?_, ma_el_eq (r := 0) hH.1 rfl h0, fun j hj => ?_, fun i j hi hj he => ?_, fun x hx => ?_⟩
  · have := ma_cn_lt (S := H) (r := 0) hH.1 h0; omega
  · obtain ⟨r, -, h2, -, h4⟩ := e j hj
    show H (ma_el H j N) = true
    rw [h4]; exact h2
  · obtain ⟨r, -, -, h3, h4⟩ := e i hi
    obtain ⟨q, -, -, h5, h6⟩ := e j hj
    have he : ma_el H i N = ma_el H j N := he
    rw [h4, h6] at he
    rw [← h3, ← h5, he]
  · have hxN := hH.2.1 x hx
    exact ⟨ma_cn H x, ma_cn_lt hx hxN, ma_el_eq hx rfl hxN⟩
theorem su_k9 {n k c : Nat} (h6 : n ≤ 6) (h : 2 ^ k ≤ c) (hc : c ≤ pm_fc n) : k ≤ 9 := by
  have h1 := pm_fc_le h6
  rcases Nat.lt_or_ge 9 k with h2 | h2
  · have h3 : 2 ^ 10 ≤ 2 ^ k := Nat.pow_le_pow_right (by decide) h2
    have h4 : (2 : Nat) ^ 10 = 1024 := by decide
    omega
  · exact h2
/-- the words f are the set S -/
def su_wd (n : Nat) (f : Nat → Int64) (S : Nat → Bool) : Prop := ∀ r, r < 64 * ((pm_fc n + 63) / 64) → bw_t f r = S r
theorem su_wd_lt {n : Nat} {f : Nat → Int64} {S : Nat → Bool} (h : su_wd n f S) {r : Nat} (hr : r < pm_fc n) : bw_t f r = S r := h r (by omega)
theorem su_wd_in {n : Nat} {f f' : Nat → Int64} {S : Nat → Bool} {r : Nat} (h : su_wd n f S) (h' : ∀ x, bw_t f' x = (bw_t f x || x == r)) : su_wd n f' (ma_in S r) := fun x hx => by
  rw [h' x, h x hx]; rfl
def su_up (G : Nat → Nat) (k c : Nat) : Nat → Nat := fun j => if j = k then c else G j
theorem su_us (G : Nat → Nat) (k c : Nat) : su_up G k c k = c := if_pos rfl
theorem su_un (G : Nat → Nat) {k j : Nat} (c : Nat) (h : j ≠ k) : su_up G k c j = G j := if_neg h
/-- the g-th Subgroup's cells -/
def su_at (ca : Nat → ClassId) (ad : Nat → Nat) (n i : Nat) (ws : va_W) (sz : Int32) (f : Nat → Int64) (g : Nat → Int32) (k : Int32) : Prop := ws[10 + 3 * i]? = some (ad (10 + 3 * i), .inr (2, [.int sz, .ref (ad 1), .ref (ad (11 + 3 * i)), .ref (ad (12 + 3 * i)), .int k, .ref (ad 8)])) ∧ ws[11 + 3 * i]? = some (ad (11 + 3 * i), .inl (ca 2, (pm_fc n + 63) / 64, .inr (.inl f))) ∧ ws[12 + 3 * i]? = some (ad (12 + 3 * i), .inl (ca 1, 10, .inl g))
/-- it holds the group S, that the first k of G generate -/
def su_ok (ca : Nat → ClassId) (ad : Nat → Nat) (n i : Nat) (ws : va_W) (S : Nat → Bool) (G : Nat → Nat) (k : Nat) : Prop := ∃ (f : Nat → Int64) (g : Nat → Int32), su_at ca ad n i ws (nI (ma_cn S (pm_fc n))) f g (nI k) ∧ su_wd n f S ∧ (∀ j, j < k → g j = nI (G j)) ∧ gp_gen (pm_fc n) (pm_mu n) (pm_iv n) G k (fun x => S x = true) ∧ 2 ^ k ≤ ma_cn S (pm_fc n)
theorem su_fr {ca : Nat → ClassId} {ad : Nat → Nat} {n i : Nat} {ws w : va_W} {S : Nat → Bool} {G : Nat → Nat} {k : Nat} (h0 : w[10 + 3 * i]? = ws[10 + 3 * i]?) (h1 : w[11 + 3 * i]? = ws[11 + 3 * i]?) (h2 : w[12 + 3 * i]? = ws[12 + 3 * i]?) (h : su_ok ca ad n i ws S G k) : su_ok ca ad n i w S G k := by
  unfold su_ok su_at
  rw [h0, h1, h2]
  exact h
def li_ok (ca : Nat → ClassId) (ad : Nat → Nat) (n : Nat) (ws : va_W) : Prop := ∃ L : Nat → Int32, ws[8]? = some (ad 8, .inl (ca 1, pm_fc n, .inl L))
theorem li_fr {ca : Nat → ClassId} {ad : Nat → Nat} {n : Nat} {ws w : va_W} (h : w[8]? = ws[8]?) (hl : li_ok ca ad n ws) : li_ok ca ad n w := by
  unfold li_ok
  rw [h]
  exact hl
/-- while it grows by c: H was there, X is there now, LN is listed -/
def ad_st (ca : Nat → ClassId) (ad : Nat → Nat) (n i : Nat) (ws : va_W) (H : Nat → Bool) (G : Nat → Nat) (k b c : Nat) (X : Nat → Bool) (LN : Nat → Nat) (z : Nat) : Prop := ∃ (f : Nat → Int64) (g L : Nat → Int32), su_at ca ad n i ws (nI z) f g (nI k) ∧ ws[8]? = some (ad 8, .inl (ca 1, pm_fc n, .inl L)) ∧ su_wd n f X ∧ (∀ j, j < k → g j = nI (G j)) ∧ (∀ j, j < z → L j = nI (LN j)) ∧ co_en H LN b ∧ co_I (pm_fc n) (pm_mu n) X LN b z ∧ b ≤ z ∧ (∀ x, H x = true → X x = true) ∧ X c = true ∧ ∀ T, gp_sg (pm_fc n) (pm_mu n) (pm_iv n) T → (∀ x, H x = true → T x) → T c → ∀ x, X x = true → T x
/-- the trivial group as a set -/
def su_one : Nat → Bool := fun x => x == 0
theorem su_one_iff (x : Nat) : su_one x = true ↔ x = 0 := by simp [su_one]
theorem su_one_cn {N : Nat} (h : 0 < N) : ma_cn su_one N = 1 := by
  have h1 : ma_cn (fun _ => false) N = 0 := by
    clear h
    induction N with
    | zero => rfl
    | succ N ih => show ma_cn _ N + (if false = true then 1 else 0) = 0; rw [ih]; rfl
  have h2 : ma_cn (ma_in (fun _ => false) 0) N = ma_cn (fun _ => false) N + 1 := ma_cn_in rfl h
  rw [h1] at h2
  exact (ma_cn_congr (S := su_one) (T := ma_in (fun _ => false) 0) (fun r _ => rfl)).trans h2
theorem su_one_gen {N : Nat} {mu : Nat → Nat → Nat} {iv : Nat → Nat} (g : gp_ok N mu iv) (G : Nat → Nat) : gp_gen N mu iv G 0 (fun x => su_one x = true) := by
  have h : (fun x => su_one x = true) = (fun a => a = 0) := by
    funext x
    exact propext (su_one_iff x)
  rw [h]
  exact gp_gen0 g G
