/-! How a set grows by whole cosets of H: the row L lists H in its first b places, and coset behind coset. Nothing of the machine. -/
/-- L lists H once in its first b places, the identity first -/
def co_en (H : Nat → Bool) (L : Nat → Nat) (b : Nat) : Prop := 0 < b ∧ L 0 = 0 ∧ (∀ i, i < b → H (L i) = true) ∧ (∀ i j, i < b → j < b → L i = L j → i = j) ∧ ∀ x, H x = true → ∃ i, i < b ∧ L i = x
/-- X is made of the cosets of H whose first elements stand in L at 0, b, 2b .. below z -/
def co_I (N : Nat) (mu : Nat → Nat → Nat) (X : Nat → Bool) (L : Nat → Nat) (b z : Nat) : Prop := z = ma_cn X N ∧ (∃ q, z = q * b) ∧ (∀ x, X x = true → x < N) ∧ (∀ j, j * b < z → X (L (j * b)) = true) ∧ ∀ x, X x = true ↔ ∃ j i, j * b < z ∧ i < b ∧ x = mu (L i) (L (j * b))
section
variable {N : Nat} {mu : Nat → Nat → Nat} {iv : Nat → Nat} {H X : Nat → Bool} {L : Nat → Nat} {b z : Nat}
theorem co_lt (hH : gp_sg N mu iv (fun x => H x = true)) (hE : co_en H L b) {i : Nat} (hi : i < b) : L i < N := hH.2.1 _ (hE.2.2.1 i hi)
/-- closed under H from the left -/
theorem co_left (g : gp_ok N mu iv) (hH : gp_sg N mu iv (fun x => H x = true)) (hE : co_en H L b) (hI : co_I N mu X L b z) {h x : Nat} (hh : H h = true) (hx : X x = true) : X (mu h x) = true := by
  obtain ⟨j, i, hj, hi, rfl⟩ := (hI.2.2.2.2 x).mp hx
  have h1 := hH.2.2.1 h (L i) hh (hE.2.2.1 i hi)
  obtain ⟨i2, hi2, he⟩ := hE.2.2.2.2 _ h1
  refine (hI.2.2.2.2 _).mpr ⟨j, i2, hj, hi2, ?_⟩
  rw [he, gp_as g (hH.2.1 _ hh) (co_lt hH hE hi) (hI.2.2.1 _ (hI.2.2.2.1 j hj))]
/-- a coset whose first element isn't there isn't there at all -/
theorem co_out (g : gp_ok N mu iv) (hH : gp_sg N mu iv (fun x => H x = true)) (hE : co_en H L b) (hI : co_I N mu X L b z) {h t : Nat} (hh : H h = true) (ht : t < N) (hX : X t = false) : X (mu h t) = false := by
  cases hc : X (mu h t) with
  | false => rfl
  | true =>
    have h1 := co_left g hH hE hI (hH.2.2.2 h hh) hc
    have hhN := hH.2.1 h hh
    rw [← gp_as g (gp_i g hhN) hhN ht, gp_il g hhN, gp_ol g ht, hX] at h1
    exact absurd h1 (by decide)
/-- the start: H alone -/
theorem co_I0 (g : gp_ok N mu iv) (hH : gp_sg N mu iv (fun x => H x = true)) (hE : co_en H L b) (hb : b = ma_cn H N) : co_I N mu H L b b := by
  have h0 : L (0 * b) = 0 := by rw [Nat.zero_mul]; exact hE.2.1
  refine ⟨hb, ⟨1, by rw [Nat.one_mul]⟩, hH.2.1, fun j hj => ?_, fun x => ⟨fun hx => ?_, fun ⟨j, i, hj, hi, he⟩ => ?_⟩⟩
  · have : j = 0 := by
      rcases Nat.eq_zero_or_pos j with h | h
      · exact h
      · have := Nat.mul_le_mul_right b h; omega
    subst this
    rw [h0]; exact hH.1
  · obtain ⟨i, hi, he⟩ := hE.2.2.2.2 x hx
    exact ⟨0, i, by have := hE.1; omega, hi, by rw [h0, gp_or g (co_lt hH hE hi)]; exact he.symm⟩
  · have : j = 0 := by
      rcases Nat.eq_zero_or_pos j with h | h
      · exact h
      · have := Nat.mul_le_mul_right b h; omega
    subst this
    rw [he, h0, gp_or g (co_lt hH hE hi)]
    exact hE.2.2.1 i hi
/-- one coset more -/
theorem co_I1 (g : gp_ok N mu iv) (hH : gp_sg N mu iv (fun x => H x = true)) (hE : co_en H L b) (hI : co_I N mu X L b z) {t : Nat} (ht : t < N) {X' : Nat → Bool} {L' : Nat → Nat} (hL : ∀ i, i < z → L' i = L i) (hN : ∀ i, i < b → L' (z + i) = mu (L i) t) (hX : ∀ x, X' x = true ↔ X x = true ∨ ∃ i, i < b ∧ x = mu (L i) t) (hz : z + b = ma_cn X' N) (hbz : b ≤ z) : co_en H L' b ∧ co_I N mu X' L' b (z + b) := by
  have hb := hE.1
  have e1 : ∀ i, i < b → L' i = L i := fun i hi => hL i (by omega)
  obtain ⟨q, hq⟩ := hI.2.1
  have hz0 : L' z = t := by
    have h1 := hN 0 hb
    rw [Nat.add_zero, hE.2.1, gp_ol g ht] at h1
    exact h1
  have key : ∀ j, j * b < z + b → j * b < z ∨ j = q := fun j hj => by
    rcases Nat.lt_or_ge j q with h | h
    · left
      have := Nat.mul_le_mul_right b h
      rw [Nat.succ_mul] at this; omega
    · right
      rcases Nat.eq_or_lt_of_le h with h | h
      · exact h.symm
      · have := Nat.mul_le_mul_right b h
        rw [Nat.succ_mul] at this; omega
  refine ⟨⟨hb, by rw [e1 0 hb]; exact hE.2.1, fun i hi => by rw [e1 i hi]; exact hE.2.2.1 i hi, fun i j hi hj he => hE.2.2.2.1 i j hi hj (by rw [← e1 i hi, ← e1 j hj]; exact he), fun x hx => ?_⟩, hz, ⟨q + 1, by rw [Nat.succ_mul, hq]⟩, fun x hx => ?_, fun j hj => ?_, fun x => ⟨fun hx => ?_, fun ⟨j, i, hj, hi, he⟩ => ?_⟩⟩
  · obtain ⟨i, hi, he⟩ := hE.2.2.2.2 x hx
    exact ⟨i, hi, by rw [e1 i hi]; exact he⟩
  · rcases (hX x).mp hx with h | ⟨i, hi, he⟩
    · exact hI.2.2.1 x h
    · rw [he]; exact gp_m g (co_lt hH hE hi) ht
  · rcases key j hj with h | h
    · rw [hL _ h]; exact (hX _).mpr (Or.inl (hI.2.2.2.1 j h))
    · subst h
      rw [← hq, hz0]
      exact (hX t).mpr (Or.inr ⟨0, hb, by rw [hE.2.1, gp_ol g ht]⟩)
  · rcases (hX x).mp hx with h | ⟨i, hi, he⟩
    · obtain ⟨j, i, hj, hi, he⟩ := (hI.2.2.2.2 x).mp h
      exact ⟨j, i, by omega, hi, by rw [e1 i hi, hL _ hj]; exact he⟩
    · exact ⟨q, i, by omega, hi, by rw [e1 i hi, ← hq, hz0]; exact he⟩
  · rcases key j hj with h | h
    · exact (hX x).mpr (Or.inl ((hI.2.2.2.2 x).mpr ⟨j, i, h, hi, by rw [he, e1 i hi, hL _ h]⟩))
    · subst h
      exact (hX x).mpr (Or.inr ⟨i, hi, by rw [he, e1 i hi, ← hq, hz0]⟩)
/-- where every first element times every generator is there, all is closed -/
theorem co_closed (g : gp_ok N mu iv) (hH : gp_sg N mu iv (fun x => H x = true)) (hE : co_en H L b) (hI : co_I N mu X L b z) {gs : Nat → Nat} {k : Nat} (hg : ∀ s, s < k → gs s < N) (h : ∀ j s, j * b < z → s < k → X (mu (L (j * b)) (gs s)) = true) : ∀ x, X x = true → ∀ s, s < k → X (mu x (gs s)) = true := by
  intro x hx s hs
  obtain ⟨j, i, hj, hi, rfl⟩ := (hI.2.2.2.2 x).mp hx
  rw [gp_as g (co_lt hH hE hi) (hI.2.2.1 _ (hI.2.2.2.1 j hj)) (hg s hs)]
  exact co_left g hH hE hI (hE.2.2.1 i hi) (h j s hj hs)
end
/-! The same by first elements F alone (the reference's way): X is made of the cosets H F(0), H F(1) .. -/
def cm_I (N : Nat) (mu : Nat → Nat → Nat) (H X : Nat → Bool) (F : Nat → Nat) (c : Nat) : Prop := (∀ x, X x = true → x < N) ∧ (∀ j, j < c → X (F j) = true) ∧ (∀ x, X x = true ↔ ∃ j h, j < c ∧ H h = true ∧ x = mu h (F j)) ∧ c ≤ ma_cn X N
section
variable {N : Nat} {mu : Nat → Nat → Nat} {iv : Nat → Nat} {H X : Nat → Bool} {F : Nat → Nat} {c : Nat}
theorem cm_left (g : gp_ok N mu iv) (hH : gp_sg N mu iv (fun x => H x = true)) (hI : cm_I N mu H X F c) {h x : Nat} (hh : H h = true) (hx : X x = true) : X (mu h x) = true := by
  obtain ⟨j, i, hj, hi, rfl⟩ := (hI.2.2.1 x).mp hx
  exact (hI.2.2.1 _).mpr ⟨j, mu h i, hj, hH.2.2.1 h i hh hi, (gp_as g (hH.2.1 _ hh) (hH.2.1 _ hi) (hI.1 _ (hI.2.1 j hj))).symm⟩
theorem cm_I0 (g : gp_ok N mu iv) (hH : gp_sg N mu iv (fun x => H x = true)) (hF : F 0 = 0) : cm_I N mu H H F 1 := by
  refine ⟨hH.2.1, fun j hj => ?_, fun x => ⟨fun hx => ⟨0, x, by omega, hx, by rw [hF, gp_or g (hH.2.1 x hx)]⟩, fun ⟨j, h, hj, hh, he⟩ => ?_⟩, ?_⟩
  · have : j = 0 := by omega
    subst this; rw [hF]; exact hH.1
  · have : j = 0 := by omega
    subst this; rw [he, hF, gp_or g (hH.2.1 h hh)]; exact hh
  · have h1 := ma_cn_lt (S := H) (r := 0) hH.1 (gp_0 g); omega
theorem cm_I1 (g : gp_ok N mu iv) (hH : gp_sg N mu iv (fun x => H x = true)) (hI : cm_I N mu H X F c) {t : Nat} (ht : t < N) (hn : X t = false) {X' : Nat → Bool} {F' : Nat → Nat} (hF : ∀ j, j < c → F' j = F j) (hN : F' c = t) (hX : ∀ x, X' x = true ↔ X x = true ∨ ∃ h, H h = true ∧ x = mu h t) : cm_I N mu H X' F' (c + 1) := by
  have ht' : X' t = true := (hX t).mpr (Or.inr ⟨0, hH.1, (gp_ol g ht).symm⟩)
  refine ⟨fun x hx => ?_, fun j hj => ?_, fun x => ⟨fun hx => ?_, fun ⟨j, h, hj, hh, he⟩ => ?_⟩, ?_⟩
  · rcases (hX x).mp hx with h | ⟨h, hh, he⟩
    · exact hI.1 x h
    · rw [he]; exact gp_m g (hH.2.1 h hh) ht
  · by_cases e : j = c
    · rw [e, hN]; exact ht'
    · rw [hF j (by omega)]; exact (hX _).mpr (Or.inl (hI.2.1 j (by omega)))
  · rcases (hX x).mp hx with h | ⟨h, hh, he⟩
    · obtain ⟨j, i, hj, hi, he⟩ := (hI.2.2.1 x).mp h
      exact ⟨j, i, by omega, hi, by rw [hF j hj]; exact he⟩
    · exact ⟨c, h, by omega, hh, by rw [hN]; exact he⟩
  · by_cases e : j = c
    · rw [e, hN] at he; exact (hX x).mpr (Or.inr ⟨h, hh, he⟩)
    · rw [hF j (by omega)] at he; exact (hX x).mpr (Or.inl ((hI.2.2.1 x).mpr ⟨j, h, by omega, hh, he⟩))
  · have h1 : ma_cn (ma_in X t) N ≤ ma_cn X' N := ma_cn_mono (fun r _ hr => by
      rcases ma_in_iff.mp hr with h | h
      · exact (hX r).mpr (Or.inl h)
      · rw [h]; exact ht')
    rw [ma_cn_in hn ht] at h1
    have := hI.2.2.2
    omega
theorem cm_closed (g : gp_ok N mu iv) (hH : gp_sg N mu iv (fun x => H x = true)) (hI : cm_I N mu H X F c) {gs : Nat → Nat} {k : Nat} (hg : ∀ s, s < k → gs s < N) (h : ∀ j s, j < c → s < k → X (mu (F j) (gs s)) = true) : ∀ x, X x = true → ∀ s, s < k → X (mu x (gs s)) = true := by
  intro x hx s hs
  obtain ⟨j, i, hj, hi, rfl⟩ := (hI.2.2.1 x).mp hx
  rw [gp_as g (hH.2.1 _ hi) (hI.1 _ (hI.2.1 j hj)) (hg s hs)]
  exact cm_left g hH hI hi (h j s hj hs)
end
