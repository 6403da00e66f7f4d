/-! The picture of the reference's cells -/
def MOW (ca : Nat → ClassId) (ad : Nat → Nat) (n : Nat) : sp_S → va_W → Prop
  | (len, tx, pc, rk, gc, gs), ws => ws[52]? = some (ad 52, .inr (4, [.int (nI n), .int (nI (pm_fc n)), .ref (ad 53), .int (nI pc), .ref (ad 54), .int (nI gc), .ref (ad 55), .ref (ad 56), .ref (ad 57), .ref (ad 58), .ref (ad 59), .int (nI len)])) ∧ (∃ im : Nat → Int32, ws[53]? = some (ad 53, .inl (ca 1, 720, .inl im)) ∧ ∀ r, r < pm_fc n → im r = nI (qk_p (pm_im n r) n)) ∧ (∃ pe : Nat → Int32, ws[54]? = some (ad 54, .inl (ca 1, 40, .inl pe)) ∧ ∀ i, i < pc → pe i = nI (rk i)) ∧ (∃ (st : Nat → Int64) (my ge : Nat → Int32), ws[55]? = some (ad 55, .inl (ca 2, 180, .inr (.inl st))) ∧ ws[56]? = some (ad 56, .inl (ca 1, 15, .inl my)) ∧ ws[57]? = some (ad 57, .inl (ca 1, 300, .inl ge)) ∧ ∀ i, i < gc → ∃ (G : Nat → Nat) (k : Nat), mo_g n st my ge i (gs i) G k) ∧ (∃ fn : Nat → Int32, ws[58]? = some (ad 58, .inl (ca 1, 720, .inl fn))) ∧ (∃ ch : Nat → Int32, ws[59]? = some (ad 59, .inl (ca 1, 40, .inl ch)) ∧ ∀ i, i < len → ch i = nI (tx i)) ∧ len ≤ 40 ∧ (∀ i, i < len → tx i < 128) ∧ (1 ≤ pc ∧ pc ≤ 40) ∧ (∀ i, i < pc → rk i < pm_fc n) ∧ gc ≤ 12
theorem mow_up {n gc i k1 : Nat} {gs : Nat → Nat → Bool} {st st1 : Nat → Int64} {my ge my1 ge1 : Nat → Int32} {S1 : Nat → Bool} {G1 : Nat → Nat} (h6 : n ≤ 6) (hg : gc ≤ 12) (hs : mo_sm st my ge st1 my1 ge1 i) (hgs : ∀ j, j < gc → ∃ (G : Nat → Nat) (k : Nat), mo_g n st my ge j (gs j) G k) (h1 : mo_g n st1 my1 ge1 i S1 G1 k1) : ∀ j, j < gc → ∃ (G : Nat → Nat) (k : Nat), mo_g n st1 my1 ge1 j (sp_up gs i S1 j) G k := fun j hj => by
  by_cases e : j = i
  · subst e
    rw [sp_us]
    exact ⟨_, _, h1⟩
  · obtain ⟨G, k, h⟩ := hgs j hj
    rw [sp_un _ _ e]
    exact ⟨G, k, mo_g_fr h6 hs e (by omega) (by omega) h⟩
theorem mow_sp {n gc i : Nat} {gs : Nat → Nat → Bool} {st st1 : Nat → Int64} {my ge my1 ge1 : Nat → Int32} (h6 : n ≤ 6) (hi : 12 ≤ i) (hg : gc ≤ 12) (hs : mo_sm st my ge st1 my1 ge1 i) (hgs : ∀ j, j < gc → ∃ (G : Nat → Nat) (k : Nat), mo_g n st my ge j (gs j) G k) : ∀ j, j < gc → ∃ (G : Nat → Nat) (k : Nat), mo_g n st1 my1 ge1 j (gs j) G k := fun j hj => by
  obtain ⟨G, k, h⟩ := hgs j hj
  exact ⟨G, k, mo_g_fr h6 hs (by omega) (by omega) (by omega) h⟩
theorem mow_k0 {n q k : Nat} {st : Nat → Int64} {my ge : Nat → Int32} {G : Nat → Nat} (h : mo_g n st my ge q su_one G k) : k = 0 := by
  have h1 := h.2.2.2.2
  rw [su_one_cn (pm_fc_pos n)] at h1
  cases k with
  | zero => rfl
  | succ k =>
    rw [Nat.pow_succ] at h1
    have h2 : 0 < 2 ^ k := Nat.pow_pos (by decide)
    omega
