/-! The pictures under other addresses that agree, and in worlds that agree -/
section ADL
variable {ca : Nat → ClassId} {ad ad1 : Nat → Nat} {n len : Nat} {tx : Nat → Nat} {pc : Nat} {rk : Nat → Nat} {gc : Nat} {gs : Nat → Nat → Bool} {ws w : va_W}
theorem sy_ad (h1 : ad1 1 = ad 1) (h2 : ad1 2 = ad 2) (h3 : ad1 3 = ad 3) (h : sy_ok ca ad n ws) : sy_ok ca ad1 n ws := by
  unfold sy_ok
  rw [h1, h2, h3]
  exact h
theorem ct_ad (h1 : ad1 4 = ad 4) (h2 : ad1 5 = ad 5) (h3 : ad1 6 = ad 6) (h : ct_ok ca ad n ws len tx) : ct_ok ca ad1 n ws len tx := by
  unfold ct_ok
  rw [h1, h2, h3]
  exact h
theorem li_ad (h1 : ad1 8 = ad 8) (h : li_ok ca ad n ws) : li_ok ca ad1 n ws := by
  unfold li_ok
  rw [h1]
  exact h
theorem su_at_ad {i : Nat} {sz : Int32} {f : Nat → Int64} {g : Nat → Int32} {k : Int32} (h1 : ad1 1 = ad 1) (h8 : ad1 8 = ad 8) (ho : ad1 (10 + 3 * i) = ad (10 + 3 * i)) (hm : ad1 (11 + 3 * i) = ad (11 + 3 * i)) (hg : ad1 (12 + 3 * i) = ad (12 + 3 * i)) (h : su_at ca ad n i ws sz f g k) : su_at ca ad1 n i ws sz f g k := by
  unfold su_at
  rw [h1, h8, ho, hm, hg]
  exact h
theorem su_ad {i k : Nat} {S : Nat → Bool} {G : Nat → Nat} (h1 : ad1 1 = ad 1) (h8 : ad1 8 = ad 8) (ho : ad1 (10 + 3 * i) = ad (10 + 3 * i)) (hm : ad1 (11 + 3 * i) = ad (11 + 3 * i)) (hg : ad1 (12 + 3 * i) = ad (12 + 3 * i)) (h : su_ok ca ad n i ws S G k) : su_ok ca ad1 n i ws S G k := by
  obtain ⟨f, g, h9, hr⟩ := h
  exact ⟨f, g, su_at_ad h1 h8 ho hm hg h9, hr⟩
theorem mgw_ad (ha : ∀ j, j < 52 → ad1 j = ad j) (h : MGW ca ad n (len, tx, pc, rk, gc, gs) ws) : MGW ca ad1 n (len, tx, pc, rk, gc, gs) ws := by
  obtain ⟨z0, hsy, hct, hli, ⟨R, z7, hR⟩, ⟨gr, z9, hgr⟩, hraw, hgs, hp, hrk, hg⟩ := h
  refine ⟨?_, sy_ad (ha 1 (by omega)) (ha 2 (by omega)) (ha 3 (by omega)) hsy, ct_ad (ha 4 (by omega)) (ha 5 (by omega)) (ha 6 (by omega)) hct, li_ad (ha 8 (by omega)) hli, ⟨R, ?_, hR⟩, ⟨gr, ?_, fun i hi => by rw [ha _ (by omega)]; exact hgr i hi⟩, fun i hi => ?_, fun i hi => ?_, hp, hrk, hg⟩
  · rw [ha 0 (by omega), ha 1 (by omega), ha 4 (by omega), ha 7 (by omega), ha 9 (by omega), ha 46 (by omega), ha 49 (by omega)]
    exact z0
  · rw [ha 7 (by omega)]; exact z7
  · rw [ha 9 (by omega)]; exact z9
  · obtain ⟨x1, x2, x3, x4, h⟩ := hraw i hi
    exact ⟨x1, x2, x3, x4, su_at_ad (ha 1 (by omega)) (ha 8 (by omega)) (ha _ (by omega)) (ha _ (by omega)) (ha _ (by omega)) h⟩
  · obtain ⟨x1, x2, h⟩ := hgs i hi
    exact ⟨x1, x2, su_ad (ha 1 (by omega)) (ha 8 (by omega)) (ha _ (by omega)) (ha _ (by omega)) (ha _ (by omega)) h⟩
theorem mgw_fr (hf : ∀ j, j < 52 → w[j]? = ws[j]?) (h : MGW ca ad n (len, tx, pc, rk, gc, gs) ws) : MGW ca ad n (len, tx, pc, rk, gc, gs) w := by
  obtain ⟨z0, hsy, hct, hli, ⟨R, z7, hR⟩, ⟨gr, z9, hgr⟩, hraw, hgs, hp, hrk, hg⟩ := h
  exact ⟨(hf 0 (by omega)).trans z0, sy_fr (hf 1 (by omega)) (hf 2 (by omega)) (hf 3 (by omega)) hsy, ct_fr (hf 4 (by omega)) (hf 5 (by omega)) (hf 6 (by omega)) hct, li_fr (hf 8 (by omega)) hli, ⟨R, (hf 7 (by omega)).trans z7, hR⟩, ⟨gr, (hf 9 (by omega)).trans z9, hgr⟩, fun i hi => by
    obtain ⟨a, b, c, d, h⟩ := hraw i hi
    exact ⟨a, b, c, d, su_at_fr (hf _ (by omega)) (hf _ (by omega)) (hf _ (by omega)) h⟩, fun i hi => by
    obtain ⟨a, b, h⟩ := hgs i hi
    exact ⟨a, b, su_fr (hf _ (by omega)) (hf _ (by omega)) (hf _ (by omega)) h⟩, hp, hrk, hg⟩
theorem mow_ad (ha : ∀ j, 52 ≤ j → ad1 j = ad j) (h : MOW ca ad n (len, tx, pc, rk, gc, gs) ws) : MOW ca ad1 n (len, tx, pc, rk, gc, gs) ws := by
  unfold MOW
  dsimp only
  rw [ha 52 (by omega), ha 53 (by omega), ha 54 (by omega), ha 55 (by omega), ha 56 (by omega), ha 57 (by omega), ha 58 (by omega), ha 59 (by omega)]
  exact h
theorem mow_fr (hf : ∀ j, 52 ≤ j → w[j]? = ws[j]?) (h : MOW ca ad n (len, tx, pc, rk, gc, gs) ws) : MOW ca ad n (len, tx, pc, rk, gc, gs) w := by
  unfold MOW
  dsimp only
  rw [hf 52 (by omega), hf 53 (by omega), hf 54 (by omega), hf 55 (by omega), hf 56 (by omega), hf 57 (by omega), hf 58 (by omega), hf 59 (by omega)]
  exact h
end ADL
