/-! More for Subgroup: what is kept where points stay, least elements, points reached -/
def su_lf (n : Nat) (S : Nat → Bool) (a : Nat) : Nat → Nat
  | 0 => a
  | r + 1 => if S r = true then min (su_lf n S a r) (pm_mu n a r) else su_lf n S a r
def su_ob (n : Nat) (S : Nat → Bool) (x : Nat) : Nat → Nat
  | 0 => 0
  | r + 1 => if S r = true then su_ob n S x r ||| 2 ^ pm_im n r x else su_ob n S x r
theorem su_lf_le (n : Nat) (S : Nat → Bool) (a : Nat) : ∀ r, su_lf n S a r ≤ a
  | 0 => Nat.le_refl _
  | r + 1 => by
    have h := su_lf_le n S a r
    show (if S r = true then min (su_lf n S a r) (pm_mu n a r) else su_lf n S a r) ≤ a
    by_cases hs : S r = true
    · rw [if_pos hs]; omega
    · rw [if_neg hs]; exact h
theorem nb_min {u v : Nat} (hu : u < 2 ^ 31) (hv : v < 2 ^ 31) : (if nI v < nI u then nI v else nI u) = nI (min u v) := by
  by_cases h : v < u
  · rw [if_pos ((nI_ltI hv hu).mpr h)]; congr 1; omega
  · rw [if_neg (fun q => h ((nI_ltI hv hu).mp q))]; congr 1; omega
/-- the elements of S under which the points stay -/
def su_hd (n : Nat) (S : Nat → Bool) (pts : Nat) : Nat → Bool := fun x => S x && pm_hd n x pts
theorem pm_hd_iff {n r pts : Nat} : pm_hd n r pts = true ↔ ∀ x, x < n → pts.testBit x = true → pm_im n r x = x := by
  constructor
  · intro h x hx hb
    rcases Nat.decEq (pm_im n r x) x with e | e
    · rw [pm_hd0 hx hb e] at h; exact absurd h (by decide)
    · exact e
  · exact pm_hd1
theorem su_hd_sg {n pts : Nat} {S : Nat → Bool} (h2 : 2 ≤ n) (h6 : n ≤ 6) (h : gp_sg (pm_fc n) (pm_mu n) (pm_iv n) (fun x => S x = true)) : gp_sg (pm_fc n) (pm_mu n) (pm_iv n) (fun x => su_hd n S pts x = true) := by
  have e : ∀ x, su_hd n S pts x = true ↔ S x = true ∧ ∀ y, y < n → pts.testBit y = true → pm_im n x y = y := fun x => by
    unfold su_hd
    rw [Bool.and_eq_true, pm_hd_iff]
  refine ⟨(e 0).mpr ⟨h.1, fun y hy _ => pm_im0 h2 h6 hy⟩, fun a ha => h.2.1 a ((e a).mp ha).1, fun a b ha hb => ?_, fun a ha => ?_⟩
  · obtain ⟨a1, a2⟩ := (e a).mp ha
    obtain ⟨b1, b2⟩ := (e b).mp hb
    refine (e _).mpr ⟨h.2.2.1 a b a1 b1, fun y hy hp => ?_⟩
    rw [(pm_mu_F h2 h6 (h.2.1 a a1) (h.2.1 b b1)).2 y hy, a2 y hy hp, b2 y hy hp]
  · obtain ⟨a1, a2⟩ := (e a).mp ha
    refine (e _).mpr ⟨h.2.2.2 a a1, fun y hy hp => ?_⟩
    have h3 := pm_ii_im h2 h6 (h.2.1 a a1) hy
    rw [a2 y hy hp] at h3
    rw [(pm_iv_F h2 h6 (h.2.1 a a1)).2 y hy, h3]
