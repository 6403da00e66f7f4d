/-! What each call answers and leaves: the state is (how many typed, what is typed, how many permutations, their ranks, how many groups, the groups as sets). Nothing of the machine. -/
abbrev sp_S : Type := Nat × (Nat → Nat) × Nat × (Nat → Nat) × Nat × (Nat → Nat → Bool)
def sp_ix (x : Int32) (k : Nat) : Option Nat := if x < 0 ∨ nI k ≤ x then none else some x.toNatClampNeg
theorem sp_ix_in {j k : Nat} (h : j < k) (hk : k < 2 ^ 31) : sp_ix (nI j) k = some j := by
  unfold sp_ix
  rw [if_neg, nI_clamp (by omega)]
  rintro (q | q)
  · exact nI_pos (by omega) q
  · exact nI_ge h hk q
theorem sp_ix_no {x : Int32} {k : Nat} (h : x < 0 ∨ nI k ≤ x) : sp_ix x k = none := if_pos h
theorem sp_ix_or (x : Int32) {k : Nat} (hk : k < 2 ^ 31) : ((x < 0 ∨ nI k ≤ x) ∧ sp_ix x k = none) ∨ ∃ j, j < k ∧ x = nI j ∧ sp_ix x k = some j := by
  rcases pk_ix x hk with h | h | ⟨j, hj, rfl⟩
  · exact Or.inl ⟨Or.inl h, sp_ix_no (Or.inl h)⟩
  · exact Or.inl ⟨Or.inr h, sp_ix_no (Or.inr h)⟩
  · exact Or.inr ⟨j, hj, rfl, sp_ix_in hj hk⟩
/-- sets that are what they are by their property -/
noncomputable def sp_the (P : (Nat → Bool) → Prop) (d : Nat → Bool) : Nat → Bool := @dite _ (∃ T, P T) (Classical.propDecidable _) (fun h => Classical.choose h) (fun _ => d)
theorem sp_the_eq {P : (Nat → Bool) → Prop} {d T : Nat → Bool} (hT : P T) (hu : ∀ T U, P T → P U → ∀ x, T x = true ↔ U x = true) : sp_the P d = T := by
  have h : ∃ T, P T := ⟨T, hT⟩
  have e : sp_the P d = Classical.choose h := dif_pos h
  rw [e]
  funext x
  have h1 := hu _ _ (Classical.choose_spec h) hT x
  cases hb : T x with
  | true => exact h1.mpr hb
  | false =>
    cases hc : Classical.choose h x with
    | false => rfl
    | true => rw [h1.mp hc] at hb; exact absurd hb (by decide)
noncomputable def sp_gen (n : Nat) (S : Nat → Bool) (a : Nat) : Nat → Bool := sp_the (fun T => gp_ext (pm_fc n) (pm_mu n) (pm_iv n) (fun x => S x = true) a (fun x => T x = true)) S
noncomputable def sp_clo (n : Nat) (G H : Nat → Bool) : Nat → Bool := sp_the (fun T => gp_clo (pm_fc n) (pm_mu n) (pm_iv n) (fun x => G x = true) (fun x => H x = true) (fun x => T x = true)) H
noncomputable def sp_der (n : Nat) (G : Nat → Bool) : Nat → Bool := sp_the (fun T => gp_der (pm_fc n) (pm_mu n) (pm_iv n) (fun x => G x = true) (fun x => T x = true)) G
theorem sp_gen_eq {n : Nat} {S T : Nat → Bool} {a : Nat} (h : gp_ext (pm_fc n) (pm_mu n) (pm_iv n) (fun x => S x = true) a (fun x => T x = true)) : sp_gen n S a = T := sp_the_eq h (fun _ _ h1 h2 => gp_ext_uq h1 h2)
theorem sp_clo_eq {n : Nat} {G H T : Nat → Bool} (h : gp_clo (pm_fc n) (pm_mu n) (pm_iv n) (fun x => G x = true) (fun x => H x = true) (fun x => T x = true)) : sp_clo n G H = T := sp_the_eq h (fun _ _ h1 h2 => gp_clo_uq h1 h2)
theorem sp_der_eq {n : Nat} {G T : Nat → Bool} (h : gp_der (pm_fc n) (pm_mu n) (pm_iv n) (fun x => G x = true) (fun x => T x = true)) : sp_der n G = T := sp_the_eq h (fun _ _ h1 h2 => gp_der_uq h1 h2)
def sp_sub (n : Nat) (S T : Nat → Bool) : Bool := (List.range (pm_fc n)).all (fun x => !S x || T x)
theorem sp_sub1 {n : Nat} {S T : Nat → Bool} (h : ∀ x, S x = true → T x = true) : sp_sub n S T = true := List.all_eq_true.mpr (fun x _ => by
  cases hs : S x with
  | false => rfl
  | true => rw [h x hs]; rfl)
theorem sp_sub0 {n x : Nat} {S T : Nat → Bool} (hx : x < pm_fc n) (hs : S x = true) (ht : T x = false) : sp_sub n S T = false := by
  cases hc : sp_sub n S T with
  | false => rfl
  | true =>
    have h1 := List.all_eq_true.mp hc x (List.mem_range.mpr hx)
    rw [hs, ht] at h1
    exact absurd h1 (by decide)
def sp_nrm (n : Nat) (G H : Nat → Bool) : Bool := (List.range (pm_fc n)).all (fun x => (List.range (pm_fc n)).all (fun a => !(H x && G a) || H (ga_cj (pm_mu n) (pm_iv n) x a)))
theorem sp_nrm1 {n : Nat} {G H : Nat → Bool} (h : ∀ x a, H x = true → G a = true → H (ga_cj (pm_mu n) (pm_iv n) x a) = true) : sp_nrm n G H = true := List.all_eq_true.mpr (fun x _ => List.all_eq_true.mpr (fun a _ => by
  cases hx : H x with
  | false => rfl
  | true =>
    cases ha : G a with
    | false => rfl
    | true => rw [h x a hx ha]; rfl))
theorem sp_nrm0 {n x a : Nat} {G H : Nat → Bool} (hx : x < pm_fc n) (ha : a < pm_fc n) (h1 : H x = true) (h2 : G a = true) (h3 : H (ga_cj (pm_mu n) (pm_iv n) x a) = false) : sp_nrm n G H = false := by
  cases hc : sp_nrm n G H with
  | false => rfl
  | true =>
    have h4 := List.all_eq_true.mp (List.all_eq_true.mp hc x (List.mem_range.mpr hx)) a (List.mem_range.mpr ha)
    rw [h1, h2, h3] at h4
    exact absurd h4 (by decide)
def sp_up (gs : Nat → Nat → Bool) (i : Nat) (S : Nat → Bool) : Nat → Nat → Bool := fun j => if j = i then S else gs j
theorem sp_us (gs : Nat → Nat → Bool) (i : Nat) (S : Nat → Bool) : sp_up gs i S i = S := if_pos rfl
theorem sp_un (gs : Nat → Nat → Bool) {i j : Nat} (S : Nat → Bool) (h : j ≠ i) : sp_up gs i S j = gs j := if_neg h
def sp_keep : sp_S → Nat → Int32 × sp_S
  | (len, tx, pc, rk, gc, gs), r => if pc < 40 then (nI pc, (len, tx, pc + 1, su_up rk pc r, gc, gs)) else ((-1), (len, tx, pc, rk, gc, gs))
def sp_type : sp_S → Int32 → Int32 → Int32 × sp_S
  | (len, tx, pc, rk, gc, gs), word, x => if ¬ (x < 1 ∨ 4 < x) ∧ ty_ok len x.toNatClampNeg word = true then (nI 1, (len + x.toNatClampNeg, ty_tx len x.toNatClampNeg word tx, pc, rk, gc, gs)) else (nI 0, (len, tx, pc, rk, gc, gs))
def sp_read (n : Nat) : sp_S → Int32 × sp_S
  | (len, tx, pc, rk, gc, gs) => match ps_read n tx len with
    | .inl i => ((-1) - nI i, (0, tx, pc, rk, gc, gs))
    | .inr p => if pc < 40 then sp_keep (0, tx, pc, rk, gc, gs) (pm_rk n p) else ((-1000), (0, tx, pc, rk, gc, gs))
def sp_product (n : Nat) : sp_S → Int32 → Int32 → Int32 × sp_S
  | (len, tx, pc, rk, gc, gs), a, b => match sp_ix a pc, sp_ix b pc with
    | some i, some j => sp_keep (len, tx, pc, rk, gc, gs) (pm_mu n (rk i) (rk j))
    | _, _ => ((-1), (len, tx, pc, rk, gc, gs))
def sp_inverse (n : Nat) : sp_S → Int32 → Int32 × sp_S
  | (len, tx, pc, rk, gc, gs), a => match sp_ix a pc with
    | some i => sp_keep (len, tx, pc, rk, gc, gs) (pm_iv n (rk i))
    | none => ((-1), (len, tx, pc, rk, gc, gs))
def sp_images (n : Nat) : sp_S → Int32 → Int32 × sp_S
  | (len, tx, pc, rk, gc, gs), a => match sp_ix a pc with
    | some i => (nI (pm_ds n (rk i) n), (len, tx, pc, rk, gc, gs))
    | none => ((-1), (len, tx, pc, rk, gc, gs))
/-- one group more -/
def sp_new : sp_S → (Nat → Bool) → Int32 × sp_S
  | (len, tx, pc, rk, gc, gs), S => if gc < 12 then (nI gc, (len, tx, pc, rk, gc + 1, sp_up gs gc S)) else ((-1), (len, tx, pc, rk, gc, gs))
def sp_group (s : sp_S) : Int32 × sp_S := sp_new s su_one
noncomputable def sp_generate (n : Nat) : sp_S → Int32 → Int32 → Int32 × sp_S
  | (len, tx, pc, rk, gc, gs), g, a => match sp_ix g gc, sp_ix a pc with
    | some i, some j => (nI (ma_cn (sp_gen n (gs i) (rk j)) (pm_fc n)), (len, tx, pc, rk, gc, sp_up gs i (sp_gen n (gs i) (rk j))))
    | _, _ => ((-1), (len, tx, pc, rk, gc, gs))
def sp_order (n : Nat) : sp_S → Int32 → Int32 × sp_S
  | (len, tx, pc, rk, gc, gs), g => match sp_ix g gc with
    | some i => (nI (ma_cn (gs i) (pm_fc n)), (len, tx, pc, rk, gc, gs))
    | none => ((-1), (len, tx, pc, rk, gc, gs))
def sp_contains : sp_S → Int32 → Int32 → Int32 × sp_S
  | (len, tx, pc, rk, gc, gs), g, a => match sp_ix g gc, sp_ix a pc with
    | some i, some j => (nI (if gs i (rk j) = true then 1 else 0), (len, tx, pc, rk, gc, gs))
    | _, _ => (nI 0, (len, tx, pc, rk, gc, gs))
def sp_element (n : Nat) : sp_S → Int32 → Int32 → Int32 × sp_S
  | (len, tx, pc, rk, gc, gs), g, k => match sp_ix g gc with
    | some i => (match sp_ix k (ma_cn (gs i) (pm_fc n)) with
      | some q => sp_keep (len, tx, pc, rk, gc, gs) (ma_el (gs i) q (pm_fc n))
      | none => ((-1), (len, tx, pc, rk, gc, gs)))
    | none => ((-1), (len, tx, pc, rk, gc, gs))
def sp_least (n : Nat) : sp_S → Int32 → Int32 → Int32 × sp_S
  | (len, tx, pc, rk, gc, gs), g, a => match sp_ix g gc, sp_ix a pc with
    | some i, some j => sp_keep (len, tx, pc, rk, gc, gs) (su_lf n (gs i) (rk j) (pm_fc n))
    | _, _ => ((-1), (len, tx, pc, rk, gc, gs))
def sp_orbit (n : Nat) : sp_S → Int32 → Int32 → Int32 × sp_S
  | (len, tx, pc, rk, gc, gs), g, x => match sp_ix g gc, sp_ix x n with
    | some i, some j => (nI (su_ob n (gs i) j (pm_fc n)), (len, tx, pc, rk, gc, gs))
    | _, _ => ((-1), (len, tx, pc, rk, gc, gs))
def sp_hold (n : Nat) : sp_S → Int32 → Int32 → Int32 × sp_S
  | (len, tx, pc, rk, gc, gs), g, x => match sp_ix g gc, sp_ix x (2 ^ n) with
    | some i, some j => sp_new (len, tx, pc, rk, gc, gs) (su_hd n (gs i) j)
    | _, _ => ((-1), (len, tx, pc, rk, gc, gs))
def sp_compare (n : Nat) : sp_S → Int32 → Int32 → Int32 × sp_S
  | (len, tx, pc, rk, gc, gs), g, h => match sp_ix g gc, sp_ix h gc with
    | some i, some j => (nI ((if sp_sub n (gs i) (gs j) = true then 1 else 0) + (if sp_sub n (gs j) (gs i) = true then 2 else 0)), (len, tx, pc, rk, gc, gs))
    | _, _ => ((-1), (len, tx, pc, rk, gc, gs))
def sp_normal (n : Nat) : sp_S → Int32 → Int32 → Int32 × sp_S
  | (len, tx, pc, rk, gc, gs), g, h => match sp_ix g gc, sp_ix h gc with
    | some i, some j => (nI (if sp_sub n (gs j) (gs i) = true ∧ sp_nrm n (gs i) (gs j) = true then 1 else 0), (len, tx, pc, rk, gc, gs))
    | _, _ => (nI 0, (len, tx, pc, rk, gc, gs))
noncomputable def sp_closure (n : Nat) : sp_S → Int32 → Int32 → Int32 × sp_S
  | (len, tx, pc, rk, gc, gs), g, h => match sp_ix g gc, sp_ix h gc with
    | some i, some j => sp_new (len, tx, pc, rk, gc, gs) (sp_clo n (gs i) (gs j))
    | _, _ => ((-1), (len, tx, pc, rk, gc, gs))
noncomputable def sp_derived (n : Nat) : sp_S → Int32 → Int32 × sp_S
  | (len, tx, pc, rk, gc, gs), g => match sp_ix g gc with
    | some i => sp_new (len, tx, pc, rk, gc, gs) (sp_der n (gs i))
    | none => ((-1), (len, tx, pc, rk, gc, gs))
noncomputable def sp_ln (n : Nat) : Nat → Nat → (Nat → Bool) → Int32
  | 0, _, _ => (-1)
  | f + 1, st, S => if ma_cn S (pm_fc n) = 1 then nI st else if ma_cn (sp_der n S) (pm_fc n) = ma_cn S (pm_fc n) then (-1) else sp_ln n f (st + 1) (sp_der n S)
noncomputable def sp_length (n : Nat) : sp_S → Int32 → Int32 × sp_S
  | (len, tx, pc, rk, gc, gs), g => match sp_ix g gc with
    | some i => (sp_ln n 10 0 (gs i), (len, tx, pc, rk, gc, gs))
    | none => ((-1), (len, tx, pc, rk, gc, gs))
def sp_clear : sp_S → Int32 × sp_S
  | (_, tx, _, rk, gc, gs) => (nI gc, (0, tx, 1, rk, 0, gs))
/-- the class's cells hold the state -/
def MGW (ca : Nat → ClassId) (ad : Nat → Nat) (n : Nat) : sp_S → va_W → Prop
  | (len, tx, pc, rk, gc, gs), ws => ws[0]? = some (ad 0, .inr (0, [.ref (ad 1), .ref (ad 4), .ref (ad 7), .int (nI pc), .ref (ad 9), .int (nI gc), .ref (ad 46), .ref (ad 49)])) ∧ sy_ok ca ad n ws ∧ ct_ok ca ad n ws len tx ∧ li_ok ca ad n ws ∧ (∃ R : Nat → Int32, ws[7]? = some (ad 7, .inl (ca 1, 40, .inl R)) ∧ ∀ i, i < pc → R i = nI (rk i)) ∧ (∃ gr : Nat → Option Nat, ws[9]? = some (ad 9, .inl (ca 4, 12, .inr (.inr (.inr (.inr gr))))) ∧ ∀ i, i < 12 → gr i = some (ad (10 + 3 * i))) ∧ (∀ i, i < 14 → ∃ (sz : Int32) (f : Nat → Int64) (g : Nat → Int32) (k : Int32), su_at ca ad n i ws sz f g k) ∧ (∀ i, i < gc → ∃ (G : Nat → Nat) (k : Nat), su_ok ca ad n i ws (gs i) G k) ∧ (1 ≤ pc ∧ pc ≤ 40) ∧ (∀ i, i < pc → rk i < pm_fc n) ∧ gc ≤ 12
section
variable {ca : Nat → ClassId} {ad : Nat → Nat} {n : Nat} {len : Nat} {tx : Nat → Nat} {pc : Nat} {rk : Nat → Nat} {gc : Nat} {gs : Nat → Nat → Bool} {ws w : va_W}
theorem su_at_fr {i : Nat} {sz : Int32} {f : Nat → Int64} {g : Nat → Int32} {k : Int32} (h0 : w[10 + 3 * i]? = ws[10 + 3 * i]?) (h1 : w[11 + 3 * i]? = ws[11 + 3 * i]?) (h2 : w[12 + 3 * i]? = ws[12 + 3 * i]?) (h : su_at ca ad n i ws sz f g k) : su_at ca ad n i w sz f g k := by
  unfold su_at
  rw [h0, h1, h2]
  exact h
/-- the row alone changed -/
theorem mgw_row (h : MGW ca ad n (len, tx, pc, rk, gc, gs) ws) (hf : ∀ j, j ≠ 3 → w[j]? = ws[j]?) (hs : sy_ok ca ad n w) : MGW ca ad n (len, tx, pc, rk, gc, gs) w := by
  obtain ⟨z0, hsy, hct, hli, ⟨R, z7, hR⟩, ⟨gr, z9, hgr⟩, hraw, hgs, hp, hrk, hg⟩ := h
  exact ⟨(hf 0 (by omega)).trans z0, hs, ct_fr (hf 4 (by omega)) (hf 5 (by omega)) (hf 6 (by omega)) hct, li_fr (hf 8 (by omega)) hli, ⟨R, (hf 7 (by omega)).trans z7, hR⟩, ⟨gr, (hf 9 (by omega)).trans z9, hgr⟩, fun i hi => by
    obtain ⟨a, b, c, d, h⟩ := hraw i hi
    exact ⟨a, b, c, d, su_at_fr (hf _ (by omega)) (hf _ (by omega)) (hf _ (by omega)) h⟩, fun i hi => by
    obtain ⟨a, b, h⟩ := hgs i hi
    exact ⟨a, b, su_fr (hf _ (by omega)) (hf _ (by omega)) (hf _ (by omega)) h⟩, hp, hrk, hg⟩
/-- what is typed changed alone -/
theorem mgw_ct {len1 : Nat} {tx1 : Nat → Nat} (h : MGW ca ad n (len, tx, pc, rk, gc, gs) ws) (hf : ∀ j, j ≠ 4 ∧ j ≠ 5 ∧ j ≠ 6 → w[j]? = ws[j]?) (hc : ct_ok ca ad n w len1 tx1) : MGW ca ad n (len1, tx1, pc, rk, gc, gs) w := by
  obtain ⟨z0, hsy, hct, hli, ⟨R, z7, hR⟩, ⟨gr, z9, hgr⟩, hraw, hgs, hp, hrk, hg⟩ := h
  exact ⟨(hf 0 (by omega)).trans z0, sy_fr (hf 1 (by omega)) (hf 2 (by omega)) (hf 3 (by omega)) hsy, hc, li_fr (hf 8 (by omega)) hli, ⟨R, (hf 7 (by omega)).trans z7, hR⟩, ⟨gr, (hf 9 (by omega)).trans z9, hgr⟩, fun i hi => by
    obtain ⟨a, b, c, d, h⟩ := hraw i hi
    exact ⟨a, b, c, d, su_at_fr (hf _ (by omega)) (hf _ (by omega)) (hf _ (by omega)) h⟩, fun i hi => by
    obtain ⟨a, b, h⟩ := hgs i hi
    exact ⟨a, b, su_fr (hf _ (by omega)) (hf _ (by omega)) (hf _ (by omega)) h⟩, hp, hrk, hg⟩
/-- the object's numbers and the ranks changed alone -/
theorem mgw_obj {pc1 gc1 : Nat} {rk1 : Nat → Nat} {R1 : Nat → Int32} (h : MGW ca ad n (len, tx, pc, rk, gc, gs) ws) (hf : ∀ j, j ≠ 0 ∧ j ≠ 7 → w[j]? = ws[j]?) (h0 : w[0]? = some (ad 0, .inr (0, [.ref (ad 1), .ref (ad 4), .ref (ad 7), .int (nI pc1), .ref (ad 9), .int (nI gc1), .ref (ad 46), .ref (ad 49)]))) (h7 : w[7]? = some (ad 7, .inl (ca 1, 40, .inl R1))) (hR1 : ∀ i, i < pc1 → R1 i = nI (rk1 i)) (hp1 : 1 ≤ pc1 ∧ pc1 ≤ 40) (hr1 : ∀ i, i < pc1 → rk1 i < pm_fc n) (hg1 : gc1 ≤ gc) : MGW ca ad n (len, tx, pc1, rk1, gc1, gs) w := by
  obtain ⟨z0, hsy, hct, hli, -, ⟨gr, z9, hgr⟩, hraw, hgs, hp, hrk, hg⟩ := h
  exact ⟨h0, sy_fr (hf 1 (by omega)) (hf 2 (by omega)) (hf 3 (by omega)) hsy, ct_fr (hf 4 (by omega)) (hf 5 (by omega)) (hf 6 (by omega)) hct, li_fr (hf 8 (by omega)) hli, ⟨R1, h7, hR1⟩, ⟨gr, (hf 9 (by omega)).trans z9, hgr⟩, fun i hi => by
    obtain ⟨a, b, c, d, h⟩ := hraw i hi
    exact ⟨a, b, c, d, su_at_fr (hf _ (by omega)) (hf _ (by omega)) (hf _ (by omega)) h⟩, fun i hi => by
    obtain ⟨a, b, h⟩ := hgs i (by omega)
    exact ⟨a, b, su_fr (hf _ (by omega)) (hf _ (by omega)) (hf _ (by omega)) h⟩, hp1, hr1, by omega⟩
/-- the i-th Subgroup changed (and row and listed): a group that counts -/
theorem mgw_su {i k1 : Nat} {S1 : Nat → Bool} {G1 : Nat → Nat} (h : MGW ca ad n (len, tx, pc, rk, gc, gs) ws) (hi : i < gc) (hf : ∀ j, j ≠ 3 ∧ j ≠ 8 ∧ j ≠ 10 + 3 * i ∧ j ≠ 11 + 3 * i ∧ j ≠ 12 + 3 * i → w[j]? = ws[j]?) (hs : sy_ok ca ad n w) (hl : li_ok ca ad n w) (hsu : su_ok ca ad n i w S1 G1 k1) : MGW ca ad n (len, tx, pc, rk, gc, sp_up gs i S1) w := by
  obtain ⟨z0, hsy, hct, hli, ⟨R, z7, hR⟩, ⟨gr, z9, hgr⟩, hraw, hgs, hp, hrk, hg⟩ := h
  exact ⟨(hf 0 (by omega)).trans z0, hs, ct_fr (hf 4 (by omega)) (hf 5 (by omega)) (hf 6 (by omega)) hct, hl, ⟨R, (hf 7 (by omega)).trans z7, hR⟩, ⟨gr, (hf 9 (by omega)).trans z9, hgr⟩, fun j hj => by
    by_cases e : j = i
    · subst e
      obtain ⟨f, g, h, -⟩ := hsu
      exact ⟨_, f, g, _, h⟩
    · obtain ⟨a, b, c, d, h⟩ := hraw j hj
      exact ⟨a, b, c, d, su_at_fr (hf _ (by omega)) (hf _ (by omega)) (hf _ (by omega)) h⟩, fun j hj => by
    by_cases e : j = i
    · subst e
      rw [sp_us]
      exact ⟨G1, k1, hsu⟩
    · obtain ⟨a, b, h⟩ := hgs j hj
      rw [sp_un _ _ e]
      exact ⟨a, b, su_fr (hf _ (by omega)) (hf _ (by omega)) (hf _ (by omega)) h⟩, hp, hrk, hg⟩
/-- a Subgroup changed that doesn't count -/
theorem mgw_sp {i : Nat} {sz : Int32} {f : Nat → Int64} {g : Nat → Int32} {k : Int32} (h : MGW ca ad n (len, tx, pc, rk, gc, gs) ws) (hi : gc ≤ i) (hf : ∀ j, j ≠ 3 ∧ j ≠ 8 ∧ j ≠ 10 + 3 * i ∧ j ≠ 11 + 3 * i ∧ j ≠ 12 + 3 * i → w[j]? = ws[j]?) (hs : sy_ok ca ad n w) (hl : li_ok ca ad n w) (hsu : su_at ca ad n i w sz f g k) : MGW ca ad n (len, tx, pc, rk, gc, gs) w := by
  obtain ⟨z0, hsy, hct, hli, ⟨R, z7, hR⟩, ⟨gr, z9, hgr⟩, hraw, hgs, hp, hrk, hg⟩ := h
  exact ⟨(hf 0 (by omega)).trans z0, hs, ct_fr (hf 4 (by omega)) (hf 5 (by omega)) (hf 6 (by omega)) hct, hl, ⟨R, (hf 7 (by omega)).trans z7, hR⟩, ⟨gr, (hf 9 (by omega)).trans z9, hgr⟩, fun j hj => by
    by_cases e : j = i
    · subst e
      exact ⟨_, f, g, _, hsu⟩
    · obtain ⟨a, b, c, d, h⟩ := hraw j hj
      exact ⟨a, b, c, d, su_at_fr (hf _ (by omega)) (hf _ (by omega)) (hf _ (by omega)) h⟩, fun j hj => by
    obtain ⟨a, b, h⟩ := hgs j hj
    exact ⟨a, b, su_fr (hf _ (by omega)) (hf _ (by omega)) (hf _ (by omega)) h⟩, hp, hrk, hg⟩
end
