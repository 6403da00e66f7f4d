/-! The reading of a text as cycles: a machine of one character after another. fi: 0 no bracket is open, 1 one is open without a point, 2 + x one whose first point is x; la: its last point; se: the points that stood; p: the images. Nothing of the machine. -/
abbrev ps_T : Type := Nat × Nat × Nat × (Nat → Nat)
def ps_up (p : Nat → Nat) (k v : Nat) : Nat → Nat := fun j => if j = k then v else p j
theorem ps_us (p : Nat → Nat) (k v : Nat) : ps_up p k v k = v := if_pos rfl
theorem ps_un (p : Nat → Nat) {k j : Nat} (v : Nat) (h : j ≠ k) : ps_up p k v j = p j := if_neg h
def ps_st (n c : Nat) (t : ps_T) : Option ps_T :=
  if c = 32 then some t
  else if t.1 = 0 then (if c = 40 then some (1, t.2.1, t.2.2.1, t.2.2.2) else none)
  else if c = 41 then (if t.1 = 1 then none else some (0, t.2.1, t.2.2.1, ps_up t.2.2.2 t.2.1 (t.1 - 2)))
  else if 48 ≤ c ∧ c < 48 + n ∧ t.2.2.1.testBit (c - 48) = false then
    some (if t.1 = 1 then (2 + (c - 48), c - 48, t.2.2.1 ||| 2 ^ (c - 48), t.2.2.2) else (t.1, c - 48, t.2.2.1 ||| 2 ^ (c - 48), ps_up t.2.2.2 t.2.1 (c - 48)))
  else none
/-- from the place i on, f places more: the place of the fault, or what was read -/
def ps_go (n : Nat) (tx : Nat → Nat) : Nat → Nat → ps_T → Nat ⊕ ps_T
  | 0, _, t => .inr t
  | f + 1, i, t => match ps_st n (tx i) t with
    | none => .inl i
    | some u => ps_go n tx f (i + 1) u
def ps_0 : ps_T := (0, 0, 0, fun x => x)
/-- the answer of a reading: where it is faulty, or the images -/
def ps_read (n : Nat) (tx : Nat → Nat) (len : Nat) : Nat ⊕ (Nat → Nat) := match ps_go n tx len 0 ps_0 with
  | .inl i => .inl i
  | .inr t => if t.1 = 0 then .inr t.2.2.2 else .inl len
def ps_pm (n : Nat) (p : Nat → Nat) : Prop := (∀ x, x < n → p x < n) ∧ ∀ x y, x < n → y < n → p x = p y → x = y
def ps_ok (n : Nat) (t : ps_T) : Prop := (∀ x, x < n → t.2.2.1.testBit x = false → t.2.2.2 x = x) ∧ (t.1 = 0 ∨ t.1 = 1 → ps_pm n t.2.2.2) ∧ (2 ≤ t.1 → t.1 - 2 < n ∧ t.2.1 < n ∧ t.2.2.1.testBit (t.1 - 2) = true ∧ t.2.2.1.testBit t.2.1 = true ∧ ps_pm n (ps_up t.2.2.2 t.2.1 (t.1 - 2)))
theorem ps_ok0 (n : Nat) : ps_ok n ps_0 := ⟨fun _ _ _ => rfl, fun _ => ⟨fun _ h => h, fun _ _ _ _ h => h⟩, fun h => absurd h (by decide)⟩
theorem ps_ok1 {n c : Nat} {t u : ps_T} (h : ps_ok n t) (hu : ps_st n c t = some u) : ps_ok n u := by
  obtain ⟨fi, la, se, p⟩ := t
  obtain ⟨h1, h2, h3⟩ := h
  dsimp only at h1 h2 h3
  unfold ps_st at hu
  dsimp only at hu
  split at hu
  · cases hu; exact ⟨h1, h2, h3⟩
  · split at hu
    · split at hu
      · cases hu
        exact ⟨h1, fun _ => h2 (Or.inl (by assumption)), fun h => absurd h (by dsimp only; omega)⟩
      · cases hu
    · split at hu
      · split at hu
        · cases hu
        · cases hu
          rename_i hc0 hc1 hc2 hc3
          have h4 := h3 (by omega)
          refine ⟨fun x hx hs => ?_, fun _ => h4.2.2.2.2, fun h => absurd h (by dsimp only; omega)⟩
          dsimp only at hs ⊢
          have hne : x ≠ la := fun e => by rw [e, h4.2.2.2.1] at hs; exact absurd hs (by decide)
          rw [ps_un _ _ hne]
          exact h1 x hx hs
      · split at hu
        · rename_i hc0 hc1 hc2 hc3
          obtain ⟨hx0, hx1, hx2⟩ := hc3
          have hxn : c - 48 < n := by omega
          have hpx : p (c - 48) = c - 48 := h1 _ hxn hx2
          have hbit : ∀ y, (se ||| 2 ^ (c - 48)).testBit y = false → y ≠ c - 48 ∧ se.testBit y = false := fun y hy => by
            rw [Nat.testBit_or, Bool.or_eq_false_iff] at hy
            refine ⟨fun e => ?_, hy.1⟩
            rw [e, Nat.testBit_two_pow_self] at hy
            exact absurd hy.2 (by decide)
          have hset : (se ||| 2 ^ (c - 48)).testBit (c - 48) = true := by rw [Nat.testBit_or, Nat.testBit_two_pow_self, Bool.or_true]
          have hkeep : ∀ y, se.testBit y = true → (se ||| 2 ^ (c - 48)).testBit y = true := fun y hy => by rw [Nat.testBit_or, hy, Bool.true_or]
          split at hu
          · cases hu
            rename_i hf
            have hp := h2 (Or.inr hf)
            refine ⟨fun x hx hs => h1 x hx (hbit x hs).2, fun h => absurd h (by dsimp only; omega), fun _ => ?_⟩
            dsimp only
            have e2 : 2 + (c - 48) - 2 = c - 48 := by omega
            have e3 : ps_up p (c - 48) (c - 48) = p := by
              funext y
              by_cases hy : y = c - 48
              · subst hy; rw [ps_us, hpx]
              · rw [ps_un _ _ hy]
            rw [e2, e3]
            exact ⟨hxn, hxn, hset, hset, hp⟩
          · cases hu
            rename_i hf
            have h4 := h3 (by omega)
            have hla : c - 48 ≠ la := fun e => by rw [e, h4.2.2.2.1] at hx2; exact absurd hx2 (by decide)
            refine ⟨fun x hx hs => ?_, fun h => absurd h (by dsimp only; omega), fun _ => ?_⟩
            · dsimp only at hs ⊢
              have hne : x ≠ la := fun e => by
                have := (hbit x hs).2
                rw [e, h4.2.2.2.1] at this; exact absurd this (by decide)
              rw [ps_un _ _ hne]
              exact h1 x hx (hbit x hs).2
            · dsimp only
              refine ⟨h4.1, hxn, hkeep _ h4.2.2.1, hset, ?_⟩
              obtain ⟨q1, q2⟩ := h4.2.2.2.2
              -- q' is q with the values at la and at the new point changed over
              have sw : ∀ y, ps_up (ps_up p la (c - 48)) (c - 48) (fi - 2) y = ps_up p la (fi - 2) (if y = la then c - 48 else if y = c - 48 then la else y) := by
                intro y
                by_cases e1 : y = c - 48
                · subst e1
                  rw [ps_us, if_neg hla, if_pos rfl, ps_us]
                · rw [ps_un _ _ e1]
                  by_cases e2 : y = la
                  · subst e2
                    rw [ps_us, if_pos rfl, ps_un _ _ hla, hpx]
                  · rw [ps_un _ _ e2, if_neg e2, if_neg e1, ps_un _ _ e2]
              have sl : ∀ y, y < n → (if y = la then c - 48 else if y = c - 48 then la else y) < n := fun y hy => by
                by_cases e2 : y = la
                · rw [if_pos e2]; exact hxn
                · rw [if_neg e2]
                  by_cases e1 : y = c - 48
                  · rw [if_pos e1]; exact h4.2.1
                  · rw [if_neg e1]; exact hy
              refine ⟨fun y hy => by rw [sw]; exact q1 _ (sl y hy), fun y z hy hz he => ?_⟩
              rw [sw, sw] at he
              have h5 := q2 _ _ (sl y hy) (sl z hz) he
              repeat' split at h5
              all_goals omega
        · cases hu
theorem ps_go_ok {n : Nat} {tx : Nat → Nat} : ∀ (f i : Nat) (t u : ps_T), ps_ok n t → ps_go n tx f i t = .inr u → ps_ok n u
  | 0, _, t, u, h, he => by cases he; exact h
  | f + 1, i, t, u, h, he => by
    unfold ps_go at he
    split at he
    · cases he
    · rename_i v hv
      exact ps_go_ok f (i + 1) v u (ps_ok1 h hv) he
/-- what is read without a fault is a permutation -/
theorem ps_read_pm {n : Nat} {tx : Nat → Nat} {len : Nat} {p : Nat → Nat} (h : ps_read n tx len = .inr p) : ps_pm n p := by
  unfold ps_read at h
  split at h
  · cases h
  · rename_i t ht
    split at h
    · cases h
      exact (ps_go_ok len 0 ps_0 t (ps_ok0 n) ht).2.1 (Or.inl (by assumption))
    · cases h
