/-! The reference's rows: what stays, what grows -/
def mo_sm (st : Nat → Int64) (my ge : Nat → Int32) (st1 : Nat → Int64) (my1 ge1 : Nat → Int32) (q : Nat) : Prop := ∀ h, h ≠ q → h ≠ 14 → h < 15 → (∀ i, i < 12 → st1 (12 * h + i) = st (12 * h + i)) ∧ my1 h = my h ∧ ∀ j, j < 20 → ge1 (20 * h + j) = ge (20 * h + j)
theorem mo_sm0 (st : Nat → Int64) (my ge : Nat → Int32) (q : Nat) : mo_sm st my ge st my ge q := fun _ _ _ _ => ⟨fun _ _ => rfl, rfl, fun _ _ => rfl⟩
theorem mo_smt {st st1 st2 : Nat → Int64} {my ge my1 ge1 my2 ge2 : Nat → Int32} {q : Nat} (h1 : mo_sm st my ge st1 my1 ge1 q) (h2 : mo_sm st1 my1 ge1 st2 my2 ge2 q) : mo_sm st my ge st2 my2 ge2 q := fun h a b c =>
  ⟨fun i hi => ((h2 h a b c).1 i hi).trans ((h1 h a b c).1 i hi), (h2 h a b c).2.1.trans (h1 h a b c).2.1, fun j hj => ((h2 h a b c).2.2 j hj).trans ((h1 h a b c).2.2 j hj)⟩
theorem mo_k9 {n : Nat} {st : Nat → Int64} {my ge : Nat → Int32} {q k : Nat} {S : Nat → Bool} {G : Nat → Nat} (h6 : n ≤ 6) (h : mo_g n st my ge q S G k) : k ≤ 9 := su_k9 h6 h.2.2.2.2 (ma_cn_le _ _)
theorem mo_g_fr {n : Nat} {st st1 : Nat → Int64} {my ge my1 ge1 : Nat → Int32} {q h k : Nat} {S : Nat → Bool} {G : Nat → Nat} (h6 : n ≤ 6) (hs : mo_sm st my ge st1 my1 ge1 q) (h1 : h ≠ q) (h2 : h ≠ 14) (h3 : h < 15) (hg : mo_g n st my ge h S G k) : mo_g n st1 my1 ge1 h S G k := by
  have hk := mo_k9 h6 hg
  obtain ⟨a, b, c⟩ := hs h h1 h2 h3
  exact ⟨mo_wd_fr hg.1 a, b.trans hg.2.1, fun j hj => (c j (by omega)).trans (hg.2.2.1 j hj), hg.2.2.2⟩
theorem mo_in0 : ma_in (fun _ => false) 0 = su_one := rfl
