/-! Numbers and pictures for CycleText's walks -/
theorem nb_ne1 {a : Nat} (h : a < 2 ^ 31) : ¬ nI a = (-1) := fun e => by
  have h1 := nI_pos h
  rw [e] at h1
  exact h1 (by decide)
theorem nb_32 (x : Int32) : x = nI x.toBitVec.toNat := by
  apply Int32.toBitVec_inj.mp
  show x.toBitVec = BitVec.ofNat 32 _
  simp
/-- the i-th byte of a word, from the right -/
def ty_b (word : Int32) (i : Nat) : Nat := word.toBitVec.toNat / 2 ^ (8 * i) % 256
theorem ty_b_lt (word : Int32) (i : Nat) : ty_b word i < 256 := Nat.mod_lt _ (by decide)
theorem nb_by {word : Int32} {i : Nat} (hi : i < 4) : ((word.toUInt32 >>> ((nI (8 * i)).toUInt32 &&& Int32.toUInt32 31)).toInt32 &&& nI 255) = nI (ty_b word i) := by
  have hw := word.toBitVec.isLt
  unfold ty_b
  generalize hW : word.toBitVec.toNat = W at hw ⊢
  have e : word = nI W := by rw [← hW]; exact nb_32 word
  rw [e, nb_ushr hw (by omega), nb_and, show (255 : Nat) = 2 ^ 8 - 1 from rfl, Nat.and_two_pow_sub_one_eq_mod]
theorem nb_c16 {b : Nat} (h : b < 256) : ((nI b).toUInt32 % 65536).toInt32 = nI b := by
  have key : ∀ b, b < 256 → ((nI b).toUInt32 % 65536).toInt32 = nI b := by decide +kernel
  exact key b h
theorem nb_cn {b : Nat} (h : b < 256) : vp_nar .char (nI b) = nI b := by
  have key : ∀ b, b < 256 → vp_nar .char (nI b) = nI b := by decide +kernel
  exact key b h
def ty_tx (len m : Nat) (word : Int32) (tx : Nat → Nat) : Nat → Nat := fun j => if j < len then tx j else ty_b word (m - 1 - (j - len))
/-- may these m characters be typed behind len others -/
def ty_ok (len m : Nat) (word : Int32) : Bool := decide (len + m ≤ 40) && (List.range m).all (fun i => decide (32 ≤ ty_b word i) && decide (ty_b word i ≤ 126))
theorem ty_ok1 {len m : Nat} {word : Int32} (h : len + m ≤ 40) (hb : ∀ i, i < m → 32 ≤ ty_b word i ∧ ty_b word i ≤ 126) : ty_ok len m word = true := by
  unfold ty_ok
  rw [Bool.and_eq_true]
  refine ⟨decide_eq_true h, List.all_eq_true.mpr (fun i hi => ?_)⟩
  have h1 := hb i (List.mem_range.mp hi)
  rw [Bool.and_eq_true]
  exact ⟨decide_eq_true h1.1, decide_eq_true h1.2⟩
theorem ty_ok2 {len m : Nat} {word : Int32} (h : ty_ok len m word = true) : len + m ≤ 40 ∧ ∀ i, i < m → 32 ≤ ty_b word i ∧ ty_b word i ≤ 126 := by
  unfold ty_ok at h
  rw [Bool.and_eq_true] at h
  refine ⟨of_decide_eq_true h.1, fun i hi => ?_⟩
  have h1 := List.all_eq_true.mp h.2 i (List.mem_range.mpr hi)
  rw [Bool.and_eq_true] at h1
  exact ⟨of_decide_eq_true h1.1, of_decide_eq_true h1.2⟩
/-- the fields and the array are the state t of the reading -/
def ct_st (n : Nat) (t : ps_T) (op fi la se : Int32) (P : Nat → Int32) : Prop := op = nI (if t.1 = 0 then 0 else 1) ∧ (t.1 = 1 → fi = (-1)) ∧ (2 ≤ t.1 → fi = nI (t.1 - 2) ∧ la = nI t.2.1) ∧ se = nI t.2.2.1 ∧ t.2.2.1 < 64 ∧ ∀ x, x < n → P x = nI (t.2.2.2 x)
def ct_ok (ca : Nat → ClassId) (ad : Nat → Nat) (n : Nat) (ws : va_W) (len : Nat) (tx : Nat → Nat) : Prop := (∃ op fi la se : Int32, ws[4]? = some (ad 4, .inr (3, [.ref (ad 5), .int (nI n), .ref (ad 6), .int (nI len), .int op, .int fi, .int la, .int se]))) ∧ (∃ P : Nat → Int32, ws[5]? = some (ad 5, .inl (ca 1, n, .inl P))) ∧ (∃ T : Nat → Int32, ws[6]? = some (ad 6, .inl (ca 3, 40, .inl T)) ∧ ∀ i, i < len → T i = nI (tx i)) ∧ len ≤ 40 ∧ ∀ i, i < len → tx i < 128
theorem ct_fr {ca : Nat → ClassId} {ad : Nat → Nat} {n : Nat} {ws w : va_W} {len : Nat} {tx : Nat → Nat} (h4 : w[4]? = ws[4]?) (h5 : w[5]? = ws[5]?) (h6 : w[6]? = ws[6]?) (h : ct_ok ca ad n ws len tx) : ct_ok ca ad n w len tx := by
  unfold ct_ok
  rw [h4, h5, h6]
  exact h
theorem ps_go_some {n : Nat} {tx : Nat → Nat} {f i : Nat} {t u : ps_T} (h : ps_st n (tx i) t = some u) : ps_go n tx (f + 1) i t = ps_go n tx f (i + 1) u := by
  show (match ps_st n (tx i) t with | none => _ | some u => _) = _
  rw [h]
theorem ps_go_none {n : Nat} {tx : Nat → Nat} {f i : Nat} {t : ps_T} (h : ps_st n (tx i) t = none) : ps_go n tx (f + 1) i t = .inl i := by
  show (match ps_st n (tx i) t with | none => _ | some u => _) = _
  rw [h]
theorem ps_rd1 {n : Nat} {tx : Nat → Nat} {len i : Nat} (h : ps_go n tx len 0 ps_0 = .inl i) : ps_read n tx len = .inl i := by
  unfold ps_read; rw [h]
theorem ps_rd2 {n : Nat} {tx : Nat → Nat} {len : Nat} {t : ps_T} (h : ps_go n tx len 0 ps_0 = .inr t) (h0 : t.1 = 0) : ps_read n tx len = .inr t.2.2.2 := by
  unfold ps_read; rw [h]; dsimp only; rw [if_pos h0]
theorem ps_rd3 {n : Nat} {tx : Nat → Nat} {len : Nat} {t : ps_T} (h : ps_go n tx len 0 ps_0 = .inr t) (h0 : t.1 ≠ 0) : ps_read n tx len = .inl len := by
  unfold ps_read; rw [h]; dsimp only; rw [if_neg h0]
