/-! Numbers and bits: ints as nI of a Nat, rows of longs as sets. Begun from rows of laws/BITS.to-paste (nx_and, ts_bit). -/
theorem nb_sl : ∀ n, n < 32 → ((nI n &&& 31).toBitVec.smod 32).toNat = n := by decide +kernel
theorem nb_su : ∀ n, n < 32 → (((nI n).toUInt32 &&& Int32.toUInt32 31).toBitVec % 32).toNat = n := by decide +kernel
theorem nb_shl {a k : Nat} (hk : k < 32) (h : a * 2 ^ k < 2 ^ 32) : nI a <<< (nI k &&& 31) = nI (a * 2 ^ k) := pk_shlN _ k (nb_sl k hk) h
theorem nb_shl1 {k : Nat} (hk : k < 31) : nI 1 <<< (nI k &&& 31) = nI (2 ^ k) := by
  have h : 2 ^ k < 2 ^ 31 := Nat.pow_lt_pow_right (by decide) hk
  rw [nb_shl (by omega) (by omega), Nat.one_mul]
theorem nb_shr {a k : Nat} (ha : a < 2 ^ 31) (hk : k < 32) : nI a >>> (nI k &&& 31) = nI (a / 2 ^ k) := pk_shrN ha _ k (nb_sl k hk)
theorem nb_ushr {a k : Nat} (ha : a < 2 ^ 32) (hk : k < 32) : ((nI a).toUInt32 >>> ((nI k).toUInt32 &&& Int32.toUInt32 31)).toInt32 = nI (a / 2 ^ k) := pk_ushrN ha _ k (nb_su k hk)
theorem nb_and (a b : Nat) : nI a &&& nI b = nI (a &&& b) := by
  apply Int32.toBitVec_inj.1
  show BitVec.ofNat 32 a &&& BitVec.ofNat 32 b = BitVec.ofNat 32 (a &&& b)
  apply BitVec.eq_of_getLsbD_eq
  intro i hi
  simp [hi]
theorem nb_or (a b : Nat) : nI a ||| nI b = nI (a ||| b) := by
  apply Int32.toBitVec_inj.1
  show BitVec.ofNat 32 a ||| BitVec.ofNat 32 b = BitVec.ofNat 32 (a ||| b)
  apply BitVec.eq_of_getLsbD_eq
  intro i hi
  simp [hi]
theorem nb_and1 (a : Nat) : nI a &&& nI 1 = nI (a % 2) := by rw [nb_and, Nat.and_one_is_mod]
theorem nb_tb0 {a k : Nat} : a / 2 ^ k % 2 = 0 ↔ a.testBit k = false := by
  rw [Nat.testBit_eq_decide_div_mod_eq, decide_eq_false_iff_not]
  generalize a / 2 ^ k = z
  omega
theorem nb_tb1 {a k : Nat} : a / 2 ^ k % 2 = 1 ↔ a.testBit k = true := by
  rw [Nat.testBit_eq_decide_div_mod_eq, decide_eq_true_eq]
theorem nb_tbi (a k : Nat) : a / 2 ^ k % 2 = if a.testBit k = true then 1 else 0 := by
  by_cases h : a.testBit k = true
  · rw [if_pos h]; exact nb_tb1.mpr h
  · rw [if_neg h]; exact nb_tb0.mpr (Bool.eq_false_iff.mpr h)
/-- used and one bit more, below 2^n -/
theorem nb_orlt {u y n : Nat} (hu : u < 2 ^ n) (hy : y < n) : u ||| 2 ^ y < 2 ^ n := Nat.or_lt_two_pow hu (Nat.pow_lt_pow_right (by decide) hy)
theorem nb_cmp0 (x : Int64) : lg_cmp x 0 = 0 ↔ x = 0 := by
  unfold lg_cmp
  by_cases h1 : (0 : Int64) < x
  · have h2 : x ≠ 0 := fun e => by subst e; exact absurd h1 (by decide)
    simp [h1, h2]
  · by_cases h2 : x = 0
    · simp [h2]
    · simp [h1, h2]
theorem nb_cmp1 (x : Int64) : lg_cmp x 1 = 0 ↔ x = 1 := by
  unfold lg_cmp
  by_cases h1 : (1 : Int64) < x
  · have h2 : x ≠ 1 := fun e => by subst e; exact absurd h1 (by decide)
    simp [h1, h2]
  · by_cases h2 : x = 1
    · simp [h2]
    · simp [h1, h2]
/-- is r in the set that the words f are -/
def bw_t (f : Nat → Int64) (r : Nat) : Bool := (f (r / 64)).toBitVec.getLsbD (r % 64)
theorem bw_s : ∀ k, k < 64 → ((nI k).toInt64.toUInt64 &&& Int64.toUInt64 63).toNat = k := by decide +kernel
theorem bw_sm : ∀ k, k < 64 → (((nI k).toInt64 &&& 63).toBitVec.smod 64).toNat = k := by decide +kernel
theorem bw_1 : ∀ k, k < 64 → ((1 : Int64) <<< ((nI k).toInt64 &&& 63)).toBitVec = BitVec.twoPow 64 k := by decide +kernel
theorem bw_bit {w : Int64} {k : Nat} (hk : k < 64) : ((w.toUInt64 >>> ((nI k).toInt64.toUInt64 &&& Int64.toUInt64 63)).toInt64 &&& 1) = 0 ↔ w.toBitVec.getLsbD k = false := by
  have e : (w.toUInt64 >>> ((nI k).toInt64.toUInt64 &&& Int64.toUInt64 63)).toInt64.toBitVec = w.toBitVec >>> k := by
    apply BitVec.eq_of_toNat_eq
    show (w.toUInt64 >>> _).toNat = _
    rw [UInt64.toNat_shiftRight, bw_s k hk, Nat.mod_eq_of_lt hk, BitVec.toNat_ushiftRight]
    rfl
  rw [← Int64.toBitVec_inj, Int64.toBitVec_and, e]
  show w.toBitVec >>> k &&& 1#64 = 0#64 ↔ _
  constructor
  · intro h
    have t := congrArg (fun x => x.getLsbD 0) h
    simpa using t
  · intro h
    apply BitVec.eq_of_getLsbD_eq
    intro i hi
    cases i with
    | zero => simp [h]
    | succ i => simp
theorem bw_has {f : Nat → Int64} {r : Nat} : (((f (r / 64)).toUInt64 >>> ((nI (r % 64)).toInt64.toUInt64 &&& Int64.toUInt64 63)).toInt64 &&& 1) = 0 ↔ bw_t f r = false := bw_bit (Nat.mod_lt _ (by decide))
theorem bw_sar {w : Int64} {k : Nat} (hk : k < 64) : ((w >>> ((nI k).toInt64 &&& 63)) &&& 1) = 1 ↔ w.toBitVec.getLsbD k = true := by
  have e : (w >>> ((nI k).toInt64 &&& 63)).toBitVec = w.toBitVec.sshiftRight k := by
    rw [Int64.toBitVec_shiftRight]
    show w.toBitVec.sshiftRight (((nI k).toInt64 &&& 63).toBitVec.smod 64).toNat = _
    rw [bw_sm k hk]
  rw [← Int64.toBitVec_inj, Int64.toBitVec_and, e]
  show w.toBitVec.sshiftRight k &&& 1#64 = 1#64 ↔ _
  have e0 : (w.toBitVec.sshiftRight k).getLsbD 0 = w.toBitVec.getLsbD k := by
    rw [BitVec.getLsbD_sshiftRight]
    simp [hk]
  constructor
  · intro h
    have t := congrArg (fun x => x.getLsbD 0) h
    simp only [BitVec.getLsbD_and, e0] at t
    simpa using t
  · intro h
    apply BitVec.eq_of_getLsbD_eq
    intro i hi
    cases i with
    | zero => rw [BitVec.getLsbD_and, e0, h]; simp
    | succ i => simp
theorem bw_hasM {f : Nat → Int64} {r b : Nat} : (((f (b + r / 64)) >>> ((nI (r % 64)).toInt64 &&& 63)) &&& 1) = 1 ↔ bw_t (fun i => f (b + i)) r = true := bw_sar (Nat.mod_lt _ (by decide))
theorem bw_mark (f : Nat → Int64) (r x : Nat) : bw_t (vp_updL f (r / 64) (f (r / 64) ||| ((1 : Int64) <<< ((nI (r % 64)).toInt64 &&& 63)))) x = (bw_t f x || x == r) := by
  have hr : r % 64 < 64 := Nat.mod_lt _ (by decide)
  unfold bw_t vp_updL
  by_cases h : x / 64 = r / 64
  · rw [if_pos h, Int64.toBitVec_or, BitVec.getLsbD_or, bw_1 _ hr, BitVec.getLsbD_twoPow, h]
    congr 1
    by_cases e : x = r
    · subst e; simp [hr]
    · have h2 : r % 64 ≠ x % 64 := fun q => e (by omega)
      simp [h2, e]
  · rw [if_neg h]
    have h2 : x ≠ r := fun e => h (by rw [e])
    simp [h2]
theorem bw_zero (r : Nat) : bw_t (fun _ => 0) r = false := BitVec.getLsbD_zero
theorem bw_sub {w v : Int64} : (w &&& (v ^^^ (-1))) = 0 ↔ ∀ j, j < 64 → w.toBitVec.getLsbD j = true → v.toBitVec.getLsbD j = true := by
  have ha : (-1 : Int64).toBitVec = BitVec.allOnes 64 := by decide
  rw [← Int64.toBitVec_inj, Int64.toBitVec_and, Int64.toBitVec_xor, ha]
  show w.toBitVec &&& (v.toBitVec ^^^ BitVec.allOnes 64) = 0#64 ↔ _
  constructor
  · intro h j hj hw
    have t := congrArg (fun x => x.getLsbD j) h
    simp only [BitVec.getLsbD_and, BitVec.getLsbD_xor, BitVec.getLsbD_allOnes, BitVec.getLsbD_zero, hw, hj, decide_true, Bool.true_and] at t
    cases hv : v.toBitVec.getLsbD j with
    | true => rfl
    | false => rw [hv] at t; exact absurd t (by decide)
  · intro h
    apply BitVec.eq_of_getLsbD_eq
    intro i hi
    have t := h i hi
    simp only [BitVec.getLsbD_and, BitVec.getLsbD_xor, BitVec.getLsbD_allOnes, BitVec.getLsbD_zero, hi, decide_true]
    cases hw : w.toBitVec.getLsbD i with
    | false => rfl
    | true => rw [t hw]; rfl
