/-! CycleText: contracts -/
set_option maxHeartbeats 4000000 in
set_option maxRecDepth 100000 in
theorem c_CT_lowByte (l : Launch) (D : va_G) (ca : Nat → ClassId) (ad : Nat → Nat) {word : Int32} {i : Nat} (hi : i < 4) (ws0 : va_W) : mg_I l y_CT_lowByte b_CT_lowByte 2 (.int) 1 D classes (tys_ ca) [.int (word), .int (nI (i))] ws0 (fun v w => v = nI (ty_b word i) ∧ w = ws0) := by
  refine mg_openI (own := R_CT) rfl (by decide) (Nat.le_of_ble_eq_true rfl) ?_
  intro p e s m args below meth c A Q ls C0 hK hA hP hD hS hl hret
  have hl : lv_has ls 2 [(0, .int (word)), (1, .int (nI (i)))] := hl
  refine lv_iload_n (pc := 0) C0.1 C0.2.1 d_CT_lowByte_0 rfl (lv_at hl 0 rfl) ?_
  refine lv_bipush (pc := 1) (v := nI (8)) C0.1 C0.2.1 d_CT_lowByte_1 (by decide +kernel) ?_
  refine lv_iload_n (pc := 3) C0.1 C0.2.1 d_CT_lowByte_3 rfl (lv_at hl 1 rfl) ?_
  refine mn_mul (pc := 4) C0 d_CT_lowByte_4 ?_
  refine lv_iushr (pc := 5) (v := (word.toUInt32 >>> ((nI (8 * i)).toUInt32 &&& Int32.toUInt32 31)).toInt32) C0.1 C0.2.1 d_CT_lowByte_5 rfl ?_
  refine lv_sipush (pc := 6) (v := nI (255)) C0.1 C0.2.1 d_CT_lowByte_6 (by decide +kernel) ?_
  refine lv_iand (pc := 9) C0.1 C0.2.1 d_CT_lowByte_9 ?_
  exact hret _ _ _ _ 10 _ (rfl) (⟨nb_by hi, rfl⟩) hP hD hS d_CT_lowByte_10
set_option maxHeartbeats 4000000 in
set_option maxRecDepth 100000 in
theorem c_CT_forget (l : Launch) (D : va_G) (ca : Nat → ClassId) (ad : Nat → Nat) {n : Nat} (h2 : 2 ≤ n) (h6 : n ≤ 6) {en op fi la se : Int32} (ws0 : va_W) (z4 : ws0[4]? = some (ad 4, .inr (3, [.ref (ad 5), .int (nI (n)), .ref (ad 6), .int (en), .int (op), .int (fi), .int (la), .int (se)]))) : mg_V l y_CT_forget b_CT_forget 1 1 D classes (tys_ ca) [.ref (ad 4)] ws0 (fun w => (∀ j, j ≠ 4 → w[j]? = ws0[j]?) ∧ w[4]? = some (ad 4, .inr (3, [.ref (ad 5), .int (nI (n)), .ref (ad 6), .int (nI (0)), .int (op), .int (fi), .int (la), .int (se)]))) := by
  refine mg_openV (own := R_CT) rfl (by decide) (Nat.le_of_ble_eq_true rfl) ?_
  intro p e s m args below meth c A Q ls C0 hK hA hP hD hS hl hret
  have hl : lv_has ls 1 [(0, .ref (ad 4))] := hl
  have f4 := z4
  have hfm : ∀ j, j ≠ 4 → ws0[j]? = ws0[j]? := fun _ _ => rfl
  refine lv_aload_n (pc := 0) C0.1 C0.2.1 d_CT_forget_0 rfl (lv_at hl 0 rfl) ?_
  refine lv_iconst (pc := 1) (v := nI (0)) C0.1 C0.2.1 d_CT_forget_1 (by decide +kernel) ?_
  refine mg_put (pc := 2) C0 in_CT t_CT_ok n_CT hK hP hD hS (4) f4 rfl 3 (by decide) fl_CT_21 rfl (ty := .int) (by decide +kernel) rfl rfl (Nat.le_of_ble_eq_true rfl) (fs' := [.ref (ad 5), .int (nI (n)), .ref (ad 6), .int (nI (0)), .int (op), .int (fi), .int (la), .int (se)]) rfl d_CT_forget_2 (fun ws H locs hfr f4 hP hD hS => ?_)
  have hfm : ∀ j, j ≠ 4 → ws[j]? = ws0[j]? := fun j hj => (hfr j (by omega)).trans (hfm j hj)
  exact hret _ _ _ 5 _ (⟨hfm, f4⟩) hP hD hS d_CT_forget_5
set_option maxHeartbeats 4000000 in
set_option maxRecDepth 100000 in
theorem c_CT_openBracket (l : Launch) (D : va_G) (ca : Nat → ClassId) (ad : Nat → Nat) {n : Nat} (h2 : 2 ≤ n) (h6 : n ≤ 6) {en op fi la se : Int32} (ws0 : va_W) (z4 : ws0[4]? = some (ad 4, .inr (3, [.ref (ad 5), .int (nI (n)), .ref (ad 6), .int (en), .int (op), .int (fi), .int (la), .int (se)]))) : mg_I l y_CT_openBracket b_CT_openBracket 1 (.boolean) 1 D classes (tys_ ca) [.ref (ad 4)] ws0 (fun v w => v = nI 1 ∧ (∀ j, j ≠ 4 → w[j]? = ws0[j]?) ∧ w[4]? = some (ad 4, .inr (3, [.ref (ad 5), .int (nI (n)), .ref (ad 6), .int (en), .int (nI (1)), .int ((-1)), .int ((-1)), .int (se)]))) := by
  refine mg_openI (own := R_CT) rfl (by decide) (Nat.le_of_ble_eq_true rfl) ?_
  intro p e s m args below meth c A Q ls C0 hK hA hP hD hS hl hret
  have hl : lv_has ls 1 [(0, .ref (ad 4))] := hl
  have f4 := z4
  have hfm : ∀ j, j ≠ 4 → ws0[j]? = ws0[j]? := fun _ _ => rfl
  refine lv_aload_n (pc := 0) C0.1 C0.2.1 d_CT_openBracket_0 rfl (lv_at hl 0 rfl) ?_
  refine lv_iconst (pc := 1) (v := nI (1)) C0.1 C0.2.1 d_CT_openBracket_1 (by decide +kernel) ?_
  refine mg_put (pc := 2) C0 in_CT t_CT_ok n_CT hK hP hD hS (4) f4 rfl 4 (by decide) fl_CT_28 rfl (ty := .boolean) (by decide +kernel) rfl rfl (Nat.le_of_ble_eq_true rfl) (fs' := [.ref (ad 5), .int (nI (n)), .ref (ad 6), .int (en), .int (nI (1)), .int (fi), .int (la), .int (se)]) rfl d_CT_openBracket_2 (fun ws H locs hfr f4 hP hD hS => ?_)
  have hfm : ∀ j, j ≠ 4 → ws[j]? = ws0[j]? := fun j hj => (hfr j (by omega)).trans (hfm j hj)
  refine lv_aload_n (pc := 5) C0.1 C0.2.1 d_CT_openBracket_5 rfl (lv_at hl 0 rfl) ?_
  refine lv_iconst (pc := 6) (v := (-1)) C0.1 C0.2.1 d_CT_openBracket_6 (by decide +kernel) ?_
  refine mg_put (pc := 7) C0 in_CT t_CT_ok n_CT hK hP hD hS (4) f4 rfl 5 (by decide) fl_CT_50 rfl (ty := .int) (by decide +kernel) rfl rfl (Nat.le_of_ble_eq_true rfl) (fs' := [.ref (ad 5), .int (nI (n)), .ref (ad 6), .int (en), .int (nI (1)), .int ((-1)), .int (la), .int (se)]) rfl d_CT_openBracket_7 (fun ws H locs hfr f4 hP hD hS => ?_)
  have hfm : ∀ j, j ≠ 4 → ws[j]? = ws0[j]? := fun j hj => (hfr j (by omega)).trans (hfm j hj)
  refine lv_aload_n (pc := 10) C0.1 C0.2.1 d_CT_openBracket_10 rfl (lv_at hl 0 rfl) ?_
  refine lv_iconst (pc := 11) (v := (-1)) C0.1 C0.2.1 d_CT_openBracket_11 (by decide +kernel) ?_
  refine mg_put (pc := 12) C0 in_CT t_CT_ok n_CT hK hP hD hS (4) f4 rfl 6 (by decide) fl_CT_53 rfl (ty := .int) (by decide +kernel) rfl rfl (Nat.le_of_ble_eq_true rfl) (fs' := [.ref (ad 5), .int (nI (n)), .ref (ad 6), .int (en), .int (nI (1)), .int ((-1)), .int ((-1)), .int (se)]) rfl d_CT_openBracket_12 (fun ws H locs hfr f4 hP hD hS => ?_)
  have hfm : ∀ j, j ≠ 4 → ws[j]? = ws0[j]? := fun j hj => (hfr j (by omega)).trans (hfm j hj)
  refine lv_iconst (pc := 15) (v := nI (1)) C0.1 C0.2.1 d_CT_openBracket_15 (by decide +kernel) ?_
  exact hret _ _ _ _ 16 _ (rfl) (⟨rfl, hfm, f4⟩) hP hD hS d_CT_openBracket_16
set_option maxHeartbeats 4000000 in
set_option maxRecDepth 100000 in
theorem c_CT_closeBracket0 (l : Launch) (D : va_G) (ca : Nat → ClassId) (ad : Nat → Nat) {n : Nat} (h2 : 2 ≤ n) (h6 : n ≤ 6) {en op la se : Int32} (ws0 : va_W) (z4 : ws0[4]? = some (ad 4, .inr (3, [.ref (ad 5), .int (nI (n)), .ref (ad 6), .int (en), .int (op), .int ((-1)), .int (la), .int (se)]))) : mg_I l y_CT_closeBracket b_CT_closeBracket 1 (.boolean) 1 D classes (tys_ ca) [.ref (ad 4)] ws0 (fun v w => v = nI 0 ∧ w = ws0) := by
  refine mg_openI (own := R_CT) rfl (by decide) (Nat.le_of_ble_eq_true rfl) ?_
  intro p e s m args below meth c A Q ls C0 hK hA hP hD hS hl hret
  have hl : lv_has ls 1 [(0, .ref (ad 4))] := hl
  have f4 := z4
  refine lv_aload_n (pc := 0) C0.1 C0.2.1 d_CT_closeBracket_0 rfl (lv_at hl 0 rfl) ?_
  refine mg_get (pc := 1) C0 in_CT hK hP (4) f4 rfl 5 (by decide) fl_CT_50 rfl d_CT_closeBracket_1 ?_
  refine lv_iconst (pc := 4) (v := (-1)) C0.1 C0.2.1 d_CT_closeBracket_4 (by decide +kernel) ?_
  refine lv_icmp_ne (pc := 5) (tgt := 10) C0.1 C0.2.1 d_CT_closeBracket_5 (by decide) (fun hc => ?_) (fun hc => ?_)
  · exact absurd rfl hc
  · refine lv_iconst (pc := 8) (v := nI (0)) C0.1 C0.2.1 d_CT_closeBracket_8 (by decide +kernel) ?_
    exact hret _ _ _ _ 9 _ (rfl) (⟨rfl, rfl⟩) hP hD hS d_CT_closeBracket_9
set_option maxHeartbeats 4000000 in
set_option maxRecDepth 100000 in
theorem c_CT_closeBracket1 (l : Launch) (D : va_G) (ca : Nat → ClassId) (ad : Nat → Nat) {n : Nat} (h2 : 2 ≤ n) (h6 : n ≤ 6) {en op se : Int32} {P : Nat → Int32} {a b : Nat} (ha : a < n) (hb : b < n) (ws0 : va_W) (z4 : ws0[4]? = some (ad 4, .inr (3, [.ref (ad 5), .int (nI (n)), .ref (ad 6), .int (en), .int (op), .int (nI (a)), .int (nI (b)), .int (se)]))) (z5 : ws0[5]? = some (ad 5, .inl (ca 1, n, .inl (P)))) : mg_I l y_CT_closeBracket b_CT_closeBracket 1 (.boolean) 1 D classes (tys_ ca) [.ref (ad 4)] ws0 (fun v w => v = nI 1 ∧ (∀ j, j ≠ 4 ∧ j ≠ 5 → w[j]? = ws0[j]?) ∧ w[4]? = some (ad 4, .inr (3, [.ref (ad 5), .int (nI (n)), .ref (ad 6), .int (en), .int (nI (0)), .int (nI (a)), .int (nI (b)), .int (se)])) ∧ w[5]? = some (ad 5, .inl (ca 1, n, .inl (upd P b (nI a))))) := by
  refine mg_openI (own := R_CT) rfl (by decide) (Nat.le_of_ble_eq_true rfl) ?_
  intro p e s m args below meth c A Q ls C0 hK hA hP hD hS hl hret
  have hl : lv_has ls 1 [(0, .ref (ad 4))] := hl
  have f4 := z4
  have f5 := z5
  have hfm : ∀ j, j ≠ 4 ∧ j ≠ 5 → ws0[j]? = ws0[j]? := fun _ _ => rfl
  refine lv_aload_n (pc := 0) C0.1 C0.2.1 d_CT_closeBracket_0 rfl (lv_at hl 0 rfl) ?_
  refine mg_get (pc := 1) C0 in_CT hK hP (4) f4 rfl 5 (by decide) fl_CT_50 rfl d_CT_closeBracket_1 ?_
  refine lv_iconst (pc := 4) (v := (-1)) C0.1 C0.2.1 d_CT_closeBracket_4 (by decide +kernel) ?_
  refine lv_icmp_ne (pc := 5) (tgt := 10) C0.1 C0.2.1 d_CT_closeBracket_5 (by decide) (fun hc => ?_) (fun hc => ?_)
  · refine lv_aload_n (pc := 10) C0.1 C0.2.1 d_CT_closeBracket_10 rfl (lv_at hl 0 rfl) ?_
    refine mg_get (pc := 11) C0 in_CT hK hP (4) f4 rfl 0 (by decide) fl_CT_13 rfl d_CT_closeBracket_11 ?_
    refine lv_aload_n (pc := 14) C0.1 C0.2.1 d_CT_closeBracket_14 rfl (lv_at hl 0 rfl) ?_
    refine mg_get (pc := 15) C0 in_CT hK hP (4) f4 rfl 6 (by decide) fl_CT_53 rfl d_CT_closeBracket_15 ?_
    refine lv_aload_n (pc := 18) C0.1 C0.2.1 d_CT_closeBracket_18 rfl (lv_at hl 0 rfl) ?_
    refine mg_get (pc := 19) C0 in_CT hK hP (4) f4 rfl 5 (by decide) fl_CT_50 rfl d_CT_closeBracket_19 ?_
    refine mg_ist (pc := 22) C0 hK hP hD hS (5) 1 f5 rfl (j := b) (by omega) (by omega) d_CT_closeBracket_22 (fun ws H locs hfr f5 hP hD hS => ?_)
    have f4 := (hfr (4) (by omega)).trans f4
    have hfm : ∀ j, j ≠ 4 ∧ j ≠ 5 → ws[j]? = ws0[j]? := fun j hj => (hfr j (by omega)).trans (hfm j hj)
    refine lv_aload_n (pc := 23) C0.1 C0.2.1 d_CT_closeBracket_23 rfl (lv_at hl 0 rfl) ?_
    refine lv_iconst (pc := 24) (v := nI (0)) C0.1 C0.2.1 d_CT_closeBracket_24 (by decide +kernel) ?_
    refine mg_put (pc := 25) C0 in_CT t_CT_ok n_CT hK hP hD hS (4) f4 rfl 4 (by decide) fl_CT_28 rfl (ty := .boolean) (by decide +kernel) rfl rfl (Nat.le_of_ble_eq_true rfl) (fs' := [.ref (ad 5), .int (nI (n)), .ref (ad 6), .int (en), .int (nI (0)), .int (nI (a)), .int (nI (b)), .int (se)]) rfl d_CT_closeBracket_25 (fun ws H locs hfr f4 hP hD hS => ?_)
    have f5 := (hfr (5) (by omega)).trans f5
    have hfm : ∀ j, j ≠ 4 ∧ j ≠ 5 → ws[j]? = ws0[j]? := fun j hj => (hfr j (by omega)).trans (hfm j hj)
    refine lv_iconst (pc := 28) (v := nI (1)) C0.1 C0.2.1 d_CT_closeBracket_28 (by decide +kernel) ?_
    exact hret _ _ _ _ 29 _ (rfl) (⟨rfl, hfm, f4, f5⟩) hP hD hS d_CT_closeBracket_29
  · exact absurd hc (nb_ne1 (by omega))
set_option maxHeartbeats 4000000 in
set_option maxRecDepth 100000 in
theorem c_CT_takePoint0 (l : Launch) (D : va_G) (ca : Nat → ClassId) (ad : Nat → Nat) {n : Nat} (h2 : 2 ≤ n) (h6 : n ≤ 6) {en op fi la se : Int32} {x : Int32} (hx : x < 0 ∨ nI n ≤ x) (ws0 : va_W) (z4 : ws0[4]? = some (ad 4, .inr (3, [.ref (ad 5), .int (nI (n)), .ref (ad 6), .int (en), .int (op), .int (fi), .int (la), .int (se)]))) : mg_I l y_CT_takePoint b_CT_takePoint 2 (.boolean) 1 D classes (tys_ ca) [.ref (ad 4), .int (x)] ws0 (fun v w => v = nI 0 ∧ w = ws0) := by
  refine mg_openI (own := R_CT) rfl (by decide) (Nat.le_of_ble_eq_true rfl) ?_
  intro p e s m args below meth c A Q ls C0 hK hA hP hD hS hl hret
  have hl : lv_has ls 2 [(0, .ref (ad 4)), (1, .int (x))] := hl
  have f4 := z4
  refine lv_iload_n (pc := 0) C0.1 C0.2.1 d_CT_takePoint_0 rfl (lv_at hl 1 rfl) ?_
  refine lv_if_lt (pc := 1) (tgt := 23) C0.1 C0.2.1 d_CT_takePoint_1 (by decide) (fun hc => ?_) (fun hc => ?_)
  · refine lv_iconst (pc := 23) (v := nI (0)) C0.1 C0.2.1 d_CT_takePoint_23 (by decide +kernel) ?_
    exact hret _ _ _ _ 24 _ (rfl) (⟨rfl, rfl⟩) hP hD hS d_CT_takePoint_24
  · refine lv_iload_n (pc := 4) C0.1 C0.2.1 d_CT_takePoint_4 rfl (lv_at hl 1 rfl) ?_
    refine lv_aload_n (pc := 5) C0.1 C0.2.1 d_CT_takePoint_5 rfl (lv_at hl 0 rfl) ?_
    refine mg_get (pc := 6) C0 in_CT hK hP (4) f4 rfl 1 (by decide) fl_CT_7 rfl d_CT_takePoint_6 ?_
    refine lv_icmp_ge (pc := 9) (tgt := 23) C0.1 C0.2.1 d_CT_takePoint_9 (by decide) (fun hc2 => ?_) (fun hc2 => ?_)
    · refine lv_iconst (pc := 23) (v := nI (0)) C0.1 C0.2.1 d_CT_takePoint_23 (by decide +kernel) ?_
      exact hret _ _ _ _ 24 _ (rfl) (⟨rfl, rfl⟩) hP hD hS d_CT_takePoint_24
    · exact (hx.elim hc hc2).elim
set_option maxHeartbeats 4000000 in
set_option maxRecDepth 100000 in
theorem c_CT_takePoint1 (l : Launch) (D : va_G) (ca : Nat → ClassId) (ad : Nat → Nat) {n : Nat} (h2 : 2 ≤ n) (h6 : n ≤ 6) {en op fi la : Int32} {a s0 : Nat} (ha : a < n) (hs0 : s0 < 64) (hb : s0.testBit a = true) (ws0 : va_W) (z4 : ws0[4]? = some (ad 4, .inr (3, [.ref (ad 5), .int (nI (n)), .ref (ad 6), .int (en), .int (op), .int (fi), .int (la), .int (nI (s0))]))) : mg_I l y_CT_takePoint b_CT_takePoint 2 (.boolean) 1 D classes (tys_ ca) [.ref (ad 4), .int (nI (a))] ws0 (fun v w => v = nI 0 ∧ w = ws0) := by
  refine mg_openI (own := R_CT) rfl (by decide) (Nat.le_of_ble_eq_true rfl) ?_
  intro p e s m args below meth c A Q ls C0 hK hA hP hD hS hl hret
  have hl : lv_has ls 2 [(0, .ref (ad 4)), (1, .int (nI (a)))] := hl
  have f4 := z4
  refine lv_iload_n (pc := 0) C0.1 C0.2.1 d_CT_takePoint_0 rfl (lv_at hl 1 rfl) ?_
  refine mz_lt (pc := 1) (tgt := 23) C0 (by omega) d_CT_takePoint_1 (by decide) ?_
  refine lv_iload_n (pc := 4) C0.1 C0.2.1 d_CT_takePoint_4 rfl (lv_at hl 1 rfl) ?_
  refine lv_aload_n (pc := 5) C0.1 C0.2.1 d_CT_takePoint_5 rfl (lv_at hl 0 rfl) ?_
  refine mg_get (pc := 6) C0 in_CT hK hP (4) f4 rfl 1 (by decide) fl_CT_7 rfl d_CT_takePoint_6 ?_
  refine mb_ge (pc := 9) (tgt := 23) C0 (by omega) (by omega) d_CT_takePoint_9 (by decide) (fun hc => ?_) (fun hc => ?_)
  · exact absurd hc (by omega)
  · refine lv_aload_n (pc := 12) C0.1 C0.2.1 d_CT_takePoint_12 rfl (lv_at hl 0 rfl) ?_
    refine mg_get (pc := 13) C0 in_CT hK hP (4) f4 rfl 7 (by decide) fl_CT_32 rfl d_CT_takePoint_13 ?_
    refine lv_iload_n (pc := 16) C0.1 C0.2.1 d_CT_takePoint_16 rfl (lv_at hl 1 rfl) ?_
    refine mn_shr (pc := 17) C0 (by omega) (by omega) d_CT_takePoint_17 ?_
    refine lv_iconst (pc := 18) (v := nI (1)) C0.1 C0.2.1 d_CT_takePoint_18 (by decide +kernel) ?_
    refine mn_bit (pc := 19) C0 d_CT_takePoint_19 ?_
    refine mz_eq (pc := 20) (tgt := 25) C0 (by omega) d_CT_takePoint_20 (by decide) (fun hc => ?_) (fun hc => ?_)
    · rw [nb_t0 hc] at hb; exact absurd hb (by decide)
    · refine lv_iconst (pc := 23) (v := nI (0)) C0.1 C0.2.1 d_CT_takePoint_23 (by decide +kernel) ?_
      exact hret _ _ _ _ 24 _ (rfl) (⟨rfl, rfl⟩) hP hD hS d_CT_takePoint_24
set_option maxHeartbeats 4000000 in
set_option maxRecDepth 100000 in
theorem c_CT_takePoint2 (l : Launch) (D : va_G) (ca : Nat → ClassId) (ad : Nat → Nat) {n : Nat} (h2 : 2 ≤ n) (h6 : n ≤ 6) {en op la : Int32} {P : Nat → Int32} {a s0 : Nat} (ha : a < n) (hs0 : s0 < 64) (hb : s0.testBit a = false) (ws0 : va_W) (z4 : ws0[4]? = some (ad 4, .inr (3, [.ref (ad 5), .int (nI (n)), .ref (ad 6), .int (en), .int (op), .int ((-1)), .int (la), .int (nI (s0))]))) (z5 : ws0[5]? = some (ad 5, .inl (ca 1, n, .inl (P)))) : mg_I l y_CT_takePoint b_CT_takePoint 2 (.boolean) 1 D classes (tys_ ca) [.ref (ad 4), .int (nI (a))] ws0 (fun v w => v = nI 1 ∧ (∀ j, j ≠ 4 ∧ j ≠ 5 → w[j]? = ws0[j]?) ∧ w[4]? = some (ad 4, .inr (3, [.ref (ad 5), .int (nI (n)), .ref (ad 6), .int (en), .int (op), .int (nI (a)), .int (nI (a)), .int (nI (s0 ||| 2 ^ a))])) ∧ w[5]? = some (ad 5, .inl (ca 1, n, .inl (P)))) := by
  refine mg_openI (own := R_CT) rfl (by decide) (Nat.le_of_ble_eq_true rfl) ?_
  intro p e s m args below meth c A Q ls C0 hK hA hP hD hS hl hret
  have hl : lv_has ls 2 [(0, .ref (ad 4)), (1, .int (nI (a)))] := hl
  have f4 := z4
  have f5 := z5
  have hfm : ∀ j, j ≠ 4 ∧ j ≠ 5 → ws0[j]? = ws0[j]? := fun _ _ => rfl
  refine lv_iload_n (pc := 0) C0.1 C0.2.1 d_CT_takePoint_0 rfl (lv_at hl 1 rfl) ?_
  refine mz_lt (pc := 1) (tgt := 23) C0 (by omega) d_CT_takePoint_1 (by decide) ?_
  refine lv_iload_n (pc := 4) C0.1 C0.2.1 d_CT_takePoint_4 rfl (lv_at hl 1 rfl) ?_
  refine lv_aload_n (pc := 5) C0.1 C0.2.1 d_CT_takePoint_5 rfl (lv_at hl 0 rfl) ?_
  refine mg_get (pc := 6) C0 in_CT hK hP (4) f4 rfl 1 (by decide) fl_CT_7 rfl d_CT_takePoint_6 ?_
  refine mb_ge (pc := 9) (tgt := 23) C0 (by omega) (by omega) d_CT_takePoint_9 (by decide) (fun hc => ?_) (fun hc => ?_)
  · exact absurd hc (by omega)
  · refine lv_aload_n (pc := 12) C0.1 C0.2.1 d_CT_takePoint_12 rfl (lv_at hl 0 rfl) ?_
    refine mg_get (pc := 13) C0 in_CT hK hP (4) f4 rfl 7 (by decide) fl_CT_32 rfl d_CT_takePoint_13 ?_
    refine lv_iload_n (pc := 16) C0.1 C0.2.1 d_CT_takePoint_16 rfl (lv_at hl 1 rfl) ?_
    refine mn_shr (pc := 17) C0 (by omega) (by omega) d_CT_takePoint_17 ?_
    refine lv_iconst (pc := 18) (v := nI (1)) C0.1 C0.2.1 d_CT_takePoint_18 (by decide +kernel) ?_
    refine mn_bit (pc := 19) C0 d_CT_takePoint_19 ?_
    refine mz_eq (pc := 20) (tgt := 25) C0 (by omega) d_CT_takePoint_20 (by decide) (fun hc => ?_) (fun hc => ?_)
    · refine lv_aload_n (pc := 25) C0.1 C0.2.1 d_CT_takePoint_25 rfl (lv_at hl 0 rfl) ?_
      refine mg_get (pc := 26) C0 in_CT hK hP (4) f4 rfl 5 (by decide) fl_CT_50 rfl d_CT_takePoint_26 ?_
      refine lv_iconst (pc := 29) (v := (-1)) C0.1 C0.2.1 d_CT_takePoint_29 (by decide +kernel) ?_
      refine lv_icmp_ne (pc := 30) (tgt := 41) C0.1 C0.2.1 d_CT_takePoint_30 (by decide) (fun hc => ?_) (fun hc => ?_)
      · exact absurd rfl hc
      · refine lv_aload_n (pc := 33) C0.1 C0.2.1 d_CT_takePoint_33 rfl (lv_at hl 0 rfl) ?_
        refine lv_iload_n (pc := 34) C0.1 C0.2.1 d_CT_takePoint_34 rfl (lv_at hl 1 rfl) ?_
        refine mg_put (pc := 35) C0 in_CT t_CT_ok n_CT hK hP hD hS (4) f4 rfl 5 (by decide) fl_CT_50 rfl (ty := .int) (by decide +kernel) rfl rfl (Nat.le_of_ble_eq_true rfl) (fs' := [.ref (ad 5), .int (nI (n)), .ref (ad 6), .int (en), .int (op), .int (nI (a)), .int (la), .int (nI (s0))]) rfl d_CT_takePoint_35 (fun ws H locs hfr f4 hP hD hS => ?_)
        have f5 := (hfr (5) (by omega)).trans f5
        have hfm : ∀ j, j ≠ 4 ∧ j ≠ 5 → ws[j]? = ws0[j]? := fun j hj => (hfr j (by omega)).trans (hfm j hj)
        refine lv_goto (pc := 38) (tgt := 51) C0.1 C0.2.1 d_CT_takePoint_38 (by decide) ?_
        refine lv_aload_n (pc := 51) C0.1 C0.2.1 d_CT_takePoint_51 rfl (lv_at hl 0 rfl) ?_
        refine lv_iload_n (pc := 52) C0.1 C0.2.1 d_CT_takePoint_52 rfl (lv_at hl 1 rfl) ?_
        refine mg_put (pc := 53) C0 in_CT t_CT_ok n_CT hK hP hD hS (4) f4 rfl 6 (by decide) fl_CT_53 rfl (ty := .int) (by decide +kernel) rfl rfl (Nat.le_of_ble_eq_true rfl) (fs' := [.ref (ad 5), .int (nI (n)), .ref (ad 6), .int (en), .int (op), .int (nI (a)), .int (nI (a)), .int (nI (s0))]) rfl d_CT_takePoint_53 (fun ws H locs hfr f4 hP hD hS => ?_)
        have f5 := (hfr (5) (by omega)).trans f5
        have hfm : ∀ j, j ≠ 4 ∧ j ≠ 5 → ws[j]? = ws0[j]? := fun j hj => (hfr j (by omega)).trans (hfm j hj)
        refine lv_aload_n (pc := 56) C0.1 C0.2.1 d_CT_takePoint_56 rfl (lv_at hl 0 rfl) ?_
        refine lv_dup (pc := 57) C0.1 C0.2.1 d_CT_takePoint_57 rfl ?_
        refine mg_get (pc := 58) C0 in_CT hK hP (4) f4 rfl 7 (by decide) fl_CT_32 rfl d_CT_takePoint_58 ?_
        refine lv_iconst (pc := 61) (v := nI (1)) C0.1 C0.2.1 d_CT_takePoint_61 (by decide +kernel) ?_
        refine lv_iload_n (pc := 62) C0.1 C0.2.1 d_CT_takePoint_62 rfl (lv_at hl 1 rfl) ?_
        refine mn_shl1 (pc := 63) C0 (by omega) d_CT_takePoint_63 ?_
        refine mn_or (pc := 64) C0 d_CT_takePoint_64 ?_
        refine mg_put (pc := 65) C0 in_CT t_CT_ok n_CT hK hP hD hS (4) f4 rfl 7 (by decide) fl_CT_32 rfl (ty := .int) (by decide +kernel) rfl rfl (Nat.le_of_ble_eq_true rfl) (fs' := [.ref (ad 5), .int (nI (n)), .ref (ad 6), .int (en), .int (op), .int (nI (a)), .int (nI (a)), .int (nI (s0 ||| (2 ^ a)))]) rfl d_CT_takePoint_65 (fun ws H locs hfr f4 hP hD hS => ?_)
        have f5 := (hfr (5) (by omega)).trans f5
        have hfm : ∀ j, j ≠ 4 ∧ j ≠ 5 → ws[j]? = ws0[j]? := fun j hj => (hfr j (by omega)).trans (hfm j hj)
        refine lv_iconst (pc := 68) (v := nI (1)) C0.1 C0.2.1 d_CT_takePoint_68 (by decide +kernel) ?_
        exact hret _ _ _ _ 69 _ (rfl) (⟨rfl, hfm, f4, f5⟩) hP hD hS d_CT_takePoint_69
    · rw [nb_t1 hc] at hb; exact absurd hb (by decide)
set_option maxHeartbeats 4000000 in
set_option maxRecDepth 100000 in
theorem c_CT_takePoint3 (l : Launch) (D : va_G) (ca : Nat → ClassId) (ad : Nat → Nat) {n : Nat} (h2 : 2 ≤ n) (h6 : n ≤ 6) {en op : Int32} {P : Nat → Int32} {a s0 : Nat} (ha : a < n) (hs0 : s0 < 64) (hb : s0.testBit a = false) {f0 b : Nat} (hf0 : f0 < n) (hb0 : b < n) (ws0 : va_W) (z4 : ws0[4]? = some (ad 4, .inr (3, [.ref (ad 5), .int (nI (n)), .ref (ad 6), .int (en), .int (op), .int (nI (f0)), .int (nI (b)), .int (nI (s0))]))) (z5 : ws0[5]? = some (ad 5, .inl (ca 1, n, .inl (P)))) : mg_I l y_CT_takePoint b_CT_takePoint 2 (.boolean) 1 D classes (tys_ ca) [.ref (ad 4), .int (nI (a))] ws0 (fun v w => v = nI 1 ∧ (∀ j, j ≠ 4 ∧ j ≠ 5 → w[j]? = ws0[j]?) ∧ w[4]? = some (ad 4, .inr (3, [.ref (ad 5), .int (nI (n)), .ref (ad 6), .int (en), .int (op), .int (nI (f0)), .int (nI (a)), .int (nI (s0 ||| 2 ^ a))])) ∧ w[5]? = some (ad 5, .inl (ca 1, n, .inl (upd P b (nI a))))) := by
  refine mg_openI (own := R_CT) rfl (by decide) (Nat.le_of_ble_eq_true rfl) ?_
  intro p e s m args below meth c A Q ls C0 hK hA hP hD hS hl hret
  have hl : lv_has ls 2 [(0, .ref (ad 4)), (1, .int (nI (a)))] := hl
  have f4 := z4
  have f5 := z5
  have hfm : ∀ j, j ≠ 4 ∧ j ≠ 5 → ws0[j]? = ws0[j]? := fun _ _ => rfl
  refine lv_iload_n (pc := 0) C0.1 C0.2.1 d_CT_takePoint_0 rfl (lv_at hl 1 rfl) ?_
  refine mz_lt (pc := 1) (tgt := 23) C0 (by omega) d_CT_takePoint_1 (by decide) ?_
  refine lv_iload_n (pc := 4) C0.1 C0.2.1 d_CT_takePoint_4 rfl (lv_at hl 1 rfl) ?_
  refine lv_aload_n (pc := 5) C0.1 C0.2.1 d_CT_takePoint_5 rfl (lv_at hl 0 rfl) ?_
  refine mg_get (pc := 6) C0 in_CT hK hP (4) f4 rfl 1 (by decide) fl_CT_7 rfl d_CT_takePoint_6 ?_
  refine mb_ge (pc := 9) (tgt := 23) C0 (by omega) (by omega) d_CT_takePoint_9 (by decide) (fun hc => ?_) (fun hc => ?_)
  · exact absurd hc (by omega)
  · refine lv_aload_n (pc := 12) C0.1 C0.2.1 d_CT_takePoint_12 rfl (lv_at hl 0 rfl) ?_
    refine mg_get (pc := 13) C0 in_CT hK hP (4) f4 rfl 7 (by decide) fl_CT_32 rfl d_CT_takePoint_13 ?_
    refine lv_iload_n (pc := 16) C0.1 C0.2.1 d_CT_takePoint_16 rfl (lv_at hl 1 rfl) ?_
    refine mn_shr (pc := 17) C0 (by omega) (by omega) d_CT_takePoint_17 ?_
    refine lv_iconst (pc := 18) (v := nI (1)) C0.1 C0.2.1 d_CT_takePoint_18 (by decide +kernel) ?_
    refine mn_bit (pc := 19) C0 d_CT_takePoint_19 ?_
    refine mz_eq (pc := 20) (tgt := 25) C0 (by omega) d_CT_takePoint_20 (by decide) (fun hc => ?_) (fun hc => ?_)
    · refine lv_aload_n (pc := 25) C0.1 C0.2.1 d_CT_takePoint_25 rfl (lv_at hl 0 rfl) ?_
      refine mg_get (pc := 26) C0 in_CT hK hP (4) f4 rfl 5 (by decide) fl_CT_50 rfl d_CT_takePoint_26 ?_
      refine lv_iconst (pc := 29) (v := (-1)) C0.1 C0.2.1 d_CT_takePoint_29 (by decide +kernel) ?_
      refine lv_icmp_ne (pc := 30) (tgt := 41) C0.1 C0.2.1 d_CT_takePoint_30 (by decide) (fun hc => ?_) (fun hc => ?_)
      · refine lv_aload_n (pc := 41) C0.1 C0.2.1 d_CT_takePoint_41 rfl (lv_at hl 0 rfl) ?_
        refine mg_get (pc := 42) C0 in_CT hK hP (4) f4 rfl 0 (by decide) fl_CT_13 rfl d_CT_takePoint_42 ?_
        refine lv_aload_n (pc := 45) C0.1 C0.2.1 d_CT_takePoint_45 rfl (lv_at hl 0 rfl) ?_
        refine mg_get (pc := 46) C0 in_CT hK hP (4) f4 rfl 6 (by decide) fl_CT_53 rfl d_CT_takePoint_46 ?_
        refine lv_iload_n (pc := 49) C0.1 C0.2.1 d_CT_takePoint_49 rfl (lv_at hl 1 rfl) ?_
        refine mg_ist (pc := 50) C0 hK hP hD hS (5) 1 f5 rfl (j := b) (by omega) (by omega) d_CT_takePoint_50 (fun ws H locs hfr f5 hP hD hS => ?_)
        have f4 := (hfr (4) (by omega)).trans f4
        have hfm : ∀ j, j ≠ 4 ∧ j ≠ 5 → ws[j]? = ws0[j]? := fun j hj => (hfr j (by omega)).trans (hfm j hj)
        refine lv_aload_n (pc := 51) C0.1 C0.2.1 d_CT_takePoint_51 rfl (lv_at hl 0 rfl) ?_
        refine lv_iload_n (pc := 52) C0.1 C0.2.1 d_CT_takePoint_52 rfl (lv_at hl 1 rfl) ?_
        refine mg_put (pc := 53) C0 in_CT t_CT_ok n_CT hK hP hD hS (4) f4 rfl 6 (by decide) fl_CT_53 rfl (ty := .int) (by decide +kernel) rfl rfl (Nat.le_of_ble_eq_true rfl) (fs' := [.ref (ad 5), .int (nI (n)), .ref (ad 6), .int (en), .int (op), .int (nI (f0)), .int (nI (a)), .int (nI (s0))]) rfl d_CT_takePoint_53 (fun ws H locs hfr f4 hP hD hS => ?_)
        have f5 := (hfr (5) (by omega)).trans f5
        have hfm : ∀ j, j ≠ 4 ∧ j ≠ 5 → ws[j]? = ws0[j]? := fun j hj => (hfr j (by omega)).trans (hfm j hj)
        refine lv_aload_n (pc := 56) C0.1 C0.2.1 d_CT_takePoint_56 rfl (lv_at hl 0 rfl) ?_
        refine lv_dup (pc := 57) C0.1 C0.2.1 d_CT_takePoint_57 rfl ?_
        refine mg_get (pc := 58) C0 in_CT hK hP (4) f4 rfl 7 (by decide) fl_CT_32 rfl d_CT_takePoint_58 ?_
        refine lv_iconst (pc := 61) (v := nI (1)) C0.1 C0.2.1 d_CT_takePoint_61 (by decide +kernel) ?_
        refine lv_iload_n (pc := 62) C0.1 C0.2.1 d_CT_takePoint_62 rfl (lv_at hl 1 rfl) ?_
        refine mn_shl1 (pc := 63) C0 (by omega) d_CT_takePoint_63 ?_
        refine mn_or (pc := 64) C0 d_CT_takePoint_64 ?_
        refine mg_put (pc := 65) C0 in_CT t_CT_ok n_CT hK hP hD hS (4) f4 rfl 7 (by decide) fl_CT_32 rfl (ty := .int) (by decide +kernel) rfl rfl (Nat.le_of_ble_eq_true rfl) (fs' := [.ref (ad 5), .int (nI (n)), .ref (ad 6), .int (en), .int (op), .int (nI (f0)), .int (nI (a)), .int (nI (s0 ||| (2 ^ a)))]) rfl d_CT_takePoint_65 (fun ws H locs hfr f4 hP hD hS => ?_)
        have f5 := (hfr (5) (by omega)).trans f5
        have hfm : ∀ j, j ≠ 4 ∧ j ≠ 5 → ws[j]? = ws0[j]? := fun j hj => (hfr j (by omega)).trans (hfm j hj)
        refine lv_iconst (pc := 68) (v := nI (1)) C0.1 C0.2.1 d_CT_takePoint_68 (by decide +kernel) ?_
        exact hret _ _ _ _ 69 _ (rfl) (⟨rfl, hfm, f4, f5⟩) hP hD hS d_CT_takePoint_69
      · exact absurd hc (nb_ne1 (by omega))
    · rw [nb_t1 hc] at hb; exact absurd hb (by decide)
set_option maxHeartbeats 4000000 in
set_option maxRecDepth 100000 in
theorem c_CT_take (l : Launch) (D : va_G) (ca : Nat → ClassId) (ad : Nat → Nat) {n : Nat} (h2 : 2 ≤ n) (h6 : n ≤ 6) {en op fi la se : Int32} {P : Nat → Int32} {c0 : Nat} {t : ps_T} (hc0 : c0 < 128) (hc32 : c0 ≠ 32) (hps : ps_ok n t) (hct : ct_st n t op fi la se P) (ws0 : va_W) (z4 : ws0[4]? = some (ad 4, .inr (3, [.ref (ad 5), .int (nI (n)), .ref (ad 6), .int (en), .int (op), .int (fi), .int (la), .int (se)]))) (z5 : ws0[5]? = some (ad 5, .inl (ca 1, n, .inl (P)))) : mg_I l y_CT_take b_CT_take 2 (.boolean) 2 D classes (tys_ ca) [.ref (ad 4), .int (nI (c0))] ws0 (fun v w => (∀ j, j ≠ 4 ∧ j ≠ 5 → w[j]? = ws0[j]?) ∧ ∃ (op1 fi1 la1 se1 : Int32) (P1 : Nat → Int32), w[4]? = some (ad 4, .inr (3, [.ref (ad 5), .int (nI (n)), .ref (ad 6), .int (en), .int (op1), .int (fi1), .int (la1), .int (se1)])) ∧ w[5]? = some (ad 5, .inl (ca 1, n, .inl (P1))) ∧ ((ps_st n c0 t = none ∧ v = nI 0) ∨ ∃ u, ps_st n c0 t = some u ∧ v = nI 1 ∧ ct_st n u op1 fi1 la1 se1 P1)) := by
  obtain ⟨t1, t2, t3, pp⟩ := t
  obtain ⟨rfl, hfi1, hfi2, rfl, hse, hP0⟩ := hct
  obtain ⟨-, -, hok⟩ := hps
  dsimp only at hfi1 hfi2 hse hP0 hok
  refine mg_openI (own := R_CT) rfl (by decide) (Nat.le_of_ble_eq_true rfl) ?_
  intro p e s m args below meth c A Q ls C0 hK hA hP hD hS hl hret
  have hl : lv_has ls 2 [(0, .ref (ad 4)), (1, .int (nI (c0)))] := hl
  have f4 := z4
  have f5 := z5
  have hfm : ∀ j, j ≠ 4 ∧ j ≠ 5 → ws0[j]? = ws0[j]? := fun _ _ => rfl
  by_cases ht1 : t1 = 0
  · subst ht1
    rw [show (if (0, t2, t3, pp).1 = 0 then 0 else 1) = 0 from rfl] at f4
    refine lv_aload_n (pc := 0) C0.1 C0.2.1 d_CT_take_0 rfl (lv_at hl 0 rfl) ?_
    refine mg_get (pc := 1) C0 in_CT hK hP (4) f4 rfl 4 (by decide) fl_CT_28 rfl d_CT_take_1 ?_
    refine mz_ne (pc := 4) (tgt := 26) C0 (by decide) d_CT_take_4 (by decide) (fun h9 => absurd rfl h9) (fun _ => ?_)
    refine lv_iload_n (pc := 7) C0.1 C0.2.1 d_CT_take_7 rfl (lv_at hl 1 rfl) ?_
    refine lv_bipush (pc := 8) (v := nI (40)) C0.1 C0.2.1 d_CT_take_8 (by decide +kernel) ?_
    refine mb_ne (pc := 10) (tgt := 24) C0 (by omega) (by omega) d_CT_take_10 (by decide) (fun hc => ?_) (fun hc => ?_)
    · refine lv_iconst (pc := 24) (v := nI (0)) C0.1 C0.2.1 d_CT_take_24 (by decide +kernel) ?_
      exact hret _ _ _ _ 25 _ (rfl) (⟨hfm, _, _, _, _, P, f4, f5, Or.inl ⟨by
          unfold ps_st
          dsimp only
          rw [if_neg hc32, if_pos rfl, if_neg hc], rfl⟩⟩) hP hD hS d_CT_take_25
    · subst hc
      refine lv_aload_n (pc := 13) C0.1 C0.2.1 d_CT_take_13 rfl (lv_at hl 0 rfl) ?_
      refine mg_ci (pc := 14) (As := []) (rest := []) C0 (c_CT_openBracket l D ca ad h2 h6 ws0 f4) lk_CT_39 (by decide) f4 rfl hK hP hD hS hA rfl hl.1 rfl (Nat.le_of_ble_eq_true rfl) d_CT_take_14 (fun rv ws H locs hpost hP hD hS => ?_)
      obtain ⟨hr1, hfr, f4⟩ := hpost
      have f5 := (hfr (5) (by omega)).trans f5
      have hfm : ∀ j, j ≠ 4 ∧ j ≠ 5 → ws[j]? = ws0[j]? := fun j hj => (hfr j (by omega)).trans (hfm j hj)
      refine mg_top (show rv = nI (1) from hr1) ?_
      refine mz_eq (pc := 17) (tgt := 24) C0 (by decide) d_CT_take_17 (by decide) (fun h9 => absurd h9 (by decide)) (fun _ => ?_)
      refine lv_iconst (pc := 20) (v := nI (1)) C0.1 C0.2.1 d_CT_take_20 (by decide +kernel) ?_
      refine lv_goto (pc := 21) (tgt := 25) C0.1 C0.2.1 d_CT_take_21 (by decide) ?_
      exact hret _ _ _ _ 25 _ (rfl) (⟨hfm, _, _, _, _, P, f4, f5, Or.inr ⟨(1, t2, t3, pp), by
          unfold ps_st
          dsimp only
          rw [if_neg hc32, if_pos rfl, if_pos rfl], rfl, rfl, fun _ => rfl, fun h => absurd h (by dsimp only; omega), rfl, hse, hP0⟩⟩) hP hD hS d_CT_take_25
  · rw [show (if (t1, t2, t3, pp).1 = 0 then 0 else 1) = 1 from if_neg ht1] at f4
    refine lv_aload_n (pc := 0) C0.1 C0.2.1 d_CT_take_0 rfl (lv_at hl 0 rfl) ?_
    refine mg_get (pc := 1) C0 in_CT hK hP (4) f4 rfl 4 (by decide) fl_CT_28 rfl d_CT_take_1 ?_
    refine mz_ne (pc := 4) (tgt := 26) C0 (by decide) d_CT_take_4 (by decide) (fun _ => ?_) (fun h9 => absurd h9 (by decide))
    refine lv_iload_n (pc := 26) C0.1 C0.2.1 d_CT_take_26 rfl (lv_at hl 1 rfl) ?_
    refine lv_bipush (pc := 27) (v := nI (41)) C0.1 C0.2.1 d_CT_take_27 (by decide +kernel) ?_
    refine mb_ne (pc := 29) (tgt := 39) C0 (by omega) (by omega) d_CT_take_29 (by decide) (fun hc => ?_) (fun hc => ?_)
    · have hc41 := hc
      refine lv_aload_n (pc := 39) C0.1 C0.2.1 d_CT_take_39 rfl (lv_at hl 0 rfl) ?_
      refine lv_iload_n (pc := 40) C0.1 C0.2.1 d_CT_take_40 rfl (lv_at hl 1 rfl) ?_
      refine lv_bipush (pc := 41) (v := nI (48)) C0.1 C0.2.1 d_CT_take_41 (by decide +kernel) ?_
      by_cases hlow : 48 ≤ c0
      · refine mn_sub (pc := 43) C0 (by omega) d_CT_take_43 ?_
        by_cases hup : c0 < 48 + n
        · have han : c0 - 48 < n := by omega
          cases hbit : t3.testBit (c0 - 48) with
          | true =>
              refine mg_ci (pc := 44) (As := [.int (nI (c0 - 48))]) (rest := []) C0 (c_CT_takePoint1 l D ca ad h2 h6 han hse hbit ws0 f4) lk_CT_46 (by decide) f4 rfl hK hP hD hS hA rfl hl.1 rfl (Nat.le_of_ble_eq_true rfl) d_CT_take_44 (fun rv ws1 H locs hpost hP hD hS => ?_)
              obtain ⟨hr1, hw⟩ := hpost
              rw [hw] at hP hD
              refine mg_top (show rv = nI (0) from hr1) ?_
              exact hret _ _ _ _ 47 _ (rfl) (⟨hfm, _, _, _, _, P, f4, f5, Or.inl ⟨by
                  unfold ps_st
                  dsimp only
                  rw [if_neg hc32, if_neg ht1, if_neg hc41, if_neg (fun h => by rw [hbit] at h; exact absurd h.2.2 (by decide))], rfl⟩⟩) hP hD hS d_CT_take_47
          | false =>
              have hs64 : t3 ||| 2 ^ (c0 - 48) < 64 := nb_orlt (n := 6) hse (by omega)
              by_cases ht2 : t1 = 1
              · rw [hfi1 ht2] at f4
                refine mg_ci (pc := 44) (As := [.int (nI (c0 - 48))]) (rest := []) C0 (c_CT_takePoint2 l D ca ad h2 h6 han hse hbit ws0 f4 f5) lk_CT_46 (by decide) f4 rfl hK hP hD hS hA rfl hl.1 rfl (Nat.le_of_ble_eq_true rfl) d_CT_take_44 (fun rv ws H locs hpost hP hD hS => ?_)
                obtain ⟨hr1, hfr, f4, f5⟩ := hpost
                have hfm : ∀ j, j ≠ 4 ∧ j ≠ 5 → ws[j]? = ws0[j]? := fun j hj => (hfr j (by omega)).trans (hfm j hj)
                refine mg_top (show rv = nI (1) from hr1) ?_
                exact hret _ _ _ _ 47 _ (rfl) (⟨hfm, _, _, _, _, P, f4, f5, Or.inr ⟨(2 + (c0 - 48), c0 - 48, t3 ||| 2 ^ (c0 - 48), pp), by
                    unfold ps_st
                    dsimp only
                    rw [if_neg hc32, if_neg ht1, if_neg hc41, if_pos ⟨hlow, hup, hbit⟩, if_pos ht2], rfl, by rw [if_neg (by dsimp only; omega)], fun h => absurd h (by dsimp only; omega), fun _ => ⟨by dsimp only; rw [Nat.add_sub_cancel_left], rfl⟩, rfl, hs64, hP0⟩⟩) hP hD hS d_CT_take_47
              · have ht3 : 2 ≤ t1 := by omega
                obtain ⟨e1, e2⟩ := hfi2 ht3
                rw [e1, e2] at f4
                obtain ⟨hk1, hk2, -⟩ := hok ht3
                refine mg_ci (pc := 44) (As := [.int (nI (c0 - 48))]) (rest := []) C0 (c_CT_takePoint3 l D ca ad h2 h6 han hse hbit hk1 hk2 ws0 f4 f5) lk_CT_46 (by decide) f4 rfl hK hP hD hS hA rfl hl.1 rfl (Nat.le_of_ble_eq_true rfl) d_CT_take_44 (fun rv ws H locs hpost hP hD hS => ?_)
                obtain ⟨hr1, hfr, f4, f5⟩ := hpost
                have hfm : ∀ j, j ≠ 4 ∧ j ≠ 5 → ws[j]? = ws0[j]? := fun j hj => (hfr j (by omega)).trans (hfm j hj)
                refine mg_top (show rv = nI (1) from hr1) ?_
                exact hret _ _ _ _ 47 _ (rfl) (⟨hfm, _, _, _, _, _, f4, f5, Or.inr ⟨(t1, c0 - 48, t3 ||| 2 ^ (c0 - 48), ps_up pp t2 (c0 - 48)), by
                    unfold ps_st
                    dsimp only
                    rw [if_neg hc32, if_neg ht1, if_neg hc41, if_pos ⟨hlow, hup, hbit⟩, if_neg ht2], rfl, by rw [if_neg ht1], fun h => absurd h ht2, fun _ => ⟨rfl, rfl⟩, rfl, hs64, fun x hx => by
                    dsimp only
                    by_cases e : x = t2
                    · subst e; rw [pk_us, ps_us]
                    · rw [pk_un e, ps_un _ _ e]; exact hP0 x hx⟩⟩) hP hD hS d_CT_take_47
        · refine mg_ci (pc := 44) (As := [.int (nI (c0 - 48))]) (rest := []) C0 (c_CT_takePoint0 l D ca ad h2 h6 (Or.inr (nI_le (by omega) (by omega))) ws0 f4) lk_CT_46 (by decide) f4 rfl hK hP hD hS hA rfl hl.1 rfl (Nat.le_of_ble_eq_true rfl) d_CT_take_44 (fun rv ws1 H locs hpost hP hD hS => ?_)
          obtain ⟨hr1, hw⟩ := hpost
          rw [hw] at hP hD
          refine mg_top (show rv = nI (0) from hr1) ?_
          exact hret _ _ _ _ 47 _ (rfl) (⟨hfm, _, _, _, _, P, f4, f5, Or.inl ⟨by
              unfold ps_st
              dsimp only
              rw [if_neg hc32, if_neg ht1, if_neg hc41, if_neg (fun h => hup h.2.1)], rfl⟩⟩) hP hD hS d_CT_take_47
      · refine lv_isub (pc := 43) C0.1 C0.2.1 d_CT_take_43 ?_
        have hneg : nI c0 - nI 48 < 0 := pk_sneg (by decide) (by omega)
        refine mg_ci (pc := 44) (As := [.int ((nI (c0)) - (nI (48)))]) (rest := []) C0 (c_CT_takePoint0 l D ca ad h2 h6 (Or.inl hneg) ws0 f4) lk_CT_46 (by decide) f4 rfl hK hP hD hS hA rfl hl.1 rfl (Nat.le_of_ble_eq_true rfl) d_CT_take_44 (fun rv ws1 H locs hpost hP hD hS => ?_)
        obtain ⟨hr1, hw⟩ := hpost
        rw [hw] at hP hD
        refine mg_top (show rv = nI (0) from hr1) ?_
        exact hret _ _ _ _ 47 _ (rfl) (⟨hfm, _, _, _, _, P, f4, f5, Or.inl ⟨by
            unfold ps_st
            dsimp only
            rw [if_neg hc32, if_neg ht1, if_neg hc41, if_neg (fun h => hlow h.1)], rfl⟩⟩) hP hD hS d_CT_take_47
    · subst hc
      by_cases ht2 : t1 = 1
      · rw [hfi1 ht2] at f4
        refine lv_aload_n (pc := 32) C0.1 C0.2.1 d_CT_take_32 rfl (lv_at hl 0 rfl) ?_
        refine mg_ci (pc := 33) (As := []) (rest := []) C0 (c_CT_closeBracket0 l D ca ad h2 h6 ws0 f4) lk_CT_43 (by decide) f4 rfl hK hP hD hS hA rfl hl.1 rfl (Nat.le_of_ble_eq_true rfl) d_CT_take_33 (fun rv ws1 H locs hpost hP hD hS => ?_)
        obtain ⟨hr1, hw⟩ := hpost
        rw [hw] at hP hD
        refine mg_top (show rv = nI (0) from hr1) ?_
        refine lv_goto (pc := 36) (tgt := 47) C0.1 C0.2.1 d_CT_take_36 (by decide) ?_
        exact hret _ _ _ _ 47 _ (rfl) (⟨hfm, _, _, _, _, P, f4, f5, Or.inl ⟨by
            unfold ps_st
            dsimp only
            rw [if_neg hc32, if_neg ht1, if_pos rfl, if_pos ht2], rfl⟩⟩) hP hD hS d_CT_take_47
      · have ht3 : 2 ≤ t1 := by omega
        obtain ⟨e1, e2⟩ := hfi2 ht3
        rw [e1, e2] at f4
        obtain ⟨hk1, hk2, -⟩ := hok ht3
        refine lv_aload_n (pc := 32) C0.1 C0.2.1 d_CT_take_32 rfl (lv_at hl 0 rfl) ?_
        refine mg_ci (pc := 33) (As := []) (rest := []) C0 (c_CT_closeBracket1 l D ca ad h2 h6 hk1 hk2 ws0 f4 f5) lk_CT_43 (by decide) f4 rfl hK hP hD hS hA rfl hl.1 rfl (Nat.le_of_ble_eq_true rfl) d_CT_take_33 (fun rv ws H locs hpost hP hD hS => ?_)
        obtain ⟨hr1, hfr, f4, f5⟩ := hpost
        have hfm : ∀ j, j ≠ 4 ∧ j ≠ 5 → ws[j]? = ws0[j]? := fun j hj => (hfr j (by omega)).trans (hfm j hj)
        refine mg_top (show rv = nI (1) from hr1) ?_
        refine lv_goto (pc := 36) (tgt := 47) C0.1 C0.2.1 d_CT_take_36 (by decide) ?_
        exact hret _ _ _ _ 47 _ (rfl) (⟨hfm, _, _, _, _, _, f4, f5, Or.inr ⟨(0, t2, t3, ps_up pp t2 (t1 - 2)), by
            unfold ps_st
            dsimp only
            rw [if_neg hc32, if_neg ht1, if_pos rfl, if_neg ht2], rfl, rfl, fun h => absurd h (by dsimp only; omega), fun h => absurd h (by dsimp only; omega), rfl, hse, fun x hx => by
            dsimp only
            by_cases e : x = t2
            · subst e; rw [pk_us, ps_us]
            · rw [pk_un e, ps_un _ _ e]; exact hP0 x hx⟩⟩) hP hD hS d_CT_take_47
set_option maxHeartbeats 4000000 in
set_option maxRecDepth 100000 in
theorem c_CT_parse (l : Launch) (D : va_G) (ca : Nat → ClassId) (ad : Nat → Nat) {n : Nat} (h2 : 2 ≤ n) (h6 : n ≤ 6) {op fi la se : Int32} {P T : Nat → Int32} {len : Nat} {tx : Nat → Nat} (hlen : len ≤ 40) (htx : ∀ i, i < len → tx i < 128) (hT : ∀ i, i < len → T i = nI (tx i)) (ws0 : va_W) (z4 : ws0[4]? = some (ad 4, .inr (3, [.ref (ad 5), .int (nI (n)), .ref (ad 6), .int (nI (len)), .int (op), .int (fi), .int (la), .int (se)]))) (z5 : ws0[5]? = some (ad 5, .inl (ca 1, n, .inl (P)))) (z6 : ws0[6]? = some (ad 6, .inl (ca 3, 40, .inl (T)))) : mg_I l y_CT_parse b_CT_parse 2 (.int) 3 D classes (tys_ ca) [.ref (ad 4)] ws0 (fun v w => (∀ j, j ≠ 4 ∧ j ≠ 5 → w[j]? = ws0[j]?) ∧ ∃ (op1 fi1 la1 se1 : Int32) (P1 : Nat → Int32), w[4]? = some (ad 4, .inr (3, [.ref (ad 5), .int (nI (n)), .ref (ad 6), .int (nI (len)), .int (op1), .int (fi1), .int (la1), .int (se1)])) ∧ w[5]? = some (ad 5, .inl (ca 1, n, .inl (P1))) ∧ ((∃ i, ps_read n tx len = .inl i ∧ i ≤ len ∧ v = nI i) ∨ ∃ p, ps_read n tx len = .inr p ∧ v = (-1) ∧ ∀ x, x < n → P1 x = nI (p x))) := by
  refine mg_openI (own := R_CT) rfl (by decide) (Nat.le_of_ble_eq_true rfl) ?_
  intro p e s m args below meth c A Q ls C0 hK hA hP hD hS hl hret
  have hl : lv_has ls 2 [(0, .ref (ad 4))] := hl
  have f4 := z4
  have f5 := z5
  have f6 := z6
  have hfm : ∀ j, j ≠ 4 ∧ j ≠ 5 → ws0[j]? = ws0[j]? := fun _ _ => rfl
  refine lv_iconst (pc := 0) (v := nI (0)) C0.1 C0.2.1 d_CT_parse_0 (by decide +kernel) ?_
  refine lv_istore_n (pc := 1) (lv' := [(1, .int (nI (0))), (0, .ref (ad 4))]) C0.1 C0.2.1 d_CT_parse_1 rfl hl (by decide) rfl (fun ls hl => ?_)
  have loop1 : ∀ (d : Nat) (x : Nat) (P : Nat → Int32) (ws : va_W) (H : Heap) (locs : List Loc) (ls : Array Slot), n - x = d → (x ≤ n) → (∀ y, y < x → P y = nI y) → (∀ j, j ≠ 4 ∧ j ≠ 5 → ws[j]? = ws0[j]?) → ws[4]? = some (ad 4, .inr (3, [.ref (ad 5), .int (nI (n)), .ref (ad 6), .int (nI (len)), .int (op), .int (fi), .int (la), .int (se)])) → ws[5]? = some (ad 5, .inl (ca 1, n, .inl (P))) → lv_has ls 2 [(0, .ref (ad 4)), (1, .int (nI (x)))] → va_P D classes ws H → va_D A ws → va_S A s.heap H locs → W p l e (mg_rm 3) s m args below meth c H locs 0 0 Q (F0 m 2 ls []) := by
    intro d
    induction d using Nat.strongRecOn with
    | _ d ih_loop1 =>
      intro x P ws H locs ls hd hx hP1 hfm f4 f5 hl hP hD hS
      have f6 := (hfm (6) (by omega)).trans z6
      refine lv_iload_n (pc := 2) C0.1 C0.2.1 d_CT_parse_2 rfl (lv_at hl 1 rfl) ?_
      refine lv_aload_n (pc := 3) C0.1 C0.2.1 d_CT_parse_3 rfl (lv_at hl 0 rfl) ?_
      refine mg_get (pc := 4) C0 in_CT hK hP (4) f4 rfl 1 (by decide) fl_CT_7 rfl d_CT_parse_4 ?_
      refine mb_ge (pc := 7) (tgt := 23) C0 (by omega) (by omega) d_CT_parse_7 (by decide) (fun hc => ?_) (fun hc => ?_)
      · refine lv_aload_n (pc := 23) C0.1 C0.2.1 d_CT_parse_23 rfl (lv_at hl 0 rfl) ?_
        refine lv_iconst (pc := 24) (v := nI (0)) C0.1 C0.2.1 d_CT_parse_24 (by decide +kernel) ?_
        refine mg_put (pc := 25) C0 in_CT t_CT_ok n_CT hK hP hD hS (4) f4 rfl 4 (by decide) fl_CT_28 rfl (ty := .boolean) (by decide +kernel) rfl rfl (Nat.le_of_ble_eq_true rfl) (fs' := [.ref (ad 5), .int (nI (n)), .ref (ad 6), .int (nI (len)), .int (nI (0)), .int (fi), .int (la), .int (se)]) rfl d_CT_parse_25 (fun ws H locs hfr f4 hP hD hS => ?_)
        have f6 := (hfr (6) (by omega)).trans f6
        have f5 := (hfr (5) (by omega)).trans f5
        have hfm : ∀ j, j ≠ 4 ∧ j ≠ 5 → ws[j]? = ws0[j]? := fun j hj => (hfr j (by omega)).trans (hfm j hj)
        refine lv_aload_n (pc := 28) C0.1 C0.2.1 d_CT_parse_28 rfl (lv_at hl 0 rfl) ?_
        refine lv_iconst (pc := 29) (v := nI (0)) C0.1 C0.2.1 d_CT_parse_29 (by decide +kernel) ?_
        refine mg_put (pc := 30) C0 in_CT t_CT_ok n_CT hK hP hD hS (4) f4 rfl 7 (by decide) fl_CT_32 rfl (ty := .int) (by decide +kernel) rfl rfl (Nat.le_of_ble_eq_true rfl) (fs' := [.ref (ad 5), .int (nI (n)), .ref (ad 6), .int (nI (len)), .int (nI (0)), .int (fi), .int (la), .int (nI (0))]) rfl d_CT_parse_30 (fun ws H locs hfr f4 hP hD hS => ?_)
        have f6 := (hfr (6) (by omega)).trans f6
        have f5 := (hfr (5) (by omega)).trans f5
        have hfm : ∀ j, j ≠ 4 ∧ j ≠ 5 → ws[j]? = ws0[j]? := fun j hj => (hfr j (by omega)).trans (hfm j hj)
        refine lv_iconst (pc := 33) (v := nI (0)) C0.1 C0.2.1 d_CT_parse_33 (by decide +kernel) ?_
        refine lv_istore_n (pc := 34) (lv' := [(1, .int (nI (0))), (0, .ref (ad 4))]) C0.1 C0.2.1 d_CT_parse_34 rfl hl (by decide) rfl (fun ls hl => ?_)
        have loop2 : ∀ (d : Nat) (a : Nat) (t : ps_T) (op : Int32) (fi : Int32) (la : Int32) (se : Int32) (P : Nat → Int32) (ws : va_W) (H : Heap) (locs : List Loc) (ls : Array Slot), len - a = d → (a ≤ len) → (ps_ok n t) → (ct_st n t op fi la se P) → (ps_go n tx (len - a) a t = ps_go n tx len 0 ps_0) → (∀ j, j ≠ 4 ∧ j ≠ 5 → ws[j]? = ws0[j]?) → ws[4]? = some (ad 4, .inr (3, [.ref (ad 5), .int (nI (n)), .ref (ad 6), .int (nI (len)), .int (op), .int (fi), .int (la), .int (se)])) → ws[5]? = some (ad 5, .inl (ca 1, n, .inl (P))) → lv_has ls 2 [(0, .ref (ad 4)), (1, .int (nI (a)))] → va_P D classes ws H → va_D A ws → va_S A s.heap H locs → W p l e (mg_rm 3) s m args below meth c H locs 0 0 Q (F0 m 35 ls []) := by
          intro d
          induction d using Nat.strongRecOn with
          | _ d ih_loop2 =>
            intro a t op fi la se P ws H locs ls hd ha hps hct hgo hfm f4 f5 hl hP hD hS
            have f6 := (hfm (6) (by omega)).trans z6
            refine lv_iload_n (pc := 35) C0.1 C0.2.1 d_CT_parse_35 rfl (lv_at hl 1 rfl) ?_
            refine lv_aload_n (pc := 36) C0.1 C0.2.1 d_CT_parse_36 rfl (lv_at hl 0 rfl) ?_
            refine mg_get (pc := 37) C0 in_CT hK hP (4) f4 rfl 3 (by decide) fl_CT_21 rfl d_CT_parse_37 ?_
            refine mb_ge (pc := 40) (tgt := 75) C0 (by omega) (by omega) d_CT_parse_40 (by decide) (fun hc => ?_) (fun hc => ?_)
            · have ea : len - a = 0 := by omega
              rw [ea] at hgo
              have hgo2 : ps_go n tx len 0 ps_0 = .inr t := hgo.symm
              have hop := hct.1
              by_cases ht1 : t.1 = 0
              · rw [if_pos ht1] at hop
                refine lv_aload_n (pc := 75) C0.1 C0.2.1 d_CT_parse_75 rfl (lv_at hl 0 rfl) ?_
                refine mg_get (pc := 76) C0 in_CT hK hP (4) f4 rfl 4 (by decide) fl_CT_28 rfl d_CT_parse_76 ?_
                refine mg_top (show op = nI (0) from hop) ?_
                refine mz_eq (pc := 79) (tgt := 89) C0 (by decide) d_CT_parse_79 (by decide) (fun _ => ?_) (fun h9 => absurd rfl h9)
                refine lv_iconst (pc := 89) (v := (-1)) C0.1 C0.2.1 d_CT_parse_89 (by decide +kernel) ?_
                exact hret _ _ _ _ 90 _ (rfl) (⟨hfm, _, _, _, _, P, f4, f5, Or.inr ⟨_, ps_rd2 hgo2 ht1, rfl, hct.2.2.2.2.2⟩⟩) hP hD hS d_CT_parse_90
              · rw [if_neg ht1] at hop
                refine lv_aload_n (pc := 75) C0.1 C0.2.1 d_CT_parse_75 rfl (lv_at hl 0 rfl) ?_
                refine mg_get (pc := 76) C0 in_CT hK hP (4) f4 rfl 4 (by decide) fl_CT_28 rfl d_CT_parse_76 ?_
                refine mg_top (show op = nI (1) from hop) ?_
                refine mz_eq (pc := 79) (tgt := 89) C0 (by decide) d_CT_parse_79 (by decide) (fun h9 => absurd h9 (by decide)) (fun _ => ?_)
                refine lv_aload_n (pc := 82) C0.1 C0.2.1 d_CT_parse_82 rfl (lv_at hl 0 rfl) ?_
                refine mg_get (pc := 83) C0 in_CT hK hP (4) f4 rfl 3 (by decide) fl_CT_21 rfl d_CT_parse_83 ?_
                refine lv_goto (pc := 86) (tgt := 90) C0.1 C0.2.1 d_CT_parse_86 (by decide) ?_
                exact hret _ _ _ _ 90 _ (rfl) (⟨hfm, _, _, _, _, P, f4, f5, Or.inl ⟨len, ps_rd3 hgo2 ht1, Nat.le_refl _, rfl⟩⟩) hP hD hS d_CT_parse_90
            · have hal := hc
              obtain ⟨f9, hf9⟩ : ∃ f9, len - a = f9 + 1 := ⟨len - a - 1, by omega⟩
              have hf8 : len - (a + 1) = f9 := by omega
              rw [hf9] at hgo
              have htx1 := htx a hal
              refine lv_aload_n (pc := 43) C0.1 C0.2.1 d_CT_parse_43 rfl (lv_at hl 0 rfl) ?_
              refine mg_get (pc := 44) C0 in_CT hK hP (4) f4 rfl 2 (by decide) fl_CT_17 rfl d_CT_parse_44 ?_
              refine lv_iload_n (pc := 47) C0.1 C0.2.1 d_CT_parse_47 rfl (lv_at hl 1 rfl) ?_
              refine mg_cld (pc := 48) C0 hK hP (6) 3 f6 rfl (j := a) (by omega) (by omega) d_CT_parse_48 ?_
              refine mg_top (show T (a) = nI (tx a) from hT a hal) ?_
              refine lv_bipush (pc := 49) (v := nI (32)) C0.1 C0.2.1 d_CT_parse_49 (by decide +kernel) ?_
              refine mb_eq (pc := 51) (tgt := 69) C0 (by omega) (by omega) d_CT_parse_51 (by decide) (fun hc => ?_) (fun hc => ?_)
              · refine lv_iinc (pc := 69) (k := 1) (v := nI (a + 1)) (lv' := [(1, .int (nI (a + 1))), (0, .ref (ad 4))]) C0.1 C0.2.1 d_CT_parse_69 hl rfl (nb_p1 _) (by decide) rfl (fun ls hl => ?_)
                refine lv_goto (pc := 72) (tgt := 35) C0.1 C0.2.1 d_CT_parse_72 (by decide) ?_
                have hst : ps_st n (tx a) t = some t := by unfold ps_st; rw [if_pos hc]
                exact ih_loop2 _ (by omega) (a + 1) t _ _ _ _ _ _ _ _ _ rfl (by omega) hps hct (by rw [hf8, ← ps_go_some hst]; exact hgo) hfm f4 f5 (lv_sub hl [1, 0] rfl) hP hD hS
              · have hc32 := hc
                refine lv_aload_n (pc := 54) C0.1 C0.2.1 d_CT_parse_54 rfl (lv_at hl 0 rfl) ?_
                refine lv_aload_n (pc := 55) C0.1 C0.2.1 d_CT_parse_55 rfl (lv_at hl 0 rfl) ?_
                refine mg_get (pc := 56) C0 in_CT hK hP (4) f4 rfl 2 (by decide) fl_CT_17 rfl d_CT_parse_56 ?_
                refine lv_iload_n (pc := 59) C0.1 C0.2.1 d_CT_parse_59 rfl (lv_at hl 1 rfl) ?_
                refine mg_cld (pc := 60) C0 hK hP (6) 3 f6 rfl (j := a) (by omega) (by omega) d_CT_parse_60 ?_
                refine mg_top (show T (a) = nI (tx a) from hT a hal) ?_
                refine mg_ci (pc := 61) (As := [.int (nI (tx a))]) (rest := []) C0 (c_CT_take l D ca ad h2 h6 htx1 hc32 hps hct ws f4 f5) lk_CT_35 (by decide) f4 rfl hK hP hD hS hA rfl hl.1 rfl (Nat.le_of_ble_eq_true rfl) d_CT_parse_61 (fun rv ws H locs hpost hP hD hS => ?_)
                obtain ⟨hfr, op1, fi1, la1, se1, P1, f4, f5, hres⟩ := hpost
                have f6 := (hfr (6) (by omega)).trans f6
                have hfm : ∀ j, j ≠ 4 ∧ j ≠ 5 → ws[j]? = ws0[j]? := fun j hj => (hfr j (by omega)).trans (hfm j hj)
                rcases hres with ⟨hn, hr1⟩ | ⟨u, hu, hr1, hct1⟩
                · refine mg_top (show rv = nI (0) from hr1) ?_
                  refine mz_ne (pc := 64) (tgt := 69) C0 (by decide) d_CT_parse_64 (by decide) (fun h9 => absurd rfl h9) (fun _ => ?_)
                  rw [ps_go_none hn] at hgo
                  refine lv_iload_n (pc := 67) C0.1 C0.2.1 d_CT_parse_67 rfl (lv_at hl 1 rfl) ?_
                  exact hret _ _ _ _ 68 _ (rfl) (⟨hfm, _, _, _, _, P1, f4, f5, Or.inl ⟨a, ps_rd1 hgo.symm, by omega, rfl⟩⟩) hP hD hS d_CT_parse_68
                · refine mg_top (show rv = nI (1) from hr1) ?_
                  refine mz_ne (pc := 64) (tgt := 69) C0 (by decide) d_CT_parse_64 (by decide) (fun _ => ?_) (fun h9 => absurd h9 (by decide))
                  refine lv_iinc (pc := 69) (k := 1) (v := nI (a + 1)) (lv' := [(1, .int (nI (a + 1))), (0, .ref (ad 4))]) C0.1 C0.2.1 d_CT_parse_69 hl rfl (nb_p1 _) (by decide) rfl (fun ls hl => ?_)
                  refine lv_goto (pc := 72) (tgt := 35) C0.1 C0.2.1 d_CT_parse_72 (by decide) ?_
                  exact ih_loop2 _ (by omega) (a + 1) u _ _ _ _ _ _ _ _ _ rfl (by omega) (ps_ok1 hps hu) hct1 (by rw [hf8, ← ps_go_some hu]; exact hgo) hfm f4 f5 (lv_sub hl [1, 0] rfl) hP hD hS
        exact loop2 _ 0 ps_0 _ _ _ _ _ _ _ _ _ rfl (by omega) (ps_ok0 n) (⟨rfl, fun h => absurd h (by decide), fun h => absurd h (by decide), rfl, by decide, fun y hy => hP1 y (by omega)⟩) rfl hfm f4 f5 (lv_sub hl [1, 0] rfl) hP hD hS
      · refine lv_aload_n (pc := 10) C0.1 C0.2.1 d_CT_parse_10 rfl (lv_at hl 0 rfl) ?_
        refine mg_get (pc := 11) C0 in_CT hK hP (4) f4 rfl 0 (by decide) fl_CT_13 rfl d_CT_parse_11 ?_
        refine lv_iload_n (pc := 14) C0.1 C0.2.1 d_CT_parse_14 rfl (lv_at hl 1 rfl) ?_
        refine lv_iload_n (pc := 15) C0.1 C0.2.1 d_CT_parse_15 rfl (lv_at hl 1 rfl) ?_
        refine mg_ist (pc := 16) C0 hK hP hD hS (5) 1 f5 rfl (j := x) (by omega) (by omega) d_CT_parse_16 (fun ws H locs hfr f5 hP hD hS => ?_)
        have f6 := (hfr (6) (by omega)).trans f6
        have f4 := (hfr (4) (by omega)).trans f4
        have hfm : ∀ j, j ≠ 4 ∧ j ≠ 5 → ws[j]? = ws0[j]? := fun j hj => (hfr j (by omega)).trans (hfm j hj)
        refine lv_iinc (pc := 17) (k := 1) (v := nI (x + 1)) (lv' := [(1, .int (nI (x + 1))), (0, .ref (ad 4))]) C0.1 C0.2.1 d_CT_parse_17 hl rfl (nb_p1 _) (by decide) rfl (fun ls hl => ?_)
        refine lv_goto (pc := 20) (tgt := 2) C0.1 C0.2.1 d_CT_parse_20 (by decide) ?_
        exact ih_loop1 _ (by omega) (x + 1) (upd P (x) (nI (x))) _ _ _ _ rfl (by omega) (fun y hy => by
          by_cases e : y = x
          · subst e; exact pk_us
          · rw [pk_un e]; exact hP1 y (by omega)) hfm f4 f5 (lv_sub hl [1, 0] rfl) hP hD hS
  exact loop1 _ 0 P _ _ _ _ rfl (by omega) (fun y hy => absurd hy (by omega)) hfm f4 f5 (lv_sub hl [1, 0] rfl) hP hD hS
set_option maxHeartbeats 4000000 in
set_option maxRecDepth 100000 in
theorem c_CT_append0 (l : Launch) (D : va_G) (ca : Nat → ClassId) (ad : Nat → Nat) {n : Nat} (h2 : 2 ≤ n) (h6 : n ≤ 6) {en op fi la se : Int32} {word x : Int32} (hx : x < 1 ∨ 4 < x) (ws0 : va_W) (z4 : ws0[4]? = some (ad 4, .inr (3, [.ref (ad 5), .int (nI (n)), .ref (ad 6), .int (en), .int (op), .int (fi), .int (la), .int (se)]))) : mg_I l y_CT_append b_CT_append 5 (.boolean) 2 D classes (tys_ ca) [.ref (ad 4), .int (word), .int (x)] ws0 (fun v w => v = nI 0 ∧ w = ws0) := by
  refine mg_openI (own := R_CT) rfl (by decide) (Nat.le_of_ble_eq_true rfl) ?_
  intro p e s m args below meth c A Q ls C0 hK hA hP hD hS hl hret
  have hl : lv_has ls 5 [(0, .ref (ad 4)), (1, .int (word)), (2, .int (x))] := hl
  have f4 := z4
  refine lv_iload_n (pc := 0) C0.1 C0.2.1 d_CT_append_0 rfl (lv_at hl 2 rfl) ?_
  refine lv_iconst (pc := 1) (v := nI (1)) C0.1 C0.2.1 d_CT_append_1 (by decide +kernel) ?_
  refine lv_icmp_lt (pc := 2) (tgt := 21) C0.1 C0.2.1 d_CT_append_2 (by decide) (fun hc => ?_) (fun hc => ?_)
  · refine lv_iconst (pc := 21) (v := nI (0)) C0.1 C0.2.1 d_CT_append_21 (by decide +kernel) ?_
    exact hret _ _ _ _ 22 _ (rfl) (⟨rfl, rfl⟩) hP hD hS d_CT_append_22
  · refine lv_iload_n (pc := 5) C0.1 C0.2.1 d_CT_append_5 rfl (lv_at hl 2 rfl) ?_
    refine lv_iconst (pc := 6) (v := nI (4)) C0.1 C0.2.1 d_CT_append_6 (by decide +kernel) ?_
    refine lv_icmp_gt (pc := 7) (tgt := 21) C0.1 C0.2.1 d_CT_append_7 (by decide) (fun hc2 => ?_) (fun hc2 => ?_)
    · refine lv_iconst (pc := 21) (v := nI (0)) C0.1 C0.2.1 d_CT_append_21 (by decide +kernel) ?_
      exact hret _ _ _ _ 22 _ (rfl) (⟨rfl, rfl⟩) hP hD hS d_CT_append_22
    · exact (hx.elim hc hc2).elim
set_option maxHeartbeats 4000000 in
set_option maxRecDepth 100000 in
theorem c_CT_append1 (l : Launch) (D : va_G) (ca : Nat → ClassId) (ad : Nat → Nat) {n : Nat} (h2 : 2 ≤ n) (h6 : n ≤ 6) {op fi la se word : Int32} {T : Nat → Int32} {len m0 : Nat} {tx : Nat → Nat} (hlen : len ≤ 40) (hT : ∀ i, i < len → T i = nI (tx i)) (hm1 : 1 ≤ m0) (hm4 : m0 ≤ 4) (ws0 : va_W) (z4 : ws0[4]? = some (ad 4, .inr (3, [.ref (ad 5), .int (nI (n)), .ref (ad 6), .int (nI (len)), .int (op), .int (fi), .int (la), .int (se)]))) (z6 : ws0[6]? = some (ad 6, .inl (ca 3, 40, .inl (T)))) : mg_I l y_CT_append b_CT_append 5 (.boolean) 2 D classes (tys_ ca) [.ref (ad 4), .int (word), .int (nI (m0))] ws0 (fun v w => (ty_ok len m0 word = false ∧ v = nI 0 ∧ w = ws0) ∨ (ty_ok len m0 word = true ∧ v = nI 1 ∧ (∀ j, j ≠ 4 ∧ j ≠ 6 → w[j]? = ws0[j]?) ∧ w[4]? = some (ad 4, .inr (3, [.ref (ad 5), .int (nI (n)), .ref (ad 6), .int (nI (len + m0)), .int (op), .int (fi), .int (la), .int (se)])) ∧ ∃ T1 : Nat → Int32, w[6]? = some (ad 6, .inl (ca 3, 40, .inl (T1))) ∧ ∀ j, j < len + m0 → T1 j = nI (ty_tx len m0 word tx j))) := by
  refine mg_openI (own := R_CT) rfl (by decide) (Nat.le_of_ble_eq_true rfl) ?_
  intro p e s m args below meth c A Q ls C0 hK hA hP hD hS hl hret
  have hl : lv_has ls 5 [(0, .ref (ad 4)), (1, .int (word)), (2, .int (nI (m0)))] := hl
  have f4 := z4
  have f6 := z6
  have hfm : ∀ j, j ≠ 4 ∧ j ≠ 6 → ws0[j]? = ws0[j]? := fun _ _ => rfl
  refine lv_iload_n (pc := 0) C0.1 C0.2.1 d_CT_append_0 rfl (lv_at hl 2 rfl) ?_
  refine lv_iconst (pc := 1) (v := nI (1)) C0.1 C0.2.1 d_CT_append_1 (by decide +kernel) ?_
  refine mb_lt (pc := 2) (tgt := 21) C0 (by omega) (by omega) d_CT_append_2 (by decide) (fun hc => ?_) (fun hc => ?_)
  · exact absurd hc (by omega)
  · refine lv_iload_n (pc := 5) C0.1 C0.2.1 d_CT_append_5 rfl (lv_at hl 2 rfl) ?_
    refine lv_iconst (pc := 6) (v := nI (4)) C0.1 C0.2.1 d_CT_append_6 (by decide +kernel) ?_
    refine mb_gt (pc := 7) (tgt := 21) C0 (by omega) (by omega) d_CT_append_7 (by decide) (fun hc => ?_) (fun hc => ?_)
    · exact absurd hc (by omega)
    · refine lv_aload_n (pc := 10) C0.1 C0.2.1 d_CT_append_10 rfl (lv_at hl 0 rfl) ?_
      refine mg_get (pc := 11) C0 in_CT hK hP (4) f4 rfl 3 (by decide) fl_CT_21 rfl d_CT_append_11 ?_
      refine lv_iload_n (pc := 14) C0.1 C0.2.1 d_CT_append_14 rfl (lv_at hl 2 rfl) ?_
      refine mn_add (pc := 15) C0 d_CT_append_15 ?_
      refine lv_bipush (pc := 16) (v := nI (40)) C0.1 C0.2.1 d_CT_append_16 (by decide +kernel) ?_
      refine mb_le (pc := 18) (tgt := 23) C0 (by omega) (by omega) d_CT_append_18 (by decide) (fun hc => ?_) (fun hc => ?_)
      · have hroom := hc
        refine lv_iconst (pc := 23) (v := nI (0)) C0.1 C0.2.1 d_CT_append_23 (by decide +kernel) ?_
        refine lv_istore_n (pc := 24) (lv' := [(3, .int (nI (0))), (0, .ref (ad 4)), (1, .int (word)), (2, .int (nI (m0)))]) C0.1 C0.2.1 d_CT_append_24 rfl hl (by decide) rfl (fun ls hl => ?_)
        have loop1 : ∀ (d : Nat) (a : Nat) (ws : va_W) (H : Heap) (locs : List Loc) (ls : Array Slot), m0 - a = d → (a ≤ m0) → (∀ i, i < a → 32 ≤ ty_b word i ∧ ty_b word i ≤ 126) → (ws = ws0) → (∀ j, j ≠ 4 ∧ j ≠ 6 → ws[j]? = ws0[j]?) → ws[4]? = some (ad 4, .inr (3, [.ref (ad 5), .int (nI (n)), .ref (ad 6), .int (nI (len)), .int (op), .int (fi), .int (la), .int (se)])) → ws[6]? = some (ad 6, .inl (ca 3, 40, .inl (T))) → lv_has ls 5 [(0, .ref (ad 4)), (1, .int (word)), (2, .int (nI (m0))), (3, .int (nI (a)))] → va_P D classes ws H → va_D A ws → va_S A s.heap H locs → W p l e (mg_rm 2) s m args below meth c H locs 0 0 Q (F0 m 25 ls []) := by
          intro d
          induction d using Nat.strongRecOn with
          | _ d ih_loop1 =>
            intro a ws H locs ls hd ha hby hws hfm f4 f6 hl hP hD hS
            refine lv_iload_n (pc := 25) C0.1 C0.2.1 d_CT_append_25 rfl (lv_at hl 3 rfl) ?_
            refine lv_iload_n (pc := 26) C0.1 C0.2.1 d_CT_append_26 rfl (lv_at hl 2 rfl) ?_
            refine mb_ge (pc := 27) (tgt := 59) C0 (by omega) (by omega) d_CT_append_27 (by decide) (fun hc => ?_) (fun hc => ?_)
            · have hok := ty_ok1 hroom (fun i hi => hby i (by omega))
              refine lv_iload_n (pc := 59) C0.1 C0.2.1 d_CT_append_59 rfl (lv_at hl 2 rfl) ?_
              refine lv_iconst (pc := 60) (v := nI (1)) C0.1 C0.2.1 d_CT_append_60 (by decide +kernel) ?_
              refine lv_isub (pc := 61) C0.1 C0.2.1 d_CT_append_61 ?_
              refine mg_top (show (nI (m0)) - (nI (1)) = nI m0 - 1 from nb_ds _) ?_
              refine lv_istore_n (pc := 62) (lv' := [(3, .int (nI m0 - 1)), (0, .ref (ad 4)), (1, .int (word)), (2, .int (nI (m0)))]) C0.1 C0.2.1 d_CT_append_62 rfl hl (by decide) rfl (fun ls hl => ?_)
              have loop2 : ∀ (d : Nat) (k : Nat) (T : Nat → Int32) (ws : va_W) (H : Heap) (locs : List Loc) (ls : Array Slot), k = d → (k ≤ m0) → (∀ j, j < len + (m0 - k) → T j = nI (ty_tx len m0 word tx j)) → (∀ j, j ≠ 4 ∧ j ≠ 6 → ws[j]? = ws0[j]?) → ws[4]? = some (ad 4, .inr (3, [.ref (ad 5), .int (nI (n)), .ref (ad 6), .int (nI (len + (m0 - k))), .int (op), .int (fi), .int (la), .int (se)])) → ws[6]? = some (ad 6, .inl (ca 3, 40, .inl (T))) → lv_has ls 5 [(0, .ref (ad 4)), (1, .int (word)), (2, .int (nI (m0))), (3, .int (nI k - 1))] → va_P D classes ws H → va_D A ws → va_S A s.heap H locs → W p l e (mg_rm 2) s m args below meth c H locs 0 0 Q (F0 m 63 ls []) := by
                intro d
                induction d using Nat.strongRecOn with
                | _ d ih_loop2 =>
                  intro k T ws H locs ls hd hk hT1 hfm f4 f6 hl hP hD hS
                  refine lv_iload_n (pc := 63) C0.1 C0.2.1 d_CT_append_63 rfl (lv_at hl 3 rfl) ?_
                  refine lv_if_lt (pc := 64) (tgt := 98) C0.1 C0.2.1 d_CT_append_64 (by decide) (fun hc => ?_) (fun hc => ?_)
                  · have hk0 := nb_dn0 (by omega) hc
                    subst hk0
                    rw [Nat.sub_zero] at f4 hT1
                    refine lv_iconst (pc := 98) (v := nI (1)) C0.1 C0.2.1 d_CT_append_98 (by decide +kernel) ?_
                    exact hret _ _ _ _ 99 _ (rfl) (Or.inr ⟨hok, rfl, hfm, f4, T, f6, hT1⟩) hP hD hS d_CT_append_99
                  · have hkp : 0 < k := by
                      rcases Nat.eq_zero_or_pos k with h | h
                      · subst h; exact absurd hc nb_dnz
                      · exact h
                    rw [nb_dn1 hkp] at hl
                    have hlt := ty_b_lt word (k - 1)
                    refine lv_aload_n (pc := 67) C0.1 C0.2.1 d_CT_append_67 rfl (lv_at hl 0 rfl) ?_
                    refine mg_get (pc := 68) C0 in_CT hK hP (4) f4 rfl 2 (by decide) fl_CT_17 rfl d_CT_append_68 ?_
                    refine lv_aload_n (pc := 71) C0.1 C0.2.1 d_CT_append_71 rfl (lv_at hl 0 rfl) ?_
                    refine mg_get (pc := 72) C0 in_CT hK hP (4) f4 rfl 3 (by decide) fl_CT_21 rfl d_CT_append_72 ?_
                    refine lv_iload_n (pc := 75) C0.1 C0.2.1 d_CT_append_75 rfl (lv_at hl 1 rfl) ?_
                    refine lv_iload_n (pc := 76) C0.1 C0.2.1 d_CT_append_76 rfl (lv_at hl 3 rfl) ?_
                    refine mg_si (pc := 77) (As := [.int (word), .int (nI (k - 1))]) (rest := [.int (nI (len + (m0 - k))), .ref (ad 6)]) C0 (c_CT_lowByte l D ca ad (by omega) ws) lk_CT_24 (by decide) hK hP hD hS hA rfl hl.1 rfl (Nat.le_of_ble_eq_true rfl) d_CT_append_77 (fun rv ws1 H locs hpost hP hD hS => ?_)
                    obtain ⟨hr1, hw⟩ := hpost
                    rw [hw] at hP hD
                    refine mg_top (show rv = nI (ty_b word (k - 1)) from hr1) ?_
                    refine lv_i2c (pc := 80) (v := nI (ty_b word (k - 1))) C0.1 C0.2.1 d_CT_append_80 (nb_c16 hlt) ?_
                    refine mg_cst (pc := 81) C0 hK hP hD hS (6) 3 f6 rfl (j := len + (m0 - k)) (by omega) (by omega) d_CT_append_81 (fun ws H locs hfr f6 hP hD hS => ?_)
                    have f4 := (hfr (4) (by omega)).trans f4
                    have hfm : ∀ j, j ≠ 4 ∧ j ≠ 6 → ws[j]? = ws0[j]? := fun j hj => (hfr j (by omega)).trans (hfm j hj)
                    refine lv_aload_n (pc := 82) C0.1 C0.2.1 d_CT_append_82 rfl (lv_at hl 0 rfl) ?_
                    refine lv_dup (pc := 83) C0.1 C0.2.1 d_CT_append_83 rfl ?_
                    refine mg_get (pc := 84) C0 in_CT hK hP (4) f4 rfl 3 (by decide) fl_CT_21 rfl d_CT_append_84 ?_
                    refine lv_iconst (pc := 87) (v := nI (1)) C0.1 C0.2.1 d_CT_append_87 (by decide +kernel) ?_
                    refine mn_add (pc := 88) C0 d_CT_append_88 ?_
                    refine mg_top (show nI ((len + (m0 - k)) + 1) = nI (len + (m0 - (k - 1))) from congrArg nI (by omega)) ?_
                    refine mg_put (pc := 89) C0 in_CT t_CT_ok n_CT hK hP hD hS (4) f4 rfl 3 (by decide) fl_CT_21 rfl (ty := .int) (by decide +kernel) rfl rfl (Nat.le_of_ble_eq_true rfl) (fs' := [.ref (ad 5), .int (nI (n)), .ref (ad 6), .int (nI (len + (m0 - (k - 1)))), .int (op), .int (fi), .int (la), .int (se)]) rfl d_CT_append_89 (fun ws H locs hfr f4 hP hD hS => ?_)
                    have f6 := (hfr (6) (by omega)).trans f6
                    have hfm : ∀ j, j ≠ 4 ∧ j ≠ 6 → ws[j]? = ws0[j]? := fun j hj => (hfr j (by omega)).trans (hfm j hj)
                    refine lv_iinc (pc := 92) (k := 3) (v := nI (k - 1) - 1) (lv' := [(3, .int (nI (k - 1) - 1)), (0, .ref (ad 4)), (1, .int (word)), (2, .int (nI (m0)))]) C0.1 C0.2.1 d_CT_append_92 hl rfl (nb_dm _) (by decide) rfl (fun ls hl => ?_)
                    refine lv_goto (pc := 95) (tgt := 63) C0.1 C0.2.1 d_CT_append_95 (by decide) ?_
                    exact ih_loop2 _ (by omega) (k - 1) (upd T (len + (m0 - k)) (vp_nar .char (nI (ty_b word (k - 1))))) _ _ _ _ rfl (by omega) (fun j hj => by
                      by_cases e : j = len + (m0 - k)
                      · subst e
                        rw [pk_us, nb_cn hlt]
                        unfold ty_tx
                        rw [if_neg (by omega), show m0 - 1 - (len + (m0 - k) - len) = k - 1 by omega]
                      · rw [pk_un e]; exact hT1 j (by omega)) hfm f4 f6 (lv_sub hl [1, 2, 3, 0] rfl) hP hD hS
              exact loop2 _ m0 T _ _ _ _ rfl (by omega) (fun j hj => by
                rw [Nat.sub_self, Nat.add_zero] at hj
                unfold ty_tx
                rw [if_pos hj]; exact hT j hj) hfm (by rw [Nat.sub_self]; exact f4) f6 (lv_sub hl [1, 2, 3, 0] rfl) hP hD hS
            · have hal := hc
              have hlt := ty_b_lt word a
              refine lv_iload_n (pc := 30) C0.1 C0.2.1 d_CT_append_30 rfl (lv_at hl 1 rfl) ?_
              refine lv_iload_n (pc := 31) C0.1 C0.2.1 d_CT_append_31 rfl (lv_at hl 3 rfl) ?_
              refine mg_si (pc := 32) (As := [.int (word), .int (nI (a))]) (rest := []) C0 (c_CT_lowByte l D ca ad (by omega) ws) lk_CT_24 (by decide) hK hP hD hS hA rfl hl.1 rfl (Nat.le_of_ble_eq_true rfl) d_CT_append_32 (fun rv ws1 H locs hpost hP hD hS => ?_)
              obtain ⟨hr1, hw⟩ := hpost
              rw [hw] at hP hD
              refine mg_top (show rv = nI (ty_b word a) from hr1) ?_
              refine lv_istore (pc := 35) (lv' := [(4, .int (nI (ty_b word a))), (0, .ref (ad 4)), (1, .int (word)), (2, .int (nI (m0))), (3, .int (nI (a)))]) C0.1 C0.2.1 d_CT_append_35 hl (by decide) rfl (fun ls hl => ?_)
              refine lv_iload (pc := 37) C0.1 C0.2.1 d_CT_append_37 (lv_at hl 0 rfl) ?_
              refine lv_bipush (pc := 39) (v := nI (32)) C0.1 C0.2.1 d_CT_append_39 (by decide +kernel) ?_
              refine mb_lt (pc := 41) (tgt := 51) C0 (by omega) (by omega) d_CT_append_41 (by decide) (fun hc => ?_) (fun hc => ?_)
              · refine lv_iconst (pc := 51) (v := nI (0)) C0.1 C0.2.1 d_CT_append_51 (by decide +kernel) ?_
                exact hret _ _ _ _ 52 _ (rfl) (Or.inl ⟨by
                    cases h9 : ty_ok len m0 word with
                    | false => rfl
                    | true =>
                      have h8 := ty_ok2 h9
                      exact absurd (h8.2 a hal).1 (by omega), rfl, hws⟩) hP hD hS d_CT_append_52
              · have h32 := hc
                refine lv_iload (pc := 44) C0.1 C0.2.1 d_CT_append_44 (lv_at hl 0 rfl) ?_
                refine lv_bipush (pc := 46) (v := nI (126)) C0.1 C0.2.1 d_CT_append_46 (by decide +kernel) ?_
                refine mb_le (pc := 48) (tgt := 53) C0 (by omega) (by omega) d_CT_append_48 (by decide) (fun hc => ?_) (fun hc => ?_)
                · refine lv_iinc (pc := 53) (k := 4) (v := nI (a + 1)) (lv' := [(3, .int (nI (a + 1))), (4, .int (nI (ty_b word a))), (0, .ref (ad 4)), (1, .int (word)), (2, .int (nI (m0)))]) C0.1 C0.2.1 d_CT_append_53 hl rfl (nb_p1 _) (by decide) rfl (fun ls hl => ?_)
                  refine lv_goto (pc := 56) (tgt := 25) C0.1 C0.2.1 d_CT_append_56 (by decide) ?_
                  exact ih_loop1 _ (by omega) (a + 1) _ _ _ _ rfl (by omega) (fun i hi => by
                    by_cases e : i = a
                    · subst e; exact ⟨h32, hc⟩
                    · exact hby i (by omega)) hws hfm f4 f6 (lv_sub hl [2, 3, 4, 0] rfl) hP hD hS
                · refine lv_iconst (pc := 51) (v := nI (0)) C0.1 C0.2.1 d_CT_append_51 (by decide +kernel) ?_
                  exact hret _ _ _ _ 52 _ (rfl) (Or.inl ⟨by
                      cases h9 : ty_ok len m0 word with
                      | false => rfl
                      | true =>
                        have h8 := ty_ok2 h9
                        exact absurd (h8.2 a hal).2 (by omega), rfl, hws⟩) hP hD hS d_CT_append_52
        exact loop1 _ 0 _ _ _ _ rfl (by omega) (fun i hi => absurd hi (by omega)) rfl hfm f4 f6 (lv_sub hl [1, 2, 3, 0] rfl) hP hD hS
      · refine lv_iconst (pc := 21) (v := nI (0)) C0.1 C0.2.1 d_CT_append_21 (by decide +kernel) ?_
        exact hret _ _ _ _ 22 _ (rfl) (Or.inl ⟨by
            cases h9 : ty_ok len m0 word with
            | false => rfl
            | true =>
              have h8 := ty_ok2 h9
              exact absurd h8.1 (by omega), rfl, rfl⟩) hP hD hS d_CT_append_22
