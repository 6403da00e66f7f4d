/-! The reference: how its groups grow -/
set_option maxHeartbeats 4000000 in
set_option maxRecDepth 100000 in
theorem c_MO_put (l : Launch) (D : va_G) (ca : Nat → ClassId) (ad : Nat → Nat) {n : Nat} (h2 : 2 ≤ n) (h6 : n ≤ 6) {pcx gcx lenx : Int32} {st : Nat → Int64} {q r : Nat} (hq : q < 15) (hr : r < pm_fc n) (ws0 : va_W) (zx : ws0[52]? = some (ad 52, .inr (4, [.int (nI (n)), .int (nI (pm_fc n)), .ref (ad 53), .int (pcx), .ref (ad 54), .int (gcx), .ref (ad 55), .ref (ad 56), .ref (ad 57), .ref (ad 58), .ref (ad 59), .int (lenx)]))) (zs : ws0[55]? = some (ad 55, .inl (ca 2, 180, .inr (.inl (st))))) : mg_V l y_MO_put b_MO_put 3 1 D classes (tys_ ca) [.ref (ad 52), .int (nI (q)), .int (nI (r))] ws0 (fun w => (∀ j, j ≠ 55 → w[j]? = ws0[j]?) ∧ ∃ st1 : Nat → Int64, w[55]? = some (ad 55, .inl (ca 2, 180, .inr (.inl (st1)))) ∧ (∀ S, mo_wd st q S → mo_wd st1 q (ma_in S r)) ∧ ∀ h i, h ≠ q → i < 12 → st1 (12 * h + i) = st (12 * h + i)) := by
  refine mg_openV (own := R_MO) rfl (by decide) (Nat.le_of_ble_eq_true rfl) ?_
  intro p e s m args below meth c A Q ls C0 hK hA hP hD hS hl hret
  have hl : lv_has ls 3 [(0, .ref (ad 52)), (1, .int (nI (q))), (2, .int (nI (r)))] := hl
  have fx := zx
  have fs := zs
  have hfm : ∀ j, j ≠ 55 → ws0[j]? = ws0[j]? := fun _ _ => rfl
  have hN := pm_fc_le h6
  refine lv_aload_n (pc := 0) C0.1 C0.2.1 d_MO_put_0 rfl (lv_at hl 0 rfl) ?_
  refine mg_get (pc := 1) C0 in_MO hK hP (52) fx rfl 6 (by decide) fl_MO_20 rfl d_MO_put_1 ?_
  refine lv_bipush (pc := 4) (v := nI (12)) C0.1 C0.2.1 d_MO_put_4 (by decide +kernel) ?_
  refine lv_iload_n (pc := 6) C0.1 C0.2.1 d_MO_put_6 rfl (lv_at hl 1 rfl) ?_
  refine mn_mul (pc := 7) C0 d_MO_put_7 ?_
  refine lv_iload_n (pc := 8) C0.1 C0.2.1 d_MO_put_8 rfl (lv_at hl 2 rfl) ?_
  refine lv_bipush (pc := 9) (v := nI (64)) C0.1 C0.2.1 d_MO_put_9 (by decide +kernel) ?_
  refine mn_div (pc := 11) C0 (by omega) (by omega) (by omega) d_MO_put_11 ?_
  refine mn_add (pc := 12) C0 d_MO_put_12 ?_
  refine lv_aload_n (pc := 13) C0.1 C0.2.1 d_MO_put_13 rfl (lv_at hl 0 rfl) ?_
  refine mg_get (pc := 14) C0 in_MO hK hP (52) fx rfl 6 (by decide) fl_MO_20 rfl d_MO_put_14 ?_
  refine lv_bipush (pc := 17) (v := nI (12)) C0.1 C0.2.1 d_MO_put_17 (by decide +kernel) ?_
  refine lv_iload_n (pc := 19) C0.1 C0.2.1 d_MO_put_19 rfl (lv_at hl 1 rfl) ?_
  refine mn_mul (pc := 20) C0 d_MO_put_20 ?_
  refine lv_iload_n (pc := 21) C0.1 C0.2.1 d_MO_put_21 rfl (lv_at hl 2 rfl) ?_
  refine lv_bipush (pc := 22) (v := nI (64)) C0.1 C0.2.1 d_MO_put_22 (by decide +kernel) ?_
  refine mn_div (pc := 24) C0 (by omega) (by omega) (by omega) d_MO_put_24 ?_
  refine mn_add (pc := 25) C0 d_MO_put_25 ?_
  refine mg_lld (pc := 26) C0 hK hP (55) 2 fs rfl (j := (12 * q) + (r / 64)) (by omega) (by omega) d_MO_put_26 ?_
  refine lv_lconst (pc := 27) (v := 1) C0.1 C0.2.1 d_MO_put_27 (by decide +kernel) ?_
  refine lv_iload_n (pc := 28) C0.1 C0.2.1 d_MO_put_28 rfl (lv_at hl 2 rfl) ?_
  refine lv_bipush (pc := 29) (v := nI (64)) C0.1 C0.2.1 d_MO_put_29 (by decide +kernel) ?_
  refine mn_rem (pc := 31) C0 (by omega) (by omega) (by omega) d_MO_put_31 ?_
  refine lv_lshl (pc := 32) (v := 1 <<< ((nI (r % 64)).toInt64 &&& 63)) C0.1 C0.2.1 d_MO_put_32 rfl ?_
  refine lv_lor (pc := 33) C0.1 C0.2.1 d_MO_put_33 ?_
  refine mg_lst (pc := 34) C0 hK hP hD hS (55) 2 fs rfl (j := (12 * q) + (r / 64)) (by omega) (by omega) d_MO_put_34 (fun ws H locs hfr fs hP hD hS => ?_)
  have fx := (hfr (52) (by omega)).trans fx
  have hfm : ∀ j, j ≠ 55 → ws[j]? = ws0[j]? := fun j hj => (hfr j (by omega)).trans (hfm j hj)
  exact hret _ _ _ 35 _ (⟨hfm, _, fs, fun S hS x hx => by
      rw [mo_upd, bw_mark, hS x hx]; rfl, fun h i h1 h3 => pk_uLn (by omega)⟩) hP hD hS d_MO_put_35
set_option maxHeartbeats 4000000 in
set_option maxRecDepth 100000 in
theorem c_MO_trivial (l : Launch) (D : va_G) (ca : Nat → ClassId) (ad : Nat → Nat) {n : Nat} (h2 : 2 ≤ n) (h6 : n ≤ 6) {pcx gcx lenx : Int32} {st : Nat → Int64} {my : Nat → Int32} {q : Nat} (hq : q < 15) (ws0 : va_W) (zx : ws0[52]? = some (ad 52, .inr (4, [.int (nI (n)), .int (nI (pm_fc n)), .ref (ad 53), .int (pcx), .ref (ad 54), .int (gcx), .ref (ad 55), .ref (ad 56), .ref (ad 57), .ref (ad 58), .ref (ad 59), .int (lenx)]))) (zs : ws0[55]? = some (ad 55, .inl (ca 2, 180, .inr (.inl (st))))) (zy : ws0[56]? = some (ad 56, .inl (ca 1, 15, .inl (my)))) : mg_V l y_MO_trivial b_MO_trivial 3 2 D classes (tys_ ca) [.ref (ad 52), .int (nI (q))] ws0 (fun w => (∀ j, j ≠ 55 ∧ j ≠ 56 → w[j]? = ws0[j]?) ∧ ∃ st1 : Nat → Int64, w[55]? = some (ad 55, .inl (ca 2, 180, .inr (.inl (st1)))) ∧ w[56]? = some (ad 56, .inl (ca 1, 15, .inl (upd my q (nI 0)))) ∧ mo_wd st1 q su_one ∧ ∀ h i, h ≠ q → i < 12 → st1 (12 * h + i) = st (12 * h + i)) := by
  refine mg_openV (own := R_MO) rfl (by decide) (Nat.le_of_ble_eq_true rfl) ?_
  intro p e s m args below meth c A Q ls C0 hK hA hP hD hS hl hret
  have hl : lv_has ls 3 [(0, .ref (ad 52)), (1, .int (nI (q)))] := hl
  have fx := zx
  have fs := zs
  have fy := zy
  have hfm : ∀ j, j ≠ 55 ∧ j ≠ 56 → ws0[j]? = ws0[j]? := fun _ _ => rfl
  have hN0 := pm_fc_pos n
  refine lv_iconst (pc := 0) (v := nI (0)) C0.1 C0.2.1 d_MO_trivial_0 (by decide +kernel) ?_
  refine lv_istore_n (pc := 1) (lv' := [(2, .int (nI (0))), (0, .ref (ad 52)), (1, .int (nI (q)))]) C0.1 C0.2.1 d_MO_trivial_1 rfl hl (by decide) rfl (fun ls hl => ?_)
  have loop : ∀ (d : Nat) (x : Nat) (st1 : Nat → Int64) (ws : va_W) (H : Heap) (locs : List Loc) (ls : Array Slot), 12 - x = d → (x ≤ 12) → (∀ i, i < x → st1 (12 * q + i) = 0) → (∀ h i, h ≠ q → i < 12 → st1 (12 * h + i) = st (12 * h + i)) → (∀ j, j ≠ 55 ∧ j ≠ 56 → ws[j]? = ws0[j]?) → ws[55]? = some (ad 55, .inl (ca 2, 180, .inr (.inl (st1)))) → ws[56]? = some (ad 56, .inl (ca 1, 15, .inl (my))) → lv_has ls 3 [(0, .ref (ad 52)), (1, .int (nI (q))), (2, .int (nI (x)))] → va_P D classes ws H → va_D A ws → va_S A s.heap H locs → W p l e (mg_rm 2) s m args below meth c H locs 0 0 Q (F0 m 2 ls []) := by
    intro d
    induction d using Nat.strongRecOn with
    | _ d ih_loop =>
      intro x st1 ws H locs ls hd hx hz ho hfm fs fy hl hP hD hS
      have fx := (hfm (52) (by omega)).trans zx
      refine lv_iload_n (pc := 2) C0.1 C0.2.1 d_MO_trivial_2 rfl (lv_at hl 2 rfl) ?_
      refine lv_bipush (pc := 3) (v := nI (12)) C0.1 C0.2.1 d_MO_trivial_3 (by decide +kernel) ?_
      refine mb_ge (pc := 5) (tgt := 26) C0 (by omega) (by omega) d_MO_trivial_5 (by decide) (fun hc => ?_) (fun hc => ?_)
      · refine lv_aload_n (pc := 26) C0.1 C0.2.1 d_MO_trivial_26 rfl (lv_at hl 0 rfl) ?_
        refine lv_iload_n (pc := 27) C0.1 C0.2.1 d_MO_trivial_27 rfl (lv_at hl 1 rfl) ?_
        refine lv_iconst (pc := 28) (v := nI (0)) C0.1 C0.2.1 d_MO_trivial_28 (by decide +kernel) ?_
        refine mg_cv (pc := 29) (As := [.int (nI (q)), .int (nI (0))]) (rest := []) C0 (c_MO_put l D ca ad h2 h6 hq hN0 ws fx fs) lk_MO_53 (by decide) fx rfl hK hP hD hS hA rfl hl.1 rfl (Nat.le_of_ble_eq_true rfl) d_MO_trivial_29 (fun ws H locs hpost hP hD hS => ?_)
        obtain ⟨hfr, st2, fs, hp, ho2⟩ := hpost
        have fx := (hfr (52) (by omega)).trans fx
        have fy := (hfr (56) (by omega)).trans fy
        have hfm : ∀ j, j ≠ 55 ∧ j ≠ 56 → ws[j]? = ws0[j]? := fun j hj => (hfr j (by omega)).trans (hfm j hj)
        refine lv_aload_n (pc := 32) C0.1 C0.2.1 d_MO_trivial_32 rfl (lv_at hl 0 rfl) ?_
        refine mg_get (pc := 33) C0 in_MO hK hP (52) fx rfl 7 (by decide) fl_MO_24 rfl d_MO_trivial_33 ?_
        refine lv_iload_n (pc := 36) C0.1 C0.2.1 d_MO_trivial_36 rfl (lv_at hl 1 rfl) ?_
        refine lv_iconst (pc := 37) (v := nI (0)) C0.1 C0.2.1 d_MO_trivial_37 (by decide +kernel) ?_
        refine mg_ist (pc := 38) C0 hK hP hD hS (56) 1 fy rfl (j := q) (by omega) (by omega) d_MO_trivial_38 (fun ws H locs hfr fy hP hD hS => ?_)
        have fx := (hfr (52) (by omega)).trans fx
        have fs := (hfr (55) (by omega)).trans fs
        have hfm : ∀ j, j ≠ 55 ∧ j ≠ 56 → ws[j]? = ws0[j]? := fun j hj => (hfr j (by omega)).trans (hfm j hj)
        exact hret _ _ _ 39 _ (⟨hfm, st2, fs, fy, by
            have h9 := hp (fun _ => false) (fun r hr => by
              unfold bw_t
              dsimp only
              rw [hz (r / 64) (by omega)]
              exact BitVec.getLsbD_zero)
            rwa [mo_in0] at h9, fun h i h1 h3 => (ho2 h i h1 h3).trans (ho h i h1 h3)⟩) hP hD hS d_MO_trivial_39
      · refine lv_aload_n (pc := 8) C0.1 C0.2.1 d_MO_trivial_8 rfl (lv_at hl 0 rfl) ?_
        refine mg_get (pc := 9) C0 in_MO hK hP (52) fx rfl 6 (by decide) fl_MO_20 rfl d_MO_trivial_9 ?_
        refine lv_bipush (pc := 12) (v := nI (12)) C0.1 C0.2.1 d_MO_trivial_12 (by decide +kernel) ?_
        refine lv_iload_n (pc := 14) C0.1 C0.2.1 d_MO_trivial_14 rfl (lv_at hl 1 rfl) ?_
        refine mn_mul (pc := 15) C0 d_MO_trivial_15 ?_
        refine lv_iload_n (pc := 16) C0.1 C0.2.1 d_MO_trivial_16 rfl (lv_at hl 2 rfl) ?_
        refine mn_add (pc := 17) C0 d_MO_trivial_17 ?_
        refine lv_lconst (pc := 18) (v := 0) C0.1 C0.2.1 d_MO_trivial_18 (by decide +kernel) ?_
        refine mg_lst (pc := 19) C0 hK hP hD hS (55) 2 fs rfl (j := (12 * q) + x) (by omega) (by omega) d_MO_trivial_19 (fun ws H locs hfr fs hP hD hS => ?_)
        have fx := (hfr (52) (by omega)).trans fx
        have fy := (hfr (56) (by omega)).trans fy
        have hfm : ∀ j, j ≠ 55 ∧ j ≠ 56 → ws[j]? = ws0[j]? := fun j hj => (hfr j (by omega)).trans (hfm j hj)
        refine lv_iinc (pc := 20) (k := 2) (v := nI (x + 1)) (lv' := [(2, .int (nI (x + 1))), (0, .ref (ad 52)), (1, .int (nI (q)))]) C0.1 C0.2.1 d_MO_trivial_20 hl rfl (nb_p1 _) (by decide) rfl (fun ls hl => ?_)
        refine lv_goto (pc := 23) (tgt := 2) C0.1 C0.2.1 d_MO_trivial_23 (by decide) ?_
        exact ih_loop _ (by omega) (x + 1) (vp_updL st1 ((12 * q) + x) (0)) _ _ _ _ rfl (by omega) (fun i hi => by
          by_cases e : i = x
          · subst e; exact pk_uLs
          · rw [pk_uLn (by omega)]; exact hz i (by omega)) (fun h i h1 h3 => by rw [pk_uLn (by omega)]; exact ho h i h1 h3) hfm fs fy (lv_sub hl [1, 2, 0] rfl) hP hD hS
  exact loop _ 0 st _ _ _ _ rfl (by omega) (fun i hi => absurd hi (by omega)) (fun _ _ _ _ => rfl) hfm fs fy (lv_sub hl [1, 2, 0] rfl) hP hD hS
set_option maxHeartbeats 4000000 in
set_option maxRecDepth 100000 in
theorem c_MO_copy (l : Launch) (D : va_G) (ca : Nat → ClassId) (ad : Nat → Nat) {n : Nat} (h2 : 2 ≤ n) (h6 : n ≤ 6) {pcx gcx lenx : Int32} {st : Nat → Int64} {my ge : Nat → Int32} {a b k : Nat} (hab : a ≠ b) (ha : a < 15) (hb : b < 15) (hmy : my a = nI k) (hk : k ≤ 20) (ws0 : va_W) (zx : ws0[52]? = some (ad 52, .inr (4, [.int (nI (n)), .int (nI (pm_fc n)), .ref (ad 53), .int (pcx), .ref (ad 54), .int (gcx), .ref (ad 55), .ref (ad 56), .ref (ad 57), .ref (ad 58), .ref (ad 59), .int (lenx)]))) (zs : ws0[55]? = some (ad 55, .inl (ca 2, 180, .inr (.inl (st))))) (zy : ws0[56]? = some (ad 56, .inl (ca 1, 15, .inl (my)))) (zg : ws0[57]? = some (ad 57, .inl (ca 1, 300, .inl (ge)))) : mg_V l y_MO_copy b_MO_copy 4 1 D classes (tys_ ca) [.ref (ad 52), .int (nI (a)), .int (nI (b))] ws0 (fun w => (∀ j, j ≠ 55 ∧ j ≠ 56 ∧ j ≠ 57 → w[j]? = ws0[j]?) ∧ ∃ (st1 : Nat → Int64) (ge1 : Nat → Int32), w[55]? = some (ad 55, .inl (ca 2, 180, .inr (.inl (st1)))) ∧ w[56]? = some (ad 56, .inl (ca 1, 15, .inl (upd my b (nI k)))) ∧ w[57]? = some (ad 57, .inl (ca 1, 300, .inl (ge1))) ∧ (∀ S, mo_wd st a S → mo_wd st1 b S) ∧ (∀ h i, h ≠ b → i < 12 → st1 (12 * h + i) = st (12 * h + i)) ∧ (∀ j, j < k → ge1 (20 * b + j) = ge (20 * a + j)) ∧ ∀ h j, h ≠ b → j < 20 → ge1 (20 * h + j) = ge (20 * h + j)) := by
  refine mg_openV (own := R_MO) rfl (by decide) (Nat.le_of_ble_eq_true rfl) ?_
  intro p e s m args below meth c A Q ls C0 hK hA hP hD hS hl hret
  have hl : lv_has ls 4 [(0, .ref (ad 52)), (1, .int (nI (a))), (2, .int (nI (b)))] := hl
  have fx := zx
  have fs := zs
  have fy := zy
  have fg := zg
  have hfm : ∀ j, j ≠ 55 ∧ j ≠ 56 ∧ j ≠ 57 → ws0[j]? = ws0[j]? := fun _ _ => rfl
  refine lv_iconst (pc := 0) (v := nI (0)) C0.1 C0.2.1 d_MO_copy_0 (by decide +kernel) ?_
  refine lv_istore_n (pc := 1) (lv' := [(3, .int (nI (0))), (0, .ref (ad 52)), (1, .int (nI (a))), (2, .int (nI (b)))]) C0.1 C0.2.1 d_MO_copy_1 rfl hl (by decide) rfl (fun ls hl => ?_)
  have loop1 : ∀ (d : Nat) (x : Nat) (st1 : Nat → Int64) (ws : va_W) (H : Heap) (locs : List Loc) (ls : Array Slot), 12 - x = d → (x ≤ 12) → (∀ i, i < x → st1 (12 * b + i) = st (12 * a + i)) → (∀ h i, h ≠ b → i < 12 → st1 (12 * h + i) = st (12 * h + i)) → (∀ j, j ≠ 55 ∧ j ≠ 56 ∧ j ≠ 57 → ws[j]? = ws0[j]?) → ws[55]? = some (ad 55, .inl (ca 2, 180, .inr (.inl (st1)))) → ws[56]? = some (ad 56, .inl (ca 1, 15, .inl (my))) → ws[57]? = some (ad 57, .inl (ca 1, 300, .inl (ge))) → lv_has ls 4 [(0, .ref (ad 52)), (1, .int (nI (a))), (2, .int (nI (b))), (3, .int (nI (x)))] → va_P D classes ws H → va_D A ws → va_S A s.heap H locs → W p l e (mg_rm 1) s m args below meth c H locs 0 0 Q (F0 m 2 ls []) := by
    intro d
    induction d using Nat.strongRecOn with
    | _ d ih_loop1 =>
      intro x st1 ws H locs ls hd hx hz ho hfm fs fy fg hl hP hD hS
      have fx := (hfm (52) (by omega)).trans zx
      refine lv_iload_n (pc := 2) C0.1 C0.2.1 d_MO_copy_2 rfl (lv_at hl 3 rfl) ?_
      refine lv_bipush (pc := 3) (v := nI (12)) C0.1 C0.2.1 d_MO_copy_3 (by decide +kernel) ?_
      refine mb_ge (pc := 5) (tgt := 36) C0 (by omega) (by omega) d_MO_copy_5 (by decide) (fun hc => ?_) (fun hc => ?_)
      · refine lv_aload_n (pc := 36) C0.1 C0.2.1 d_MO_copy_36 rfl (lv_at hl 0 rfl) ?_
        refine mg_get (pc := 37) C0 in_MO hK hP (52) fx rfl 7 (by decide) fl_MO_24 rfl d_MO_copy_37 ?_
        refine lv_iload_n (pc := 40) C0.1 C0.2.1 d_MO_copy_40 rfl (lv_at hl 2 rfl) ?_
        refine lv_aload_n (pc := 41) C0.1 C0.2.1 d_MO_copy_41 rfl (lv_at hl 0 rfl) ?_
        refine mg_get (pc := 42) C0 in_MO hK hP (52) fx rfl 7 (by decide) fl_MO_24 rfl d_MO_copy_42 ?_
        refine lv_iload_n (pc := 45) C0.1 C0.2.1 d_MO_copy_45 rfl (lv_at hl 1 rfl) ?_
        refine mg_ild (pc := 46) C0 hK hP (56) 1 fy rfl (j := a) (by omega) (by omega) d_MO_copy_46 ?_
        refine mg_top (show my (a) = nI (k) from hmy) ?_
        refine mg_ist (pc := 47) C0 hK hP hD hS (56) 1 fy rfl (j := b) (by omega) (by omega) d_MO_copy_47 (fun ws H locs hfr fy hP hD hS => ?_)
        have fx := (hfr (52) (by omega)).trans fx
        have fs := (hfr (55) (by omega)).trans fs
        have fg := (hfr (57) (by omega)).trans fg
        have hfm : ∀ j, j ≠ 55 ∧ j ≠ 56 ∧ j ≠ 57 → ws[j]? = ws0[j]? := fun j hj => (hfr j (by omega)).trans (hfm j hj)
        refine lv_iconst (pc := 48) (v := nI (0)) C0.1 C0.2.1 d_MO_copy_48 (by decide +kernel) ?_
        refine lv_istore_n (pc := 49) (lv' := [(3, .int (nI (0))), (0, .ref (ad 52)), (1, .int (nI (a))), (2, .int (nI (b)))]) C0.1 C0.2.1 d_MO_copy_49 rfl hl (by decide) rfl (fun ls hl => ?_)
        have loop2 : ∀ (d : Nat) (y : Nat) (ge1 : Nat → Int32) (ws : va_W) (H : Heap) (locs : List Loc) (ls : Array Slot), k - y = d → (y ≤ k) → (∀ j, j < y → ge1 (20 * b + j) = ge (20 * a + j)) → (∀ h j, h ≠ b → j < 20 → ge1 (20 * h + j) = ge (20 * h + j)) → (∀ j, j ≠ 55 ∧ j ≠ 56 ∧ j ≠ 57 → ws[j]? = ws0[j]?) → ws[55]? = some (ad 55, .inl (ca 2, 180, .inr (.inl (st1)))) → ws[56]? = some (ad 56, .inl (ca 1, 15, .inl (upd my b (nI k)))) → ws[57]? = some (ad 57, .inl (ca 1, 300, .inl (ge1))) → lv_has ls 4 [(0, .ref (ad 52)), (1, .int (nI (a))), (2, .int (nI (b))), (3, .int (nI (y)))] → va_P D classes ws H → va_D A ws → va_S A s.heap H locs → W p l e (mg_rm 1) s m args below meth c H locs 0 0 Q (F0 m 50 ls []) := by
          intro d
          induction d using Nat.strongRecOn with
          | _ d ih_loop2 =>
            intro y ge1 ws H locs ls hd hy hg1 hg2 hfm fs fy fg hl hP hD hS
            have fx := (hfm (52) (by omega)).trans zx
            refine lv_iload_n (pc := 50) C0.1 C0.2.1 d_MO_copy_50 rfl (lv_at hl 3 rfl) ?_
            refine lv_aload_n (pc := 51) C0.1 C0.2.1 d_MO_copy_51 rfl (lv_at hl 0 rfl) ?_
            refine mg_get (pc := 52) C0 in_MO hK hP (52) fx rfl 7 (by decide) fl_MO_24 rfl d_MO_copy_52 ?_
            refine lv_iload_n (pc := 55) C0.1 C0.2.1 d_MO_copy_55 rfl (lv_at hl 1 rfl) ?_
            refine mg_ild (pc := 56) C0 hK hP (56) 1 fy rfl (j := a) (by omega) (by omega) d_MO_copy_56 ?_
            refine mg_top (show (upd my b (nI k)) (a) = nI (k) from (pk_un hab).trans hmy) ?_
            refine mb_ge (pc := 57) (tgt := 88) C0 (by omega) (by omega) d_MO_copy_57 (by decide) (fun hc => ?_) (fun hc => ?_)
            · exact hret _ _ _ 88 _ (⟨hfm, st1, ge1, fs, fy, fg, fun S hS r hr => by
                  rw [← hS r hr]
                  unfold bw_t
                  dsimp only
                  rw [hz (r / 64) (by omega)], ho, fun j hj => hg1 j (by omega), hg2⟩) hP hD hS d_MO_copy_88
            · refine lv_aload_n (pc := 60) C0.1 C0.2.1 d_MO_copy_60 rfl (lv_at hl 0 rfl) ?_
              refine mg_get (pc := 61) C0 in_MO hK hP (52) fx rfl 8 (by decide) fl_MO_27 rfl d_MO_copy_61 ?_
              refine lv_bipush (pc := 64) (v := nI (20)) C0.1 C0.2.1 d_MO_copy_64 (by decide +kernel) ?_
              refine lv_iload_n (pc := 66) C0.1 C0.2.1 d_MO_copy_66 rfl (lv_at hl 2 rfl) ?_
              refine mn_mul (pc := 67) C0 d_MO_copy_67 ?_
              refine lv_iload_n (pc := 68) C0.1 C0.2.1 d_MO_copy_68 rfl (lv_at hl 3 rfl) ?_
              refine mn_add (pc := 69) C0 d_MO_copy_69 ?_
              refine lv_aload_n (pc := 70) C0.1 C0.2.1 d_MO_copy_70 rfl (lv_at hl 0 rfl) ?_
              refine mg_get (pc := 71) C0 in_MO hK hP (52) fx rfl 8 (by decide) fl_MO_27 rfl d_MO_copy_71 ?_
              refine lv_bipush (pc := 74) (v := nI (20)) C0.1 C0.2.1 d_MO_copy_74 (by decide +kernel) ?_
              refine lv_iload_n (pc := 76) C0.1 C0.2.1 d_MO_copy_76 rfl (lv_at hl 1 rfl) ?_
              refine mn_mul (pc := 77) C0 d_MO_copy_77 ?_
              refine lv_iload_n (pc := 78) C0.1 C0.2.1 d_MO_copy_78 rfl (lv_at hl 3 rfl) ?_
              refine mn_add (pc := 79) C0 d_MO_copy_79 ?_
              refine mg_ild (pc := 80) C0 hK hP (57) 1 fg rfl (j := (20 * a) + y) (by omega) (by omega) d_MO_copy_80 ?_
              refine mg_ist (pc := 81) C0 hK hP hD hS (57) 1 fg rfl (j := (20 * b) + y) (by omega) (by omega) d_MO_copy_81 (fun ws H locs hfr fg hP hD hS => ?_)
              have fx := (hfr (52) (by omega)).trans fx
              have fs := (hfr (55) (by omega)).trans fs
              have fy := (hfr (56) (by omega)).trans fy
              have hfm : ∀ j, j ≠ 55 ∧ j ≠ 56 ∧ j ≠ 57 → ws[j]? = ws0[j]? := fun j hj => (hfr j (by omega)).trans (hfm j hj)
              refine lv_iinc (pc := 82) (k := 3) (v := nI (y + 1)) (lv' := [(3, .int (nI (y + 1))), (0, .ref (ad 52)), (1, .int (nI (a))), (2, .int (nI (b)))]) C0.1 C0.2.1 d_MO_copy_82 hl rfl (nb_p1 _) (by decide) rfl (fun ls hl => ?_)
              refine lv_goto (pc := 85) (tgt := 50) C0.1 C0.2.1 d_MO_copy_85 (by decide) ?_
              exact ih_loop2 _ (by omega) (y + 1) (upd ge1 ((20 * b) + y) (ge1 ((20 * a) + y))) _ _ _ _ rfl (by omega) (fun j hj => by
                by_cases e : j = y
                · subst e; rw [pk_us]; exact hg2 a j hab (by omega)
                · rw [pk_un (by omega)]; exact hg1 j (by omega)) (fun h j h1 h3 => by rw [pk_un (by omega)]; exact hg2 h j h1 h3) hfm fs fy fg (lv_sub hl [1, 2, 3, 0] rfl) hP hD hS
        exact loop2 _ 0 ge _ _ _ _ rfl (by omega) (fun j hj => absurd hj (by omega)) (fun _ _ _ _ => rfl) hfm fs fy fg (lv_sub hl [1, 2, 3, 0] rfl) hP hD hS
      · refine lv_aload_n (pc := 8) C0.1 C0.2.1 d_MO_copy_8 rfl (lv_at hl 0 rfl) ?_
        refine mg_get (pc := 9) C0 in_MO hK hP (52) fx rfl 6 (by decide) fl_MO_20 rfl d_MO_copy_9 ?_
        refine lv_bipush (pc := 12) (v := nI (12)) C0.1 C0.2.1 d_MO_copy_12 (by decide +kernel) ?_
        refine lv_iload_n (pc := 14) C0.1 C0.2.1 d_MO_copy_14 rfl (lv_at hl 2 rfl) ?_
        refine mn_mul (pc := 15) C0 d_MO_copy_15 ?_
        refine lv_iload_n (pc := 16) C0.1 C0.2.1 d_MO_copy_16 rfl (lv_at hl 3 rfl) ?_
        refine mn_add (pc := 17) C0 d_MO_copy_17 ?_
        refine lv_aload_n (pc := 18) C0.1 C0.2.1 d_MO_copy_18 rfl (lv_at hl 0 rfl) ?_
        refine mg_get (pc := 19) C0 in_MO hK hP (52) fx rfl 6 (by decide) fl_MO_20 rfl d_MO_copy_19 ?_
        refine lv_bipush (pc := 22) (v := nI (12)) C0.1 C0.2.1 d_MO_copy_22 (by decide +kernel) ?_
        refine lv_iload_n (pc := 24) C0.1 C0.2.1 d_MO_copy_24 rfl (lv_at hl 1 rfl) ?_
        refine mn_mul (pc := 25) C0 d_MO_copy_25 ?_
        refine lv_iload_n (pc := 26) C0.1 C0.2.1 d_MO_copy_26 rfl (lv_at hl 3 rfl) ?_
        refine mn_add (pc := 27) C0 d_MO_copy_27 ?_
        refine mg_lld (pc := 28) C0 hK hP (55) 2 fs rfl (j := (12 * a) + x) (by omega) (by omega) d_MO_copy_28 ?_
        refine mg_lst (pc := 29) C0 hK hP hD hS (55) 2 fs rfl (j := (12 * b) + x) (by omega) (by omega) d_MO_copy_29 (fun ws H locs hfr fs hP hD hS => ?_)
        have fx := (hfr (52) (by omega)).trans fx
        have fy := (hfr (56) (by omega)).trans fy
        have fg := (hfr (57) (by omega)).trans fg
        have hfm : ∀ j, j ≠ 55 ∧ j ≠ 56 ∧ j ≠ 57 → ws[j]? = ws0[j]? := fun j hj => (hfr j (by omega)).trans (hfm j hj)
        refine lv_iinc (pc := 30) (k := 3) (v := nI (x + 1)) (lv' := [(3, .int (nI (x + 1))), (0, .ref (ad 52)), (1, .int (nI (a))), (2, .int (nI (b)))]) C0.1 C0.2.1 d_MO_copy_30 hl rfl (nb_p1 _) (by decide) rfl (fun ls hl => ?_)
        refine lv_goto (pc := 33) (tgt := 2) C0.1 C0.2.1 d_MO_copy_33 (by decide) ?_
        exact ih_loop1 _ (by omega) (x + 1) (vp_updL st1 ((12 * b) + x) (st1 ((12 * a) + x))) _ _ _ _ rfl (by omega) (fun i hi => by
          by_cases e : i = x
          · subst e; rw [pk_uLs]; exact ho a i hab (by omega)
          · rw [pk_uLn (by omega)]; exact hz i (by omega)) (fun h i h1 h3 => by rw [pk_uLn (by omega)]; exact ho h i h1 h3) hfm fs fy fg (lv_sub hl [1, 2, 3, 0] rfl) hP hD hS
  exact loop1 _ 0 st _ _ _ _ rfl (by omega) (fun i hi => absurd hi (by omega)) (fun _ _ _ _ => rfl) hfm fs fy fg (lv_sub hl [1, 2, 3, 0] rfl) hP hD hS
set_option maxHeartbeats 4000000 in
set_option maxRecDepth 100000 in
theorem c_MO_putCoset (l : Launch) (D : va_G) (ca : Nat → ClassId) (ad : Nat → Nat) {n : Nat} (h2 : 2 ≤ n) (h6 : n ≤ 6) {pcx gcx lenx : Int32} {im : Nat → Int32} (him : ∀ r, r < pm_fc n → im r = nI (qk_p (pm_im n r) n)) {st : Nat → Int64} {q t0 : Nat} {H0 X : Nat → Bool} (hq : q < 14) (ht : t0 < pm_fc n) (hH : mo_wd st 14 H0) (hX : mo_wd st q X) (hHN : ∀ x, H0 x = true → x < pm_fc n) (ws0 : va_W) (zx : ws0[52]? = some (ad 52, .inr (4, [.int (nI (n)), .int (nI (pm_fc n)), .ref (ad 53), .int (pcx), .ref (ad 54), .int (gcx), .ref (ad 55), .ref (ad 56), .ref (ad 57), .ref (ad 58), .ref (ad 59), .int (lenx)]))) (zi : ws0[53]? = some (ad 53, .inl (ca 1, 720, .inl (im)))) (zs : ws0[55]? = some (ad 55, .inl (ca 2, 180, .inr (.inl (st))))) : mg_V l y_MO_putCoset b_MO_putCoset 4 3 D classes (tys_ ca) [.ref (ad 52), .int (nI (q)), .int (nI (t0))] ws0 (fun w => (∀ j, j ≠ 55 → w[j]? = ws0[j]?) ∧ ∃ (st1 : Nat → Int64) (X1 : Nat → Bool), w[55]? = some (ad 55, .inl (ca 2, 180, .inr (.inl (st1)))) ∧ mo_wd st1 q X1 ∧ (∀ x, X1 x = true ↔ X x = true ∨ ∃ h, H0 h = true ∧ x = pm_mu n h t0) ∧ ∀ h i, h ≠ q → i < 12 → st1 (12 * h + i) = st (12 * h + i)) := by
  refine mg_openV (own := R_MO) rfl (by decide) (Nat.le_of_ble_eq_true rfl) ?_
  intro p e s m args below meth c A Q ls C0 hK hA hP hD hS hl hret
  have hl : lv_has ls 4 [(0, .ref (ad 52)), (1, .int (nI (q))), (2, .int (nI (t0)))] := hl
  have fx := zx
  have fi := zi
  have fs := zs
  have hfm : ∀ j, j ≠ 55 → ws0[j]? = ws0[j]? := fun _ _ => rfl
  have hN := pm_fc_le h6
  have g0 := pm_gp h2 h6
  refine lv_iconst (pc := 0) (v := nI (0)) C0.1 C0.2.1 d_MO_putCoset_0 (by decide +kernel) ?_
  refine lv_istore_n (pc := 1) (lv' := [(3, .int (nI (0))), (0, .ref (ad 52)), (1, .int (nI (q))), (2, .int (nI (t0)))]) C0.1 C0.2.1 d_MO_putCoset_1 rfl hl (by decide) rfl (fun ls hl => ?_)
  have loop : ∀ (d : Nat) (r : Nat) (st1 : Nat → Int64) (Y : Nat → Bool) (ws : va_W) (H : Heap) (locs : List Loc) (ls : Array Slot), pm_fc n - r = d → (r ≤ pm_fc n) → (mo_wd st1 q Y) → (∀ x, Y x = true ↔ X x = true ∨ ∃ h, h < r ∧ H0 h = true ∧ x = pm_mu n h t0) → (∀ h i, h ≠ q → i < 12 → st1 (12 * h + i) = st (12 * h + i)) → (∀ j, j ≠ 55 → ws[j]? = ws0[j]?) → ws[55]? = some (ad 55, .inl (ca 2, 180, .inr (.inl (st1)))) → lv_has ls 4 [(0, .ref (ad 52)), (1, .int (nI (q))), (2, .int (nI (t0))), (3, .int (nI (r)))] → va_P D classes ws H → va_D A ws → va_S A s.heap H locs → W p l e (mg_rm 3) s m args below meth c H locs 0 0 Q (F0 m 2 ls []) := by
    intro d
    induction d using Nat.strongRecOn with
    | _ d ih_loop =>
      intro r st1 Y ws H locs ls hd hr hY hYX ho hfm fs hl hP hD hS
      have fx := (hfm (52) (by omega)).trans zx
      have fi := (hfm (53) (by omega)).trans zi
      refine lv_iload_n (pc := 2) C0.1 C0.2.1 d_MO_putCoset_2 rfl (lv_at hl 3 rfl) ?_
      refine lv_aload_n (pc := 3) C0.1 C0.2.1 d_MO_putCoset_3 rfl (lv_at hl 0 rfl) ?_
      refine mg_get (pc := 4) C0 in_MO hK hP (52) fx rfl 1 (by decide) fl_MO_39 rfl d_MO_putCoset_4 ?_
      refine mb_ge (pc := 7) (tgt := 37) C0 (by omega) (by omega) d_MO_putCoset_7 (by decide) (fun hc => ?_) (fun hc => ?_)
      · exact hret _ _ _ 37 _ (⟨hfm, st1, Y, fs, hY, fun x => (hYX x).trans ⟨fun h => h.elim Or.inl (fun ⟨h, _, h3⟩ => Or.inr ⟨h, h3⟩), fun h => h.elim Or.inl (fun ⟨h, h3, h4⟩ => Or.inr ⟨h, by have := hHN h h3; omega, h3, h4⟩)⟩, ho⟩) hP hD hS d_MO_putCoset_37
      · have hrN := hc
        have hH1 : mo_wd st1 14 H0 := mo_wd_fr hH (fun i hi => ho 14 i (by omega) hi)
        refine lv_aload_n (pc := 10) C0.1 C0.2.1 d_MO_putCoset_10 rfl (lv_at hl 0 rfl) ?_
        refine lv_bipush (pc := 11) (v := nI (14)) C0.1 C0.2.1 d_MO_putCoset_11 (by decide +kernel) ?_
        refine lv_iload_n (pc := 13) C0.1 C0.2.1 d_MO_putCoset_13 rfl (lv_at hl 3 rfl) ?_
        refine mg_ci (pc := 14) (As := [.int (nI (14)), .int (nI (r))]) (rest := []) C0 (c_MO_has l D ca ad h2 h6 (by decide) hrN hH1 ws fx fs) lk_MO_57 (by decide) fx rfl hK hP hD hS hA rfl hl.1 rfl (Nat.le_of_ble_eq_true rfl) d_MO_putCoset_14 (fun rv ws1 H locs hpost hP hD hS => ?_)
        obtain ⟨hr1, hw⟩ := hpost
        rw [hw] at hP hD
        cases hs : H0 r with
        | true =>
            rw [hs, if_pos rfl] at hr1
            refine mg_top (show rv = nI (1) from hr1) ?_
            refine mz_eq (pc := 17) (tgt := 31) C0 (by decide) d_MO_putCoset_17 (by decide) (fun h9 => absurd h9 (by decide)) (fun _ => ?_)
            refine lv_aload_n (pc := 20) C0.1 C0.2.1 d_MO_putCoset_20 rfl (lv_at hl 0 rfl) ?_
            refine lv_iload_n (pc := 21) C0.1 C0.2.1 d_MO_putCoset_21 rfl (lv_at hl 1 rfl) ?_
            refine lv_aload_n (pc := 22) C0.1 C0.2.1 d_MO_putCoset_22 rfl (lv_at hl 0 rfl) ?_
            refine lv_iload_n (pc := 23) C0.1 C0.2.1 d_MO_putCoset_23 rfl (lv_at hl 3 rfl) ?_
            refine lv_iload_n (pc := 24) C0.1 C0.2.1 d_MO_putCoset_24 rfl (lv_at hl 2 rfl) ?_
            refine mg_ci (pc := 25) (As := [.int (nI (r)), .int (nI (t0))]) (rest := [.int (nI (q)), .ref (ad 52)]) C0 (c_MO_times l D ca ad h2 h6 him hrN ht ws fx fi) lk_MO_64 (by decide) fx rfl hK hP hD hS hA rfl hl.1 rfl (Nat.le_of_ble_eq_true rfl) d_MO_putCoset_25 (fun rv ws1 H locs hpost hP hD hS => ?_)
            obtain ⟨hr1, hw⟩ := hpost
            rw [hw] at hP hD
            refine mg_top (show rv = nI (pm_mu n r t0) from hr1) ?_
            refine mg_cv (pc := 28) (As := [.int (nI (q)), .int (nI (pm_mu n r t0))]) (rest := []) C0 (c_MO_put l D ca ad h2 h6 (by omega) (gp_m g0 hrN ht) ws fx fs) lk_MO_53 (by decide) fx rfl hK hP hD hS hA rfl hl.1 rfl (Nat.le_of_ble_eq_true rfl) d_MO_putCoset_28 (fun ws H locs hpost hP hD hS => ?_)
            obtain ⟨hfr, st2, fs, hp, ho2⟩ := hpost
            have fx := (hfr (52) (by omega)).trans fx
            have fi := (hfr (53) (by omega)).trans fi
            have hfm : ∀ j, j ≠ 55 → ws[j]? = ws0[j]? := fun j hj => (hfr j (by omega)).trans (hfm j hj)
            refine lv_iinc (pc := 31) (k := 3) (v := nI (r + 1)) (lv' := [(3, .int (nI (r + 1))), (0, .ref (ad 52)), (1, .int (nI (q))), (2, .int (nI (t0)))]) C0.1 C0.2.1 d_MO_putCoset_31 hl rfl (nb_p1 _) (by decide) rfl (fun ls hl => ?_)
            refine lv_goto (pc := 34) (tgt := 2) C0.1 C0.2.1 d_MO_putCoset_34 (by decide) ?_
            exact ih_loop _ (by omega) (r + 1) st2 (ma_in Y (pm_mu n r t0)) _ _ _ _ rfl (by omega) (hp Y hY) (fun x => by
              rw [ma_in_iff, hYX x]
              constructor
              · rintro ((h | ⟨h, h1, h3⟩) | h)
                · exact Or.inl h
                · exact Or.inr ⟨h, by omega, h3⟩
                · exact Or.inr ⟨r, by omega, hs, h⟩
              · rintro (h | ⟨h, h1, h3, h4⟩)
                · exact Or.inl (Or.inl h)
                · by_cases e : h = r
                  · subst e; exact Or.inr h4
                  · exact Or.inl (Or.inr ⟨h, by omega, h3, h4⟩)) (fun h i h1 h3 => (ho2 h i h1 h3).trans (ho h i h1 h3)) hfm fs (lv_sub hl [1, 2, 3, 0] rfl) hP hD hS
        | false =>
            rw [hs, if_neg (by decide)] at hr1
            refine mg_top (show rv = nI (0) from hr1) ?_
            refine mz_eq (pc := 17) (tgt := 31) C0 (by decide) d_MO_putCoset_17 (by decide) (fun _ => ?_) (fun h9 => absurd rfl h9)
            refine lv_iinc (pc := 31) (k := 3) (v := nI (r + 1)) (lv' := [(3, .int (nI (r + 1))), (0, .ref (ad 52)), (1, .int (nI (q))), (2, .int (nI (t0)))]) C0.1 C0.2.1 d_MO_putCoset_31 hl rfl (nb_p1 _) (by decide) rfl (fun ls hl => ?_)
            refine lv_goto (pc := 34) (tgt := 2) C0.1 C0.2.1 d_MO_putCoset_34 (by decide) ?_
            exact ih_loop _ (by omega) (r + 1) st1 Y _ _ _ _ rfl (by omega) hY (fun x => (hYX x).trans ⟨fun h => h.elim Or.inl (fun ⟨h, h1, h3⟩ => Or.inr ⟨h, by omega, h3⟩), fun h => h.elim Or.inl (fun ⟨h, h1, h3, h4⟩ => Or.inr ⟨h, by
              have e : h ≠ r := fun e => by subst e; rw [hs] at h3; exact absurd h3 (by decide)
              omega, h3, h4⟩)⟩) ho hfm fs (lv_sub hl [1, 2, 3, 0] rfl) hP hD hS
  exact loop _ 0 st X _ _ _ _ rfl (by omega) hX (fun x => ⟨Or.inl, fun h => h.elim id (fun ⟨h, h1, _⟩ => absurd h1 (by omega))⟩) (fun _ _ _ _ => rfl) hfm fs (lv_sub hl [1, 2, 3, 0] rfl) hP hD hS
set_option maxHeartbeats 4000000 in
set_option maxRecDepth 100000 in
theorem c_MO_enlarge (l : Launch) (D : va_G) (ca : Nat → ClassId) (ad : Nat → Nat) {n : Nat} (h2 : 2 ≤ n) (h6 : n ≤ 6) {pcx gcx lenx : Int32} {im : Nat → Int32} (him : ∀ r, r < pm_fc n → im r = nI (qk_p (pm_im n r) n)) {st : Nat → Int64} {my ge fn : Nat → Int32} {q a k : Nat} {S : Nat → Bool} {G : Nat → Nat} (hq : q < 14) (ha : a < pm_fc n) (hg : mo_g n st my ge q S G k) (ws0 : va_W) (zx : ws0[52]? = some (ad 52, .inr (4, [.int (nI (n)), .int (nI (pm_fc n)), .ref (ad 53), .int (pcx), .ref (ad 54), .int (gcx), .ref (ad 55), .ref (ad 56), .ref (ad 57), .ref (ad 58), .ref (ad 59), .int (lenx)]))) (zi : ws0[53]? = some (ad 53, .inl (ca 1, 720, .inl (im)))) (zs : ws0[55]? = some (ad 55, .inl (ca 2, 180, .inr (.inl (st))))) (zy : ws0[56]? = some (ad 56, .inl (ca 1, 15, .inl (my)))) (zg : ws0[57]? = some (ad 57, .inl (ca 1, 300, .inl (ge)))) (znn : ws0[58]? = some (ad 58, .inl (ca 1, 720, .inl (fn)))) : mg_V l y_MO_enlarge b_MO_enlarge 7 4 D classes (tys_ ca) [.ref (ad 52), .int (nI (q)), .int (nI (a))] ws0 (fun w => (∀ j, j ≠ 55 ∧ j ≠ 56 ∧ j ≠ 57 ∧ j ≠ 58 → w[j]? = ws0[j]?) ∧ ∃ (st1 : Nat → Int64) (my1 ge1 fn1 : Nat → Int32), w[55]? = some (ad 55, .inl (ca 2, 180, .inr (.inl (st1)))) ∧ w[56]? = some (ad 56, .inl (ca 1, 15, .inl (my1))) ∧ w[57]? = some (ad 57, .inl (ca 1, 300, .inl (ge1))) ∧ w[58]? = some (ad 58, .inl (ca 1, 720, .inl (fn1))) ∧ mo_sm st my ge st1 my1 ge1 q ∧ ∃ (S1 : Nat → Bool) (G1 : Nat → Nat) (k1 : Nat), mo_g n st1 my1 ge1 q S1 G1 k1 ∧ gp_ext (pm_fc n) (pm_mu n) (pm_iv n) (fun x => S x = true) a (fun x => S1 x = true)) := by
  have hN := pm_fc_le h6
  have g0 := pm_gp h2 h6
  have hN0 := pm_fc_pos n
  have hk9 := mo_k9 h6 hg
  have hg0 := hg
  obtain ⟨hwd, hmy, hge, hgen, h2k⟩ := hg
  refine mg_openV (own := R_MO) rfl (by decide) (Nat.le_of_ble_eq_true rfl) ?_
  intro p e s m args below meth c A Q ls C0 hK hA hP hD hS hl hret
  have hl : lv_has ls 7 [(0, .ref (ad 52)), (1, .int (nI (q))), (2, .int (nI (a)))] := hl
  have fx := zx
  have fi := zi
  have fs := zs
  have fy := zy
  have fg := zg
  have fnn := znn
  have hfm : ∀ j, j ≠ 55 ∧ j ≠ 56 ∧ j ≠ 57 ∧ j ≠ 58 → ws0[j]? = ws0[j]? := fun _ _ => rfl
  refine lv_aload_n (pc := 0) C0.1 C0.2.1 d_MO_enlarge_0 rfl (lv_at hl 0 rfl) ?_
  refine lv_iload_n (pc := 1) C0.1 C0.2.1 d_MO_enlarge_1 rfl (lv_at hl 1 rfl) ?_
  refine lv_iload_n (pc := 2) C0.1 C0.2.1 d_MO_enlarge_2 rfl (lv_at hl 2 rfl) ?_
  refine mg_ci (pc := 3) (As := [.int (nI (q)), .int (nI (a))]) (rest := []) C0 (c_MO_has l D ca ad h2 h6 (by omega) ha hwd ws0 fx fs) lk_MO_57 (by decide) fx rfl hK hP hD hS hA rfl hl.1 rfl (Nat.le_of_ble_eq_true rfl) d_MO_enlarge_3 (fun rv ws1 H locs hpost hP hD hS => ?_)
  obtain ⟨hr1, hw⟩ := hpost
  rw [hw] at hP hD
  cases hs : S a with
  | true =>
      rw [hs, if_pos rfl] at hr1
      refine mg_top (show rv = nI (1) from hr1) ?_
      refine mz_eq (pc := 6) (tgt := 10) C0 (by decide) d_MO_enlarge_6 (by decide) (fun h9 => absurd h9 (by decide)) (fun _ => ?_)
      exact hret _ _ _ 9 _ (⟨hfm, st, my, ge, fn, fs, fy, fg, fnn, mo_sm0 _ _ _ _, S, G, k, hg0, gp_ext_id hgen.1 hs⟩) hP hD hS d_MO_enlarge_9
  | false =>
      rw [hs, if_neg (by decide)] at hr1
      refine mg_top (show rv = nI (0) from hr1) ?_
      refine mz_eq (pc := 6) (tgt := 10) C0 (by decide) d_MO_enlarge_6 (by decide) (fun _ => ?_) (fun h9 => absurd rfl h9)
      refine lv_aload_n (pc := 10) C0.1 C0.2.1 d_MO_enlarge_10 rfl (lv_at hl 0 rfl) ?_
      refine lv_iload_n (pc := 11) C0.1 C0.2.1 d_MO_enlarge_11 rfl (lv_at hl 1 rfl) ?_
      refine lv_bipush (pc := 12) (v := nI (14)) C0.1 C0.2.1 d_MO_enlarge_12 (by decide +kernel) ?_
      refine mg_cv (pc := 14) (As := [.int (nI (q)), .int (nI (14))]) (rest := []) C0 (c_MO_copy l D ca ad h2 h6 (show q ≠ 14 by omega) (by omega) (by decide) hmy (by omega) ws0 fx fs fy fg) lk_MO_61 (by decide) fx rfl hK hP hD hS hA rfl hl.1 rfl (Nat.le_of_ble_eq_true rfl) d_MO_enlarge_14 (fun ws H locs hpost hP hD hS => ?_)
      obtain ⟨hfr, st2, ge2, fs, fy, fg, hc14, hoc, -, hgc⟩ := hpost
      have fx := (hfr (52) (by omega)).trans fx
      have fi := (hfr (53) (by omega)).trans fi
      have fnn := (hfr (58) (by omega)).trans fnn
      have hfm : ∀ j, j ≠ 55 ∧ j ≠ 56 ∧ j ≠ 57 ∧ j ≠ 58 → ws[j]? = ws0[j]? := fun j hj => (hfr j (by omega)).trans (hfm j hj)
      refine lv_aload_n (pc := 17) C0.1 C0.2.1 d_MO_enlarge_17 rfl (lv_at hl 0 rfl) ?_
      refine mg_get (pc := 18) C0 in_MO hK hP (52) fx rfl 8 (by decide) fl_MO_27 rfl d_MO_enlarge_18 ?_
      refine lv_bipush (pc := 21) (v := nI (20)) C0.1 C0.2.1 d_MO_enlarge_21 (by decide +kernel) ?_
      refine lv_iload_n (pc := 23) C0.1 C0.2.1 d_MO_enlarge_23 rfl (lv_at hl 1 rfl) ?_
      refine mn_mul (pc := 24) C0 d_MO_enlarge_24 ?_
      refine lv_aload_n (pc := 25) C0.1 C0.2.1 d_MO_enlarge_25 rfl (lv_at hl 0 rfl) ?_
      refine mg_get (pc := 26) C0 in_MO hK hP (52) fx rfl 7 (by decide) fl_MO_24 rfl d_MO_enlarge_26 ?_
      refine lv_iload_n (pc := 29) C0.1 C0.2.1 d_MO_enlarge_29 rfl (lv_at hl 1 rfl) ?_
      refine mg_ild (pc := 30) C0 hK hP (56) 1 fy rfl (j := q) (by omega) (by omega) d_MO_enlarge_30 ?_
      refine mg_top (show (upd my 14 (nI k)) (q) = nI (k) from (pk_un (by omega)).trans hmy) ?_
      refine mn_add (pc := 31) C0 d_MO_enlarge_31 ?_
      refine lv_iload_n (pc := 32) C0.1 C0.2.1 d_MO_enlarge_32 rfl (lv_at hl 2 rfl) ?_
      refine mg_ist (pc := 33) C0 hK hP hD hS (57) 1 fg rfl (j := (20 * q) + k) (by omega) (by omega) d_MO_enlarge_33 (fun ws H locs hfr fg hP hD hS => ?_)
      have fx := (hfr (52) (by omega)).trans fx
      have fi := (hfr (53) (by omega)).trans fi
      have fnn := (hfr (58) (by omega)).trans fnn
      have fs := (hfr (55) (by omega)).trans fs
      have fy := (hfr (56) (by omega)).trans fy
      have hfm : ∀ j, j ≠ 55 ∧ j ≠ 56 ∧ j ≠ 57 ∧ j ≠ 58 → ws[j]? = ws0[j]? := fun j hj => (hfr j (by omega)).trans (hfm j hj)
      refine lv_aload_n (pc := 34) C0.1 C0.2.1 d_MO_enlarge_34 rfl (lv_at hl 0 rfl) ?_
      refine mg_get (pc := 35) C0 in_MO hK hP (52) fx rfl 7 (by decide) fl_MO_24 rfl d_MO_enlarge_35 ?_
      refine lv_iload_n (pc := 38) C0.1 C0.2.1 d_MO_enlarge_38 rfl (lv_at hl 1 rfl) ?_
      refine lv_aload_n (pc := 39) C0.1 C0.2.1 d_MO_enlarge_39 rfl (lv_at hl 0 rfl) ?_
      refine mg_get (pc := 40) C0 in_MO hK hP (52) fx rfl 7 (by decide) fl_MO_24 rfl d_MO_enlarge_40 ?_
      refine lv_iload_n (pc := 43) C0.1 C0.2.1 d_MO_enlarge_43 rfl (lv_at hl 1 rfl) ?_
      refine mg_ild (pc := 44) C0 hK hP (56) 1 fy rfl (j := q) (by omega) (by omega) d_MO_enlarge_44 ?_
      refine mg_top (show (upd my 14 (nI k)) (q) = nI (k) from (pk_un (by omega)).trans hmy) ?_
      refine lv_iconst (pc := 45) (v := nI (1)) C0.1 C0.2.1 d_MO_enlarge_45 (by decide +kernel) ?_
      refine mn_add (pc := 46) C0 d_MO_enlarge_46 ?_
      refine mg_ist (pc := 47) C0 hK hP hD hS (56) 1 fy rfl (j := q) (by omega) (by omega) d_MO_enlarge_47 (fun ws H locs hfr fy hP hD hS => ?_)
      have fx := (hfr (52) (by omega)).trans fx
      have fi := (hfr (53) (by omega)).trans fi
      have fnn := (hfr (58) (by omega)).trans fnn
      have fs := (hfr (55) (by omega)).trans fs
      have fg := (hfr (57) (by omega)).trans fg
      have hfm : ∀ j, j ≠ 55 ∧ j ≠ 56 ∧ j ≠ 57 ∧ j ≠ 58 → ws[j]? = ws0[j]? := fun j hj => (hfr j (by omega)).trans (hfm j hj)
      refine lv_iconst (pc := 48) (v := nI (1)) C0.1 C0.2.1 d_MO_enlarge_48 (by decide +kernel) ?_
      refine lv_istore_n (pc := 49) (lv' := [(3, .int (nI (1))), (0, .ref (ad 52)), (1, .int (nI (q))), (2, .int (nI (a)))]) C0.1 C0.2.1 d_MO_enlarge_49 rfl hl (by decide) rfl (fun ls hl => ?_)
      refine lv_aload_n (pc := 50) C0.1 C0.2.1 d_MO_enlarge_50 rfl (lv_at hl 1 rfl) ?_
      refine mg_get (pc := 51) C0 in_MO hK hP (52) fx rfl 9 (by decide) fl_MO_30 rfl d_MO_enlarge_51 ?_
      refine lv_iconst (pc := 54) (v := nI (0)) C0.1 C0.2.1 d_MO_enlarge_54 (by decide +kernel) ?_
      refine lv_iconst (pc := 55) (v := nI (0)) C0.1 C0.2.1 d_MO_enlarge_55 (by decide +kernel) ?_
      refine mg_ist (pc := 56) C0 hK hP hD hS (58) 1 fnn rfl (j := 0) (by omega) (by omega) d_MO_enlarge_56 (fun ws H locs hfr fnn hP hD hS => ?_)
      have fx := (hfr (52) (by omega)).trans fx
      have fi := (hfr (53) (by omega)).trans fi
      have fs := (hfr (55) (by omega)).trans fs
      have fy := (hfr (56) (by omega)).trans fy
      have fg := (hfr (57) (by omega)).trans fg
      have hfm : ∀ j, j ≠ 55 ∧ j ≠ 56 ∧ j ≠ 57 ∧ j ≠ 58 → ws[j]? = ws0[j]? := fun j hj => (hfr j (by omega)).trans (hfm j hj)
      refine lv_iconst (pc := 57) (v := nI (0)) C0.1 C0.2.1 d_MO_enlarge_57 (by decide +kernel) ?_
      refine lv_istore (pc := 58) (lv' := [(4, .int (nI (0))), (3, .int (nI (1))), (0, .ref (ad 52)), (1, .int (nI (q))), (2, .int (nI (a)))]) C0.1 C0.2.1 d_MO_enlarge_58 hl (by decide) rfl (fun ls hl => ?_)
      have hH : mo_wd st2 14 S := hc14 S hwd
      have hX0 : mo_wd st2 q S := mo_wd_fr hwd (fun i hi => hoc q i (by omega) hi)
      have hmy3 : (upd (upd my 14 (nI k)) (q) (nI (k + 1))) q = nI (k + 1) := pk_us
      have hge3 : ∀ j, j < k + 1 → (upd ge2 ((20 * q) + k) (nI (a))) (20 * q + j) = nI (su_up G k a j) := fun j hj => by
        by_cases e : j = k
        · subst e; rw [pk_us, su_us]
        · rw [pk_un (by omega), su_un _ _ e, hgc q j (by omega) (by omega)]; exact hge j (by omega)
      have hsm3 : mo_sm st my ge st2 (upd (upd my 14 (nI k)) (q) (nI (k + 1))) (upd ge2 ((20 * q) + k) (nI (a))) q := fun h h1 h3 h4 => ⟨fun i hi => hoc h i h3 hi, by rw [pk_un (by omega), pk_un (by omega)], fun j hj => by rw [pk_un (by omega)]; exact hgc h j h3 hj⟩
      have hgl : ∀ s, s < k + 1 → su_up G k a s < pm_fc n := fun s hs1 => by
        by_cases e : s = k
        · rw [e, su_us]; exact ha
        · rw [su_un _ _ e]; exact gp_gen_lt hgen (by omega)
      generalize upd (upd my 14 (nI k)) (q) (nI (k + 1)) = my3 at fy hmy3 hsm3
      generalize upd ge2 ((20 * q) + k) (nI (a)) = ge3 at fg hge3 hsm3
      have outer : ∀ (d : Nat) (c0 : Nat) (cz : Nat) (st2 : Nat → Int64) (fn1 : Nat → Int32) (X : Nat → Bool) (F : Nat → Nat) (ws : va_W) (H : Heap) (locs : List Loc) (ls : Array Slot), pm_fc n - c0 = d → (mo_wd st2 q X) → (mo_wd st2 14 S) → (mo_sm st my ge st2 my3 ge3 q) → (∀ j, j < cz → fn1 j = nI (F j)) → (cm_I (pm_fc n) (pm_mu n) S X F cz) → (F 0 = 0) → (∀ x, S x = true → X x = true) → (∀ T, gp_sg (pm_fc n) (pm_mu n) (pm_iv n) T → (∀ x, S x = true → T x) → T a → ∀ x, X x = true → T x) → (1 ≤ cz) → (∀ j s, j < c0 → s < k + 1 → X (pm_mu n (F j) (su_up G k a s)) = true) → (c0 ≤ cz) → (∀ j, j ≠ 55 ∧ j ≠ 56 ∧ j ≠ 57 ∧ j ≠ 58 → ws[j]? = ws0[j]?) → ws[55]? = some (ad 55, .inl (ca 2, 180, .inr (.inl (st2)))) → ws[56]? = some (ad 56, .inl (ca 1, 15, .inl (my3))) → ws[57]? = some (ad 57, .inl (ca 1, 300, .inl (ge3))) → ws[58]? = some (ad 58, .inl (ca 1, 720, .inl (fn1))) → lv_has ls 7 [(0, .ref (ad 52)), (1, .int (nI (q))), (2, .int (nI (a))), (3, .int (nI (cz))), (4, .int (nI (c0)))] → va_P D classes ws H → va_D A ws → va_S A s.heap H locs → W p l e (mg_rm 4) s m args below meth c H locs 0 0 Q (F0 m 60 ls []) := by
        intro d
        induction d using Nat.strongRecOn with
        | _ d ih_outer =>
          intro c0 cz st2 fn1 X F ws H locs ls hd hwX hwH hsm hF hI hF0 hXS hmin hcz1 hpr hc0 hfm fs fy fg fnn hl hP hD hS
          have fx := (hfm (52) (by omega)).trans zx
          have fi := (hfm (53) (by omega)).trans zi
          have hczN := hI.2.2.2
          have hXN := ma_cn_le X (pm_fc n)
          refine lv_iload (pc := 60) C0.1 C0.2.1 d_MO_enlarge_60 (lv_at hl 4 rfl) ?_
          refine lv_iload_n (pc := 62) C0.1 C0.2.1 d_MO_enlarge_62 rfl (lv_at hl 3 rfl) ?_
          refine mb_ge (pc := 63) (tgt := 146) C0 (by omega) (by omega) d_MO_enlarge_63 (by decide) (fun hc => ?_) (fun hc => ?_)
          · have hcl := cm_closed g0 hgen.1 hI hgl (fun j s hj hs1 => hpr j s (by omega) hs1)
            have hXa : X a = true := by
              have h9 := hpr 0 k (by omega) (by omega)
              rwa [hF0, su_us, gp_ol g0 ha] at h9
            obtain ⟨hgen1, hext⟩ := gp_grow g0 (S := fun x => X x = true) hgen ha (gs' := su_up G k a) (fun j hj => su_un _ _ (by omega)) (su_us _ _ _) (hXS _ hgen.1.1) hI.1 hcl hmin
            have hhalf := gp_half g0 hgen.1 hgen1.1 hXS hXa hs
            exact hret _ _ _ 146 _ (⟨hfm, st2, my3, ge3, fn1, fs, fy, fg, fnn, hsm, X, su_up G k a, k + 1, ⟨hwX, hmy3, hge3, hgen1, by rw [Nat.pow_succ]; omega⟩, hext⟩) hP hD hS d_MO_enlarge_146
          · have hcc := hc
            refine lv_iconst (pc := 66) (v := nI (0)) C0.1 C0.2.1 d_MO_enlarge_66 (by decide +kernel) ?_
            refine lv_istore (pc := 67) (lv' := [(5, .int (nI (0))), (0, .ref (ad 52)), (1, .int (nI (q))), (2, .int (nI (a))), (3, .int (nI (cz))), (4, .int (nI (c0)))]) C0.1 C0.2.1 d_MO_enlarge_67 hl (by decide) rfl (fun ls hl => ?_)
            have inner : ∀ (d : Nat) (u : Nat) (cz : Nat) (st2 : Nat → Int64) (fn1 : Nat → Int32) (X : Nat → Bool) (F : Nat → Nat) (ws : va_W) (H : Heap) (locs : List Loc) (ls : Array Slot), k + 1 - u = d → (mo_wd st2 q X) → (mo_wd st2 14 S) → (mo_sm st my ge st2 my3 ge3 q) → (∀ j, j < cz → fn1 j = nI (F j)) → (cm_I (pm_fc n) (pm_mu n) S X F cz) → (F 0 = 0) → (∀ x, S x = true → X x = true) → (∀ T, gp_sg (pm_fc n) (pm_mu n) (pm_iv n) T → (∀ x, S x = true → T x) → T a → ∀ x, X x = true → T x) → (1 ≤ cz) → (∀ j s, j < c0 → s < k + 1 → X (pm_mu n (F j) (su_up G k a s)) = true) → (∀ s, s < u → X (pm_mu n (F c0) (su_up G k a s)) = true) → (c0 < cz) → (u ≤ k + 1) → (∀ j, j ≠ 55 ∧ j ≠ 56 ∧ j ≠ 57 ∧ j ≠ 58 → ws[j]? = ws0[j]?) → ws[55]? = some (ad 55, .inl (ca 2, 180, .inr (.inl (st2)))) → ws[56]? = some (ad 56, .inl (ca 1, 15, .inl (my3))) → ws[57]? = some (ad 57, .inl (ca 1, 300, .inl (ge3))) → ws[58]? = some (ad 58, .inl (ca 1, 720, .inl (fn1))) → lv_has ls 7 [(0, .ref (ad 52)), (1, .int (nI (q))), (2, .int (nI (a))), (3, .int (nI (cz))), (4, .int (nI (c0))), (5, .int (nI (u)))] → va_P D classes ws H → va_D A ws → va_S A s.heap H locs → W p l e (mg_rm 4) s m args below meth c H locs 0 0 Q (F0 m 69 ls []) := by
              intro d
              induction d using Nat.strongRecOn with
              | _ d ih_inner =>
                intro u cz st2 fn1 X F ws H locs ls hd hwX hwH hsm hF hI hF0 hXS hmin hcz1 hpr hin hcc hu hfm fs fy fg fnn hl hP hD hS
                have fx := (hfm (52) (by omega)).trans zx
                have fi := (hfm (53) (by omega)).trans zi
                have hczN := hI.2.2.2
                have hXN := ma_cn_le X (pm_fc n)
                refine lv_iload (pc := 69) C0.1 C0.2.1 d_MO_enlarge_69 (lv_at hl 5 rfl) ?_
                refine lv_aload_n (pc := 71) C0.1 C0.2.1 d_MO_enlarge_71 rfl (lv_at hl 0 rfl) ?_
                refine mg_get (pc := 72) C0 in_MO hK hP (52) fx rfl 7 (by decide) fl_MO_24 rfl d_MO_enlarge_72 ?_
                refine lv_iload_n (pc := 75) C0.1 C0.2.1 d_MO_enlarge_75 rfl (lv_at hl 1 rfl) ?_
                refine mg_ild (pc := 76) C0 hK hP (56) 1 fy rfl (j := q) (by omega) (by omega) d_MO_enlarge_76 ?_
                refine mg_top (show my3 (q) = nI (k + 1) from hmy3) ?_
                refine mb_ge (pc := 77) (tgt := 140) C0 (by omega) (by omega) d_MO_enlarge_77 (by decide) (fun hc => ?_) (fun hc => ?_)
                · refine lv_iinc (pc := 140) (k := 4) (v := nI (c0 + 1)) (lv' := [(4, .int (nI (c0 + 1))), (0, .ref (ad 52)), (1, .int (nI (q))), (2, .int (nI (a))), (3, .int (nI (cz))), (5, .int (nI (u)))]) C0.1 C0.2.1 d_MO_enlarge_140 hl rfl (nb_p1 _) (by decide) rfl (fun ls hl => ?_)
                  refine lv_goto (pc := 143) (tgt := 60) C0.1 C0.2.1 d_MO_enlarge_143 (by decide) ?_
                  exact ih_outer _ (by omega) (c0 + 1) cz _ _ X F _ _ _ _ rfl hwX hwH hsm hF hI hF0 hXS hmin hcz1 (fun j s hj hs1 => by
                    by_cases e : j = c0
                    · subst e; exact hin s (by omega)
                    · exact hpr j s (by omega) hs1) (by omega) hfm fs fy fg fnn (lv_sub hl [1, 2, 3, 4, 0] rfl) hP hD hS
                · have hu1 := hc
                  have hl1 := hI.1 _ (hI.2.1 c0 hcc)
                  have hnx := gp_m g0 hl1 (hgl u hu1)
                  refine lv_aload_n (pc := 80) C0.1 C0.2.1 d_MO_enlarge_80 rfl (lv_at hl 0 rfl) ?_
                  refine lv_aload_n (pc := 81) C0.1 C0.2.1 d_MO_enlarge_81 rfl (lv_at hl 0 rfl) ?_
                  refine mg_get (pc := 82) C0 in_MO hK hP (52) fx rfl 9 (by decide) fl_MO_30 rfl d_MO_enlarge_82 ?_
                  refine lv_iload (pc := 85) C0.1 C0.2.1 d_MO_enlarge_85 (lv_at hl 4 rfl) ?_
                  refine mg_ild (pc := 87) C0 hK hP (58) 1 fnn rfl (j := c0) (by omega) (by omega) d_MO_enlarge_87 ?_
                  refine mg_top (show fn1 (c0) = nI (F c0) from hF c0 hcc) ?_
                  refine lv_aload_n (pc := 88) C0.1 C0.2.1 d_MO_enlarge_88 rfl (lv_at hl 0 rfl) ?_
                  refine mg_get (pc := 89) C0 in_MO hK hP (52) fx rfl 8 (by decide) fl_MO_27 rfl d_MO_enlarge_89 ?_
                  refine lv_bipush (pc := 92) (v := nI (20)) C0.1 C0.2.1 d_MO_enlarge_92 (by decide +kernel) ?_
                  refine lv_iload_n (pc := 94) C0.1 C0.2.1 d_MO_enlarge_94 rfl (lv_at hl 1 rfl) ?_
                  refine mn_mul (pc := 95) C0 d_MO_enlarge_95 ?_
                  refine lv_iload (pc := 96) C0.1 C0.2.1 d_MO_enlarge_96 (lv_at hl 5 rfl) ?_
                  refine mn_add (pc := 98) C0 d_MO_enlarge_98 ?_
                  refine mg_ild (pc := 99) C0 hK hP (57) 1 fg rfl (j := (20 * q) + u) (by omega) (by omega) d_MO_enlarge_99 ?_
                  refine mg_top (show ge3 ((20 * q) + u) = nI (su_up G k a u) from hge3 u hu1) ?_
                  refine mg_ci (pc := 100) (As := [.int (nI (F c0)), .int (nI (su_up G k a u))]) (rest := []) C0 (c_MO_times l D ca ad h2 h6 him hl1 (hgl u hu1) ws fx fi) lk_MO_64 (by decide) fx rfl hK hP hD hS hA rfl hl.1 rfl (Nat.le_of_ble_eq_true rfl) d_MO_enlarge_100 (fun rv ws1 H locs hpost hP hD hS => ?_)
                  obtain ⟨hr1, hw⟩ := hpost
                  rw [hw] at hP hD
                  refine mg_top (show rv = nI (pm_mu n (F c0) (su_up G k a u)) from hr1) ?_
                  refine lv_istore (pc := 103) (lv' := [(6, .int (nI (pm_mu n (F c0) (su_up G k a u)))), (0, .ref (ad 52)), (1, .int (nI (q))), (2, .int (nI (a))), (3, .int (nI (cz))), (4, .int (nI (c0))), (5, .int (nI (u)))]) C0.1 C0.2.1 d_MO_enlarge_103 hl (by decide) rfl (fun ls hl => ?_)
                  refine lv_aload_n (pc := 105) C0.1 C0.2.1 d_MO_enlarge_105 rfl (lv_at hl 1 rfl) ?_
                  refine lv_iload_n (pc := 106) C0.1 C0.2.1 d_MO_enlarge_106 rfl (lv_at hl 2 rfl) ?_
                  refine lv_iload (pc := 107) C0.1 C0.2.1 d_MO_enlarge_107 (lv_at hl 0 rfl) ?_
                  refine mg_ci (pc := 109) (As := [.int (nI (q)), .int (nI (pm_mu n (F c0) (su_up G k a u)))]) (rest := []) C0 (c_MO_has l D ca ad h2 h6 (by omega) hnx hwX ws fx fs) lk_MO_57 (by decide) fx rfl hK hP hD hS hA rfl hl.1 rfl (Nat.le_of_ble_eq_true rfl) d_MO_enlarge_109 (fun rv ws1 H locs hpost hP hD hS => ?_)
                  obtain ⟨hr1, hw⟩ := hpost
                  rw [hw] at hP hD
                  cases hx : X (pm_mu n (F c0) (su_up G k a u)) with
                  | true =>
                      rw [hx, if_pos rfl] at hr1
                      refine mg_top (show rv = nI (1) from hr1) ?_
                      refine mz_ne (pc := 112) (tgt := 134) C0 (by decide) d_MO_enlarge_112 (by decide) (fun _ => ?_) (fun h9 => absurd h9 (by decide))
                      refine lv_iinc (pc := 134) (k := 6) (v := nI (u + 1)) (lv' := [(5, .int (nI (u + 1))), (6, .int (nI (pm_mu n (F c0) (su_up G k a u)))), (0, .ref (ad 52)), (1, .int (nI (q))), (2, .int (nI (a))), (3, .int (nI (cz))), (4, .int (nI (c0)))]) C0.1 C0.2.1 d_MO_enlarge_134 hl rfl (nb_p1 _) (by decide) rfl (fun ls hl => ?_)
                      refine lv_goto (pc := 137) (tgt := 69) C0.1 C0.2.1 d_MO_enlarge_137 (by decide) ?_
                      exact ih_inner _ (by omega) (u + 1) cz _ _ X F _ _ _ _ rfl hwX hwH hsm hF hI hF0 hXS hmin hcz1 hpr (fun s hs1 => by
                        by_cases e : s = u
                        · subst e; exact hx
                        · exact hin s (by omega)) hcc (by omega) hfm fs fy fg fnn (lv_sub hl [2, 3, 4, 5, 6, 0] rfl) hP hD hS
                  | false =>
                      rw [hx, if_neg (by decide)] at hr1
                      refine mg_top (show rv = nI (0) from hr1) ?_
                      refine mz_ne (pc := 112) (tgt := 134) C0 (by decide) d_MO_enlarge_112 (by decide) (fun h9 => absurd rfl h9) (fun _ => ?_)
                      refine lv_aload_n (pc := 115) C0.1 C0.2.1 d_MO_enlarge_115 rfl (lv_at hl 1 rfl) ?_
                      refine lv_iload_n (pc := 116) C0.1 C0.2.1 d_MO_enlarge_116 rfl (lv_at hl 2 rfl) ?_
                      refine lv_iload (pc := 117) C0.1 C0.2.1 d_MO_enlarge_117 (lv_at hl 0 rfl) ?_
                      have hczlt : cz < pm_fc n := by
                        have h9 := ma_cn_in hx hnx
                        have h8 := ma_cn_le (ma_in X (pm_mu n (F c0) (su_up G k a u))) (pm_fc n)
                        omega
                      refine mg_cv (pc := 119) (As := [.int (nI (q)), .int (nI (pm_mu n (F c0) (su_up G k a u)))]) (rest := []) C0 (c_MO_putCoset l D ca ad h2 h6 him hq hnx hwH hwX (fun x hx9 => hgen.1.2.1 x hx9) ws fx fi fs) lk_MO_67 (by decide) fx rfl hK hP hD hS hA rfl hl.1 rfl (Nat.le_of_ble_eq_true rfl) d_MO_enlarge_119 (fun ws H locs hpost hP hD hS => ?_)
                      obtain ⟨hfr, st9, X9, fs, hw9, hX9, ho9⟩ := hpost
                      have fx := (hfr (52) (by omega)).trans fx
                      have fi := (hfr (53) (by omega)).trans fi
                      have fy := (hfr (56) (by omega)).trans fy
                      have fg := (hfr (57) (by omega)).trans fg
                      have fnn := (hfr (58) (by omega)).trans fnn
                      have hfm : ∀ j, j ≠ 55 ∧ j ≠ 56 ∧ j ≠ 57 ∧ j ≠ 58 → ws[j]? = ws0[j]? := fun j hj => (hfr j (by omega)).trans (hfm j hj)
                      refine lv_aload_n (pc := 122) C0.1 C0.2.1 d_MO_enlarge_122 rfl (lv_at hl 1 rfl) ?_
                      refine mg_get (pc := 123) C0 in_MO hK hP (52) fx rfl 9 (by decide) fl_MO_30 rfl d_MO_enlarge_123 ?_
                      refine lv_iload_n (pc := 126) C0.1 C0.2.1 d_MO_enlarge_126 rfl (lv_at hl 4 rfl) ?_
                      refine lv_iload (pc := 127) C0.1 C0.2.1 d_MO_enlarge_127 (lv_at hl 0 rfl) ?_
                      refine mg_ist (pc := 129) C0 hK hP hD hS (58) 1 fnn rfl (j := cz) (by omega) (by omega) d_MO_enlarge_129 (fun ws H locs hfr fnn hP hD hS => ?_)
                      have fx := (hfr (52) (by omega)).trans fx
                      have fi := (hfr (53) (by omega)).trans fi
                      have fy := (hfr (56) (by omega)).trans fy
                      have fg := (hfr (57) (by omega)).trans fg
                      have fs := (hfr (55) (by omega)).trans fs
                      have hfm : ∀ j, j ≠ 55 ∧ j ≠ 56 ∧ j ≠ 57 ∧ j ≠ 58 → ws[j]? = ws0[j]? := fun j hj => (hfr j (by omega)).trans (hfm j hj)
                      refine lv_iload_n (pc := 130) C0.1 C0.2.1 d_MO_enlarge_130 rfl (lv_at hl 4 rfl) ?_
                      refine lv_iconst (pc := 131) (v := nI (1)) C0.1 C0.2.1 d_MO_enlarge_131 (by decide +kernel) ?_
                      refine mn_add (pc := 132) C0 d_MO_enlarge_132 ?_
                      refine lv_istore_n (pc := 133) (lv' := [(3, .int (nI (cz + 1))), (6, .int (nI (pm_mu n (F c0) (su_up G k a u)))), (0, .ref (ad 52)), (1, .int (nI (q))), (2, .int (nI (a))), (4, .int (nI (c0))), (5, .int (nI (u)))]) C0.1 C0.2.1 d_MO_enlarge_133 rfl hl (by decide) rfl (fun ls hl => ?_)
                      refine lv_iinc (pc := 134) (k := 6) (v := nI (u + 1)) (lv' := [(5, .int (nI (u + 1))), (3, .int (nI (cz + 1))), (6, .int (nI (pm_mu n (F c0) (su_up G k a u)))), (0, .ref (ad 52)), (1, .int (nI (q))), (2, .int (nI (a))), (4, .int (nI (c0)))]) C0.1 C0.2.1 d_MO_enlarge_134 hl rfl (nb_p1 _) (by decide) rfl (fun ls hl => ?_)
                      refine lv_goto (pc := 137) (tgt := 69) C0.1 C0.2.1 d_MO_enlarge_137 (by decide) ?_
                      have hmono : ∀ x, X x = true → X9 x = true := fun x h9 => (hX9 x).mpr (Or.inl h9)
                      have hself : X9 (pm_mu n (F c0) (su_up G k a u)) = true := (hX9 _).mpr (Or.inr ⟨0, hgen.1.1, by rw [gp_ol g0 hnx]⟩)
                      have hFe : ∀ j, j < cz → su_up F cz (pm_mu n (F c0) (su_up G k a u)) j = F j := fun j hj => su_un _ _ (by omega)
                      exact ih_inner _ (by omega) (u + 1) (cz + 1) st9 _ X9 (su_up F cz (pm_mu n (F c0) (su_up G k a u))) _ _ _ _ rfl hw9 (mo_wd_fr hwH (fun i hi => ho9 14 i (by omega) hi)) (fun h h1 h3 h4 => ⟨fun i hi => (ho9 h i h1 hi).trans ((hsm h h1 h3 h4).1 i hi), (hsm h h1 h3 h4).2⟩) (fun j hj => by
                        by_cases e : j = cz
                        · subst e; rw [pk_us, su_us]
                        · rw [pk_un e, su_un _ _ e]; exact hF j (by omega)) (cm_I1 g0 hgen.1 hI hnx hx hFe (su_us _ _ _) hX9) (by rw [hFe 0 (by omega)]; exact hF0) (fun x h9 => hmono x (hXS x h9)) (fun T hT hH9 hTa x hx9 => by
                        rcases (hX9 x).mp hx9 with h | ⟨h, hh, he⟩
                        · exact hmin T hT hH9 hTa x h
                        · have hT1 := hmin T hT hH9 hTa _ (hI.2.1 c0 hcc)
                          have hT2 : T (su_up G k a u) := by
                            by_cases e : u = k
                            · rw [e, su_us]; exact hTa
                            · rw [su_un _ _ e]; exact hH9 _ (hgen.2.1 u (by omega))
                          rw [he]; exact hT.2.2.1 _ _ (hH9 _ hh) (hT.2.2.1 _ _ hT1 hT2)) (by omega) (fun j s hj hs1 => by rw [hFe j (by omega)]; exact hmono _ (hpr j s hj hs1)) (fun s hs1 => by
                        rw [hFe c0 hcc]
                        by_cases e : s = u
                        · subst e; exact hself
                        · exact hmono _ (hin s (by omega))) (by omega) (by omega) hfm fs fy fg fnn (lv_sub hl [3, 4, 5, 1, 6, 0] rfl) hP hD hS
            exact inner _ 0 cz _ _ X F _ _ _ _ rfl hwX hwH hsm hF hI hF0 hXS hmin hcz1 hpr (fun s hs1 => absurd hs1 (by omega)) hcc (by omega) hfm fs fy fg fnn (lv_sub hl [1, 2, 3, 4, 5, 0] rfl) hP hD hS
      exact outer _ 0 1 st2 _ S (fun _ => 0) _ _ _ _ rfl hX0 hH hsm3 (fun j hj => by
        have e : j = 0 := by omega
        subst e; exact pk_us) (cm_I0 g0 hgen.1 rfl) rfl (fun _ h => h) (fun T _ h _ => h) (by omega) (fun j s hj => absurd hj (by omega)) (by omega) hfm fs fy fg fnn (lv_sub hl [2, 3, 4, 1, 0] rfl) hP hD hS
