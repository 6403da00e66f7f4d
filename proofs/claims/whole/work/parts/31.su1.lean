/-! Subgroup: contracts, the small ones -/
set_option maxHeartbeats 4000000 in
set_option maxRecDepth 100000 in
theorem c_SU_has (l : Launch) (D : va_G) (ca : Nat → ClassId) (ad : Nat → Nat) {n : Nat} (h2 : 2 ≤ n) (h6 : n ≤ 6) {i r : Nat} (hr : r < pm_fc n) {sz kc : Int32} {f : Nat → Int64} (ws0 : va_W) (zo : ws0[10 + 3 * i]? = some (ad (10 + 3 * i), .inr (2, [.int (sz), .ref (ad 1), .ref (ad (11 + 3 * i)), .ref (ad (12 + 3 * i)), .int (kc), .ref (ad 8)]))) (zm : ws0[11 + 3 * i]? = some (ad (11 + 3 * i), .inl (ca 2, (pm_fc n + 63) / 64, .inr (.inl (f))))) : mg_I l y_SU_has b_SU_has 2 (.boolean) 1 D classes (tys_ ca) [.ref (ad (10 + 3 * i)), .int (nI (r))] ws0 (fun v w => v = nI (if bw_t f r = true then 1 else 0) ∧ w = ws0) := by
  refine mg_openI (own := R_SU) rfl (by decide) (Nat.le_of_ble_eq_true rfl) ?_
  intro p e s m args below meth c A Q ls C0 hK hA hP hD hS hl hret
  have hl : lv_has ls 2 [(0, .ref (ad (10 + 3 * i))), (1, .int (nI (r)))] := hl
  have fo := zo
  have fm := zm
  have hN := pm_fc_le h6
  refine lv_aload_n (pc := 0) C0.1 C0.2.1 d_SU_has_0 rfl (lv_at hl 0 rfl) ?_
  refine mg_get (pc := 1) C0 in_SU hK hP (10 + 3 * i) fo rfl 2 (by decide) fl_SU_23 rfl d_SU_has_1 ?_
  refine lv_iload_n (pc := 4) C0.1 C0.2.1 d_SU_has_4 rfl (lv_at hl 1 rfl) ?_
  refine lv_bipush (pc := 5) (v := nI (64)) C0.1 C0.2.1 d_SU_has_5 (by decide +kernel) ?_
  refine mn_div (pc := 7) C0 (by omega) (by omega) (by omega) d_SU_has_7 ?_
  refine mg_lld (pc := 8) C0 hK hP (11 + 3 * i) 2 fm rfl (j := r / 64) (by omega) (by omega) d_SU_has_8 ?_
  refine lv_iload_n (pc := 9) C0.1 C0.2.1 d_SU_has_9 rfl (lv_at hl 1 rfl) ?_
  refine lv_bipush (pc := 10) (v := nI (64)) C0.1 C0.2.1 d_SU_has_10 (by decide +kernel) ?_
  refine mn_rem (pc := 12) C0 (by omega) (by omega) (by omega) d_SU_has_12 ?_
  refine lv_lushr (pc := 13) (v := ((f (r / 64)).toUInt64 >>> ((nI (r % 64)).toInt64.toUInt64 &&& Int64.toUInt64 63)).toInt64) C0.1 C0.2.1 d_SU_has_13 rfl ?_
  refine lv_lconst (pc := 14) (v := 1) C0.1 C0.2.1 d_SU_has_14 (by decide +kernel) ?_
  refine lv_land (pc := 15) C0.1 C0.2.1 d_SU_has_15 ?_
  refine lv_lconst (pc := 16) (v := 0) C0.1 C0.2.1 d_SU_has_16 (by decide +kernel) ?_
  refine W.lcmp (pc := 17) C0.1 C0.2.1 d_SU_has_17 ?_
  refine lv_if_eq (pc := 18) (tgt := 25) C0.1 C0.2.1 d_SU_has_18 (by decide) (fun hc => ?_) (fun hc => ?_)
  · have hb := bw_has.mp ((nb_cmp0 _).mp hc)
    refine lv_iconst (pc := 25) (v := nI (0)) C0.1 C0.2.1 d_SU_has_25 (by decide +kernel) ?_
    exact hret _ _ _ _ 26 _ (rfl) (⟨by rw [if_neg (by rw [hb]; decide)], rfl⟩) hP hD hS d_SU_has_26
  · have hb : bw_t f r = true := by
      cases h : bw_t f r with
      | true => rfl
      | false => exact absurd ((nb_cmp0 _).mpr (bw_has.mpr h)) hc
    refine lv_iconst (pc := 21) (v := nI (1)) C0.1 C0.2.1 d_SU_has_21 (by decide +kernel) ?_
    refine lv_goto (pc := 22) (tgt := 26) C0.1 C0.2.1 d_SU_has_22 (by decide) ?_
    exact hret _ _ _ _ 26 _ (rfl) (⟨by rw [if_pos hb], rfl⟩) hP hD hS d_SU_has_26
set_option maxHeartbeats 4000000 in
set_option maxRecDepth 100000 in
theorem c_SU_mark (l : Launch) (D : va_G) (ca : Nat → ClassId) (ad : Nat → Nat) {n : Nat} (h2 : 2 ≤ n) (h6 : n ≤ 6) {i r : Nat} (hr : r < pm_fc n) {sz kc : Int32} {f : Nat → Int64} (ws0 : va_W) (zo : ws0[10 + 3 * i]? = some (ad (10 + 3 * i), .inr (2, [.int (sz), .ref (ad 1), .ref (ad (11 + 3 * i)), .ref (ad (12 + 3 * i)), .int (kc), .ref (ad 8)]))) (zm : ws0[11 + 3 * i]? = some (ad (11 + 3 * i), .inl (ca 2, (pm_fc n + 63) / 64, .inr (.inl (f))))) : mg_V l y_SU_mark b_SU_mark 2 1 D classes (tys_ ca) [.ref (ad (10 + 3 * i)), .int (nI (r))] ws0 (fun w => (∀ j, j ≠ 11 + 3 * i → w[j]? = ws0[j]?) ∧ ∃ f1 : Nat → Int64, w[11 + 3 * i]? = some (ad (11 + 3 * i), .inl (ca 2, (pm_fc n + 63) / 64, .inr (.inl f1))) ∧ ∀ x, bw_t f1 x = (bw_t f x || x == r)) := by
  refine mg_openV (own := R_SU) rfl (by decide) (Nat.le_of_ble_eq_true rfl) ?_
  intro p e s m args below meth c A Q ls C0 hK hA hP hD hS hl hret
  have hl : lv_has ls 2 [(0, .ref (ad (10 + 3 * i))), (1, .int (nI (r)))] := hl
  have fo := zo
  have fm := zm
  have hfm : ∀ j, j ≠ 11 + 3 * i → ws0[j]? = ws0[j]? := fun _ _ => rfl
  have hN := pm_fc_le h6
  refine lv_aload_n (pc := 0) C0.1 C0.2.1 d_SU_mark_0 rfl (lv_at hl 0 rfl) ?_
  refine mg_get (pc := 1) C0 in_SU hK hP (10 + 3 * i) fo rfl 2 (by decide) fl_SU_23 rfl d_SU_mark_1 ?_
  refine lv_iload_n (pc := 4) C0.1 C0.2.1 d_SU_mark_4 rfl (lv_at hl 1 rfl) ?_
  refine lv_bipush (pc := 5) (v := nI (64)) C0.1 C0.2.1 d_SU_mark_5 (by decide +kernel) ?_
  refine mn_div (pc := 7) C0 (by omega) (by omega) (by omega) d_SU_mark_7 ?_
  refine lv_dup2_11 (pc := 8) C0.1 C0.2.1 d_SU_mark_8 rfl rfl ?_
  refine mg_lld (pc := 9) C0 hK hP (11 + 3 * i) 2 fm rfl (j := r / 64) (by omega) (by omega) d_SU_mark_9 ?_
  refine lv_lconst (pc := 10) (v := 1) C0.1 C0.2.1 d_SU_mark_10 (by decide +kernel) ?_
  refine lv_iload_n (pc := 11) C0.1 C0.2.1 d_SU_mark_11 rfl (lv_at hl 1 rfl) ?_
  refine lv_bipush (pc := 12) (v := nI (64)) C0.1 C0.2.1 d_SU_mark_12 (by decide +kernel) ?_
  refine mn_rem (pc := 14) C0 (by omega) (by omega) (by omega) d_SU_mark_14 ?_
  refine lv_lshl (pc := 15) (v := 1 <<< ((nI (r % 64)).toInt64 &&& 63)) C0.1 C0.2.1 d_SU_mark_15 rfl ?_
  refine lv_lor (pc := 16) C0.1 C0.2.1 d_SU_mark_16 ?_
  refine mg_lst (pc := 17) C0 hK hP hD hS (11 + 3 * i) 2 fm rfl (j := r / 64) (by omega) (by omega) d_SU_mark_17 (fun ws H locs hfr fm hP hD hS => ?_)
  have fo := (hfr (10 + 3 * i) (by omega)).trans fo
  have hfm : ∀ j, j ≠ 11 + 3 * i → ws[j]? = ws0[j]? := fun j hj => (hfr j (by omega)).trans (hfm j hj)
  exact hret _ _ _ 18 _ (⟨hfm, _, fm, bw_mark f r⟩) hP hD hS d_SU_mark_18
set_option maxHeartbeats 4000000 in
set_option maxRecDepth 100000 in
theorem c_SU_listMembers (l : Launch) (D : va_G) (ca : Nat → ClassId) (ad : Nat → Nat) {n : Nat} (h2 : 2 ≤ n) (h6 : n ≤ 6) {i : Nat} {sz kc : Int32} {f : Nat → Int64} {L : Nat → Int32} {S : Nat → Bool} (hS0 : su_wd n f S) (ws0 : va_W) (z1 : ws0[1]? = some (ad 1, .inr (1, [.int (nI (n)), .int (nI (pm_fc n)), .ref (ad 2), .ref (ad 3)]))) (zo : ws0[10 + 3 * i]? = some (ad (10 + 3 * i), .inr (2, [.int (sz), .ref (ad 1), .ref (ad (11 + 3 * i)), .ref (ad (12 + 3 * i)), .int (kc), .ref (ad 8)]))) (zm : ws0[11 + 3 * i]? = some (ad (11 + 3 * i), .inl (ca 2, (pm_fc n + 63) / 64, .inr (.inl (f))))) (z8 : ws0[8]? = some (ad 8, .inl (ca 1, pm_fc n, .inl (L)))) : mg_V l y_SU_listMembers b_SU_listMembers 3 2 D classes (tys_ ca) [.ref (ad (10 + 3 * i))] ws0 (fun w => (∀ j, j ≠ 8 → w[j]? = ws0[j]?) ∧ ∃ L1 : Nat → Int32, w[8]? = some (ad 8, .inl (ca 1, pm_fc n, .inl L1)) ∧ ∀ x, x < pm_fc n → S x = true → L1 (ma_cn S x) = nI x) := by
  refine mg_openV (own := R_SU) rfl (by decide) (Nat.le_of_ble_eq_true rfl) ?_
  intro p e s m args below meth c A Q ls C0 hK hA hP hD hS hl hret
  have hl : lv_has ls 3 [(0, .ref (ad (10 + 3 * i)))] := hl
  have f1 := z1
  have fo := zo
  have fm := zm
  have f8 := z8
  have hfm : ∀ j, j ≠ 8 → ws0[j]? = ws0[j]? := fun _ _ => rfl
  have hN := pm_fc_le h6
  refine lv_iconst (pc := 0) (v := nI (0)) C0.1 C0.2.1 d_SU_listMembers_0 (by decide +kernel) ?_
  refine lv_istore_n (pc := 1) (lv' := [(1, .int (nI (0))), (0, .ref (ad (10 + 3 * i)))]) C0.1 C0.2.1 d_SU_listMembers_1 rfl hl (by decide) rfl (fun ls hl => ?_)
  refine lv_iconst (pc := 2) (v := nI (0)) C0.1 C0.2.1 d_SU_listMembers_2 (by decide +kernel) ?_
  refine lv_istore_n (pc := 3) (lv' := [(2, .int (nI (0))), (1, .int (nI (0))), (0, .ref (ad (10 + 3 * i)))]) C0.1 C0.2.1 d_SU_listMembers_3 rfl hl (by decide) rfl (fun ls hl => ?_)
  have loop : ∀ (d : Nat) (r : Nat) (L : Nat → Int32) (ws : va_W) (H : Heap) (locs : List Loc) (ls : Array Slot), pm_fc n - r = d → (r ≤ pm_fc n) → (∀ x, x < r → S x = true → L (ma_cn S x) = nI x) → (∀ j, j ≠ 8 → ws[j]? = ws0[j]?) → ws[8]? = some (ad 8, .inl (ca 1, pm_fc n, .inl (L))) → lv_has ls 3 [(0, .ref (ad (10 + 3 * i))), (1, .int (nI (ma_cn S r))), (2, .int (nI (r)))] → va_P D classes ws H → va_D A ws → va_S A s.heap H locs → W p l e (mg_rm 2) s m args below meth c H locs 0 0 Q (F0 m 4 ls []) := by
    intro d
    induction d using Nat.strongRecOn with
    | _ d ih_loop =>
      intro r L ws H locs ls hd hr hL hfm f8 hl hP hD hS
      have f1 := (hfm (1) (by omega)).trans z1
      have fo := (hfm (10 + 3 * i) (by omega)).trans zo
      have fm := (hfm (11 + 3 * i) (by omega)).trans zm
      have hcn := ma_cn_le S r
      refine lv_iload_n (pc := 4) C0.1 C0.2.1 d_SU_listMembers_4 rfl (lv_at hl 2 rfl) ?_
      refine lv_aload_n (pc := 5) C0.1 C0.2.1 d_SU_listMembers_5 rfl (lv_at hl 0 rfl) ?_
      refine mg_get (pc := 6) C0 in_SU hK hP (10 + 3 * i) fo rfl 1 (by decide) fl_SU_7 rfl d_SU_listMembers_6 ?_
      refine mg_get (pc := 9) C0 in_SY hK hP (1) f1 rfl 1 (by decide) fl_SU_17 rfl d_SU_listMembers_9 ?_
      refine mb_ge (pc := 12) (tgt := 39) C0 (by omega) (by omega) d_SU_listMembers_12 (by decide) (fun hc => ?_) (fun hc => ?_)
      · exact hret _ _ _ 39 _ (⟨hfm, L, f8, fun x hx hs => hL x (by omega) hs⟩) hP hD hS d_SU_listMembers_39
      · refine lv_aload_n (pc := 15) C0.1 C0.2.1 d_SU_listMembers_15 rfl (lv_at hl 0 rfl) ?_
        refine lv_iload_n (pc := 16) C0.1 C0.2.1 d_SU_listMembers_16 rfl (lv_at hl 2 rfl) ?_
        refine mg_ci (pc := 17) (As := [.int (nI (r))]) (rest := []) C0 (c_SU_has l D ca ad h2 h6 hc ws fo fm) lk_SU_47 (by decide) fo rfl hK hP hD hS hA rfl hl.1 rfl (Nat.le_of_ble_eq_true rfl) d_SU_listMembers_17 (fun rv ws1 H locs hpost hP hD hS => ?_)
        obtain ⟨hr1, hw⟩ := hpost
        rw [hw] at hP hD
        rw [su_wd_lt hS0 hc] at hr1
        cases hs : S r with
        | true =>
            rw [hs, if_pos rfl] at hr1
            refine mg_top (show rv = nI (1) from hr1) ?_
            refine mz_eq (pc := 20) (tgt := 33) C0 (by decide) d_SU_listMembers_20 (by decide) (fun h9 => absurd h9 (by decide)) (fun _ => ?_)
            refine lv_aload_n (pc := 23) C0.1 C0.2.1 d_SU_listMembers_23 rfl (lv_at hl 0 rfl) ?_
            refine mg_get (pc := 24) C0 in_SU hK hP (10 + 3 * i) fo rfl 5 (by decide) fl_SU_13 rfl d_SU_listMembers_24 ?_
            refine lv_iload_n (pc := 27) C0.1 C0.2.1 d_SU_listMembers_27 rfl (lv_at hl 1 rfl) ?_
            refine lv_iload_n (pc := 28) C0.1 C0.2.1 d_SU_listMembers_28 rfl (lv_at hl 2 rfl) ?_
            refine mg_ist (pc := 29) C0 hK hP hD hS (8) 1 f8 rfl (j := ma_cn S r) (by omega) (by omega) d_SU_listMembers_29 (fun ws H locs hfr f8 hP hD hS => ?_)
            have f1 := (hfr (1) (by omega)).trans f1
            have fo := (hfr (10 + 3 * i) (by omega)).trans fo
            have fm := (hfr (11 + 3 * i) (by omega)).trans fm
            have hfm : ∀ j, j ≠ 8 → ws[j]? = ws0[j]? := fun j hj => (hfr j (by omega)).trans (hfm j hj)
            refine lv_iinc (pc := 30) (k := 1) (v := nI (ma_cn S r + 1)) (lv' := [(1, .int (nI (ma_cn S r + 1))), (0, .ref (ad (10 + 3 * i))), (2, .int (nI (r)))]) C0.1 C0.2.1 d_SU_listMembers_30 hl rfl (nb_p1 _) (by decide) rfl (fun ls hl => ?_)
            refine lv_iinc (pc := 33) (k := 2) (v := nI (r + 1)) (lv' := [(2, .int (nI (r + 1))), (1, .int (nI (ma_cn S r + 1))), (0, .ref (ad (10 + 3 * i)))]) C0.1 C0.2.1 d_SU_listMembers_33 hl rfl (nb_p1 _) (by decide) rfl (fun ls hl => ?_)
            refine lv_goto (pc := 36) (tgt := 4) C0.1 C0.2.1 d_SU_listMembers_36 (by decide) ?_
            have e1 : ma_cn S (r + 1) = ma_cn S r + 1 := by show ma_cn S r + (if S r = true then 1 else 0) = _; rw [if_pos hs]
            rw [← e1] at hl
            exact ih_loop _ (by omega) (r + 1) (upd L (ma_cn S r) (nI (r))) _ _ _ _ rfl (by omega) (fun x hx h => by
              by_cases e : x = r
              · subst e; exact pk_us
              · have h9 := ma_cn_lt h (show x < r by omega)
                rw [pk_un (by omega)]; exact hL x (by omega) h) hfm f8 (lv_sub hl [2, 1, 0] rfl) hP hD hS
        | false =>
            rw [hs, if_neg (by decide)] at hr1
            refine mg_top (show rv = nI (0) from hr1) ?_
            refine mz_eq (pc := 20) (tgt := 33) C0 (by decide) d_SU_listMembers_20 (by decide) (fun _ => ?_) (fun h9 => absurd rfl h9)
            refine lv_iinc (pc := 33) (k := 2) (v := nI (r + 1)) (lv' := [(2, .int (nI (r + 1))), (0, .ref (ad (10 + 3 * i))), (1, .int (nI (ma_cn S r)))]) C0.1 C0.2.1 d_SU_listMembers_33 hl rfl (nb_p1 _) (by decide) rfl (fun ls hl => ?_)
            refine lv_goto (pc := 36) (tgt := 4) C0.1 C0.2.1 d_SU_listMembers_36 (by decide) ?_
            have e1 : ma_cn S (r + 1) = ma_cn S r := by show ma_cn S r + (if S r = true then 1 else 0) = _; rw [hs, if_neg (by decide)]; exact Nat.add_zero _
            rw [← e1] at hl
            exact ih_loop _ (by omega) (r + 1) L _ _ _ _ rfl (by omega) (fun x hx h => by
              by_cases e : x = r
              · subst e; rw [hs] at h; exact absurd h (by decide)
              · exact hL x (by omega) h) hfm f8 (lv_sub hl [1, 2, 0] rfl) hP hD hS
  exact loop _ 0 L _ _ _ _ rfl (by omega) (fun x hx => absurd hx (by omega)) hfm f8 (lv_sub hl [2, 1, 0] rfl) hP hD hS
set_option maxHeartbeats 4000000 in
set_option maxRecDepth 100000 in
theorem c_SU_becomeTrivial (l : Launch) (D : va_G) (ca : Nat → ClassId) (ad : Nat → Nat) {n : Nat} (h2 : 2 ≤ n) (h6 : n ≤ 6) {i : Nat} {sz kc : Int32} {f : Nat → Int64} {g : Nat → Int32} (G : Nat → Nat) (ws0 : va_W) (zo : ws0[10 + 3 * i]? = some (ad (10 + 3 * i), .inr (2, [.int (sz), .ref (ad 1), .ref (ad (11 + 3 * i)), .ref (ad (12 + 3 * i)), .int (kc), .ref (ad 8)]))) (zm : ws0[11 + 3 * i]? = some (ad (11 + 3 * i), .inl (ca 2, (pm_fc n + 63) / 64, .inr (.inl (f))))) (zg : ws0[12 + 3 * i]? = some (ad (12 + 3 * i), .inl (ca 1, 10, .inl (g)))) : mg_V l y_SU_becomeTrivial b_SU_becomeTrivial 2 2 D classes (tys_ ca) [.ref (ad (10 + 3 * i))] ws0 (fun w => (∀ j, j ≠ 10 + 3 * i ∧ j ≠ 11 + 3 * i → w[j]? = ws0[j]?) ∧ su_ok ca ad n i w su_one G 0) := by
  refine mg_openV (own := R_SU) rfl (by decide) (Nat.le_of_ble_eq_true rfl) ?_
  intro p e s m args below meth c A Q ls C0 hK hA hP hD hS hl hret
  have hl : lv_has ls 2 [(0, .ref (ad (10 + 3 * i)))] := hl
  have fo := zo
  have fm := zm
  have fg := zg
  have hfm : ∀ j, j ≠ 10 + 3 * i ∧ j ≠ 11 + 3 * i → ws0[j]? = ws0[j]? := fun _ _ => rfl
  have hN := pm_fc_le h6
  have hN0 := pm_fc_pos n
  refine lv_iconst (pc := 0) (v := nI (0)) C0.1 C0.2.1 d_SU_becomeTrivial_0 (by decide +kernel) ?_
  refine lv_istore_n (pc := 1) (lv' := [(1, .int (nI (0))), (0, .ref (ad (10 + 3 * i)))]) C0.1 C0.2.1 d_SU_becomeTrivial_1 rfl hl (by decide) rfl (fun ls hl => ?_)
  have loop : ∀ (d : Nat) (x : Nat) (f : Nat → Int64) (ws : va_W) (H : Heap) (locs : List Loc) (ls : Array Slot), (pm_fc n + 63) / 64 - x = d → (x ≤ (pm_fc n + 63) / 64) → (∀ y, y < x → f y = 0) → (∀ j, j ≠ 10 + 3 * i ∧ j ≠ 11 + 3 * i → ws[j]? = ws0[j]?) → ws[10 + 3 * i]? = some (ad (10 + 3 * i), .inr (2, [.int (sz), .ref (ad 1), .ref (ad (11 + 3 * i)), .ref (ad (12 + 3 * i)), .int (kc), .ref (ad 8)])) → ws[11 + 3 * i]? = some (ad (11 + 3 * i), .inl (ca 2, (pm_fc n + 63) / 64, .inr (.inl (f)))) → lv_has ls 2 [(0, .ref (ad (10 + 3 * i))), (1, .int (nI (x)))] → va_P D classes ws H → va_D A ws → va_S A s.heap H locs → W p l e (mg_rm 2) s m args below meth c H locs 0 0 Q (F0 m 2 ls []) := by
    intro d
    induction d using Nat.strongRecOn with
    | _ d ih_loop =>
      intro x f ws H locs ls hd hx hf hfm fo fm hl hP hD hS
      have fg := (hfm (12 + 3 * i) (by omega)).trans zg
      refine lv_iload_n (pc := 2) C0.1 C0.2.1 d_SU_becomeTrivial_2 rfl (lv_at hl 1 rfl) ?_
      refine lv_aload_n (pc := 3) C0.1 C0.2.1 d_SU_becomeTrivial_3 rfl (lv_at hl 0 rfl) ?_
      refine mg_get (pc := 4) C0 in_SU hK hP (10 + 3 * i) fo rfl 2 (by decide) fl_SU_23 rfl d_SU_becomeTrivial_4 ?_
      refine va_alen (pc := 7) C0.1 C0.2.1 hK hP (11 + 3 * i) 2 fm rfl (v := nI ((pm_fc n + 63) / 64)) rfl d_SU_becomeTrivial_7 ?_
      refine mb_ge (pc := 8) (tgt := 24) C0 (by omega) (by omega) d_SU_becomeTrivial_8 (by decide) (fun hc => ?_) (fun hc => ?_)
      · refine lv_aload_n (pc := 24) C0.1 C0.2.1 d_SU_becomeTrivial_24 rfl (lv_at hl 0 rfl) ?_
        refine lv_iconst (pc := 25) (v := nI (0)) C0.1 C0.2.1 d_SU_becomeTrivial_25 (by decide +kernel) ?_
        refine mg_cv (pc := 26) (As := [.int (nI (0))]) (rest := []) C0 (c_SU_mark l D ca ad h2 h6 hN0 ws fo fm) lk_SU_33 (by decide) fo rfl hK hP hD hS hA rfl hl.1 rfl (Nat.le_of_ble_eq_true rfl) d_SU_becomeTrivial_26 (fun ws H locs hpost hP hD hS => ?_)
        obtain ⟨hfr, f1, fm, hf1⟩ := hpost
        have fg := (hfr (12 + 3 * i) (by omega)).trans fg
        have fo := (hfr (10 + 3 * i) (by omega)).trans fo
        have hfm : ∀ j, j ≠ 10 + 3 * i ∧ j ≠ 11 + 3 * i → ws[j]? = ws0[j]? := fun j hj => (hfr j (by omega)).trans (hfm j hj)
        refine lv_aload_n (pc := 29) C0.1 C0.2.1 d_SU_becomeTrivial_29 rfl (lv_at hl 0 rfl) ?_
        refine lv_iconst (pc := 30) (v := nI (1)) C0.1 C0.2.1 d_SU_becomeTrivial_30 (by decide +kernel) ?_
        refine mg_put (pc := 31) C0 in_SU t_SU_ok n_SU hK hP hD hS (10 + 3 * i) fo rfl 0 (by decide) fl_SU_37 rfl (ty := .int) (by decide +kernel) rfl rfl (Nat.le_of_ble_eq_true rfl) (fs' := [.int (nI (1)), .ref (ad 1), .ref (ad (11 + 3 * i)), .ref (ad (12 + 3 * i)), .int (kc), .ref (ad 8)]) rfl d_SU_becomeTrivial_31 (fun ws H locs hfr fo hP hD hS => ?_)
        have fg := (hfr (12 + 3 * i) (by omega)).trans fg
        have fm := (hfr (11 + 3 * i) (by omega)).trans fm
        have hfm : ∀ j, j ≠ 10 + 3 * i ∧ j ≠ 11 + 3 * i → ws[j]? = ws0[j]? := fun j hj => (hfr j (by omega)).trans (hfm j hj)
        refine lv_aload_n (pc := 34) C0.1 C0.2.1 d_SU_becomeTrivial_34 rfl (lv_at hl 0 rfl) ?_
        refine lv_iconst (pc := 35) (v := nI (0)) C0.1 C0.2.1 d_SU_becomeTrivial_35 (by decide +kernel) ?_
        refine mg_put (pc := 36) C0 in_SU t_SU_ok n_SU hK hP hD hS (10 + 3 * i) fo rfl 4 (by decide) fl_SU_38 rfl (ty := .int) (by decide +kernel) rfl rfl (Nat.le_of_ble_eq_true rfl) (fs' := [.int (nI (1)), .ref (ad 1), .ref (ad (11 + 3 * i)), .ref (ad (12 + 3 * i)), .int (nI (0)), .ref (ad 8)]) rfl d_SU_becomeTrivial_36 (fun ws H locs hfr fo hP hD hS => ?_)
        have fg := (hfr (12 + 3 * i) (by omega)).trans fg
        have fm := (hfr (11 + 3 * i) (by omega)).trans fm
        have hfm : ∀ j, j ≠ 10 + 3 * i ∧ j ≠ 11 + 3 * i → ws[j]? = ws0[j]? := fun j hj => (hfr j (by omega)).trans (hfm j hj)
        rw [show nI 1 = nI (ma_cn su_one (pm_fc n)) by rw [su_one_cn hN0]] at fo
        refine hret _ _ _ 39 _ (⟨hfm, f1, g, ⟨fo, fm, fg⟩, fun r hr => ?_, fun j hj => absurd hj (by omega), su_one_gen (pm_gp h2 h6) G, by rw [su_one_cn hN0]; decide⟩) hP hD hS d_SU_becomeTrivial_39
        have h0 : bw_t f r = false := by
          unfold bw_t
          rw [hf (r / 64) (by omega)]
          exact BitVec.getLsbD_zero
        rw [hf1 r, h0]; rfl
      · refine lv_aload_n (pc := 11) C0.1 C0.2.1 d_SU_becomeTrivial_11 rfl (lv_at hl 0 rfl) ?_
        refine mg_get (pc := 12) C0 in_SU hK hP (10 + 3 * i) fo rfl 2 (by decide) fl_SU_23 rfl d_SU_becomeTrivial_12 ?_
        refine lv_iload_n (pc := 15) C0.1 C0.2.1 d_SU_becomeTrivial_15 rfl (lv_at hl 1 rfl) ?_
        refine lv_lconst (pc := 16) (v := 0) C0.1 C0.2.1 d_SU_becomeTrivial_16 (by decide +kernel) ?_
        refine mg_lst (pc := 17) C0 hK hP hD hS (11 + 3 * i) 2 fm rfl (j := x) (by omega) (by omega) d_SU_becomeTrivial_17 (fun ws H locs hfr fm hP hD hS => ?_)
        have fg := (hfr (12 + 3 * i) (by omega)).trans fg
        have fo := (hfr (10 + 3 * i) (by omega)).trans fo
        have hfm : ∀ j, j ≠ 10 + 3 * i ∧ j ≠ 11 + 3 * i → ws[j]? = ws0[j]? := fun j hj => (hfr j (by omega)).trans (hfm j hj)
        refine lv_iinc (pc := 18) (k := 1) (v := nI (x + 1)) (lv' := [(1, .int (nI (x + 1))), (0, .ref (ad (10 + 3 * i)))]) C0.1 C0.2.1 d_SU_becomeTrivial_18 hl rfl (nb_p1 _) (by decide) rfl (fun ls hl => ?_)
        refine lv_goto (pc := 21) (tgt := 2) C0.1 C0.2.1 d_SU_becomeTrivial_21 (by decide) ?_
        exact ih_loop _ (by omega) (x + 1) (vp_updL f (x) (0)) _ _ _ _ rfl (by omega) (fun y hy => by
          by_cases e : y = x
          · subst e; exact pk_uLs
          · rw [pk_uLn e]; exact hf y (by omega)) hfm fo fm (lv_sub hl [1, 0] rfl) hP hD hS
  exact loop _ 0 f _ _ _ _ rfl (by omega) (fun y hy => absurd hy (by omega)) hfm fo fm (lv_sub hl [1, 0] rfl) hP hD hS
