/-! Symmetry: contracts (walks by my own row writer) -/
set_option maxHeartbeats 4000000 in
set_option maxRecDepth 100000 in
theorem c_SY_factorial (l : Launch) (D : va_G) (ca : Nat → ClassId) (ad : Nat → Nat) {n : Nat} (h2 : 2 ≤ n) (h6 : n ≤ 6) (ws0 : va_W) : mg_I l y_SY_factorial b_SY_factorial 3 (.int) 1 D classes (tys_ ca) [.int (nI (n))] ws0 (fun v w => v = nI (pm_fc n) ∧ w = ws0) := by
  refine mg_openI (own := R_SY) rfl (by decide) (Nat.le_of_ble_eq_true rfl) ?_
  intro p e s m args below meth c A Q ls C0 hK hA hP hD hS hl hret
  have hl : lv_has ls 3 [(0, .int (nI (n)))] := hl
  refine lv_iconst (pc := 0) (v := nI (1)) C0.1 C0.2.1 d_SY_factorial_0 (by decide +kernel) ?_
  refine lv_istore_n (pc := 1) (lv' := [(1, .int (nI (1))), (0, .int (nI (n)))]) C0.1 C0.2.1 d_SY_factorial_1 rfl hl (by decide) rfl (fun ls hl => ?_)
  refine lv_iconst (pc := 2) (v := nI (2)) C0.1 C0.2.1 d_SY_factorial_2 (by decide +kernel) ?_
  refine lv_istore_n (pc := 3) (lv' := [(2, .int (nI (2))), (1, .int (nI (1))), (0, .int (nI (n)))]) C0.1 C0.2.1 d_SY_factorial_3 rfl hl (by decide) rfl (fun ls hl => ?_)
  have loop : ∀ (d : Nat) (k : Nat) (H : Heap) (locs : List Loc) (ls : Array Slot), n - k = d → (1 ≤ k) → (k ≤ n) → lv_has ls 3 [(0, .int (nI (n))), (1, .int (nI (pm_fc k))), (2, .int (nI (k + 1)))] → va_P D classes ws0 H → va_D A ws0 → va_S A s.heap H locs → W p l e (mg_rm 1) s m args below meth c H locs 0 0 Q (F0 m 4 ls []) := by
    intro d
    induction d using Nat.strongRecOn with
    | _ d ih_loop =>
      intro k H locs ls hd hk1 hkn hl hP hD hS
      refine lv_iload_n (pc := 4) C0.1 C0.2.1 d_SY_factorial_4 rfl (lv_at hl 2 rfl) ?_
      refine lv_iload_n (pc := 5) C0.1 C0.2.1 d_SY_factorial_5 rfl (lv_at hl 0 rfl) ?_
      refine mb_gt (pc := 6) (tgt := 19) C0 (by omega) (by omega) d_SY_factorial_6 (by decide) (fun hc => ?_) (fun hc => ?_)
      · have hk : k = n := by omega
        subst hk
        refine lv_iload_n (pc := 19) C0.1 C0.2.1 d_SY_factorial_19 rfl (lv_at hl 1 rfl) ?_
        exact hret _ _ _ _ 20 _ (rfl) (⟨rfl, rfl⟩) hP hD hS d_SY_factorial_20
      · refine lv_iload_n (pc := 9) C0.1 C0.2.1 d_SY_factorial_9 rfl (lv_at hl 1 rfl) ?_
        refine lv_iload_n (pc := 10) C0.1 C0.2.1 d_SY_factorial_10 rfl (lv_at hl 2 rfl) ?_
        refine mn_mul (pc := 11) C0 d_SY_factorial_11 ?_
        refine mg_top (show nI ((pm_fc k) * (k + 1)) = nI (pm_fc (k + 1)) from by rw [Nat.mul_comm]; rfl) ?_
        refine lv_istore_n (pc := 12) (lv' := [(1, .int (nI (pm_fc (k + 1)))), (0, .int (nI (n))), (2, .int (nI (k + 1)))]) C0.1 C0.2.1 d_SY_factorial_12 rfl hl (by decide) rfl (fun ls hl => ?_)
        refine lv_iinc (pc := 13) (k := 2) (v := nI (k + 1 + 1)) (lv' := [(2, .int (nI (k + 1 + 1))), (1, .int (nI (pm_fc (k + 1)))), (0, .int (nI (n)))]) C0.1 C0.2.1 d_SY_factorial_13 hl rfl (nb_p1 _) (by decide) rfl (fun ls hl => ?_)
        refine lv_goto (pc := 16) (tgt := 4) C0.1 C0.2.1 d_SY_factorial_16 (by decide) ?_
        exact ih_loop _ (by omega) (k + 1) _ _ _ rfl (by omega) (by omega) (lv_sub hl [2, 1, 0] rfl) hP hD hS
  exact loop _ 1 _ _ _ rfl (by omega) (by omega) (lv_sub hl [2, 1, 0] rfl) hP hD hS
set_option maxHeartbeats 4000000 in
set_option maxRecDepth 100000 in
theorem c_SY_unusedPoint (l : Launch) (D : va_G) (ca : Nat → ClassId) (ad : Nat → Nat) {n : Nat} (h2 : 2 ≤ n) (h6 : n ≤ 6) {u k0 : Nat} (hu : u < 64) (hk0 : k0 < 64) (ws0 : va_W) (z1 : ws0[1]? = some (ad 1, .inr (1, [.int (nI (n)), .int (nI (pm_fc n)), .ref (ad 2), .ref (ad 3)]))) : mg_I l y_SY_unusedPoint b_SY_unusedPoint 6 (.int) 1 D classes (tys_ ca) [.ref (ad 1), .int (nI (u)), .int (nI (k0))] ws0 (fun v w => v = nI (pm_un u n k0 0) ∧ w = ws0) := by
  refine mg_openI (own := R_SY) rfl (by decide) (Nat.le_of_ble_eq_true rfl) ?_
  intro p e s m args below meth c A Q ls C0 hK hA hP hD hS hl hret
  have hl : lv_has ls 6 [(0, .ref (ad 1)), (1, .int (nI (u))), (2, .int (nI (k0)))] := hl
  have f1 := z1
  refine lv_iload_n (pc := 0) C0.1 C0.2.1 d_SY_unusedPoint_0 rfl (lv_at hl 2 rfl) ?_
  refine lv_istore_n (pc := 1) (lv' := [(3, .int (nI (k0))), (0, .ref (ad 1)), (1, .int (nI (u))), (2, .int (nI (k0)))]) C0.1 C0.2.1 d_SY_unusedPoint_1 rfl hl (by decide) rfl (fun ls hl => ?_)
  refine lv_iconst (pc := 2) (v := nI (0)) C0.1 C0.2.1 d_SY_unusedPoint_2 (by decide +kernel) ?_
  refine lv_istore (pc := 3) (lv' := [(4, .int (nI (0))), (3, .int (nI (k0))), (0, .ref (ad 1)), (1, .int (nI (u))), (2, .int (nI (k0)))]) C0.1 C0.2.1 d_SY_unusedPoint_3 hl (by decide) rfl (fun ls hl => ?_)
  have loop : ∀ (d : Nat) (k : Nat) (y : Nat) (H : Heap) (locs : List Loc) (ls : Array Slot), n - y = d → (k < 64) → (y ≤ n) → (pm_un u (n - y) k y = pm_un u n k0 0) → lv_has ls 6 [(0, .ref (ad 1)), (1, .int (nI (u))), (3, .int (nI (k))), (4, .int (nI (y)))] → va_P D classes ws0 H → va_D A ws0 → va_S A s.heap H locs → W p l e (mg_rm 1) s m args below meth c H locs 0 0 Q (F0 m 5 ls []) := by
    intro d
    induction d using Nat.strongRecOn with
    | _ d ih_loop =>
      intro k y H locs ls hd hk hy he hl hP hD hS
      refine lv_iload (pc := 5) C0.1 C0.2.1 d_SY_unusedPoint_5 (lv_at hl 3 rfl) ?_
      refine lv_aload_n (pc := 7) C0.1 C0.2.1 d_SY_unusedPoint_7 rfl (lv_at hl 0 rfl) ?_
      refine mg_get (pc := 8) C0 in_SY hK hP (1) f1 rfl 0 (by decide) fl_SY_7 rfl d_SY_unusedPoint_8 ?_
      refine mb_ge (pc := 11) (tgt := 56) C0 (by omega) (by omega) d_SY_unusedPoint_11 (by decide) (fun hc => ?_) (fun hc => ?_)
      · refine lv_iconst (pc := 56) (v := nI (0)) C0.1 C0.2.1 d_SY_unusedPoint_56 (by decide +kernel) ?_
        have e0 : n - y = 0 := by omega
        rw [e0] at he
        exact hret _ _ _ _ 57 _ (rfl) (⟨congrArg nI he, rfl⟩) hP hD hS d_SY_unusedPoint_57
      · obtain ⟨f, hf⟩ : ∃ f, n - y = f + 1 := ⟨n - y - 1, by omega⟩
        have hf2 : n - (y + 1) = f := by omega
        rw [hf] at he
        refine lv_iload_n (pc := 14) C0.1 C0.2.1 d_SY_unusedPoint_14 rfl (lv_at hl 1 rfl) ?_
        refine lv_iload (pc := 15) C0.1 C0.2.1 d_SY_unusedPoint_15 (lv_at hl 3 rfl) ?_
        refine mn_shr (pc := 17) C0 (by omega) (by omega) d_SY_unusedPoint_17 ?_
        refine lv_iconst (pc := 18) (v := nI (1)) C0.1 C0.2.1 d_SY_unusedPoint_18 (by decide +kernel) ?_
        refine mn_bit (pc := 19) C0 d_SY_unusedPoint_19 ?_
        refine mz_ne (pc := 20) (tgt := 27) C0 (by omega) d_SY_unusedPoint_20 (by decide) (fun hc => ?_) (fun hc => ?_)
        · have hb := nb_t1 hc
          refine lv_iconst (pc := 27) (v := nI (0)) C0.1 C0.2.1 d_SY_unusedPoint_27 (by decide +kernel) ?_
          refine lv_istore (pc := 28) (lv' := [(5, .int (nI (0))), (0, .ref (ad 1)), (1, .int (nI (u))), (3, .int (nI (k))), (4, .int (nI (y)))]) C0.1 C0.2.1 d_SY_unusedPoint_28 hl (by decide) rfl (fun ls hl => ?_)
          refine lv_iload (pc := 30) C0.1 C0.2.1 d_SY_unusedPoint_30 (lv_at hl 0 rfl) ?_
          refine mz_eq (pc := 32) (tgt := 42) C0 (by decide) d_SY_unusedPoint_32 (by decide) (fun _ => ?_) (fun h9 => absurd rfl h9)
          refine lv_iload (pc := 42) C0.1 C0.2.1 d_SY_unusedPoint_42 (lv_at hl 0 rfl) ?_
          refine mz_eq (pc := 44) (tgt := 50) C0 (by decide) d_SY_unusedPoint_44 (by decide) (fun _ => ?_) (fun h9 => absurd rfl h9)
          refine lv_iinc (pc := 50) (k := 4) (v := nI (y + 1)) (lv' := [(4, .int (nI (y + 1))), (5, .int (nI (0))), (0, .ref (ad 1)), (1, .int (nI (u))), (3, .int (nI (k)))]) C0.1 C0.2.1 d_SY_unusedPoint_50 hl rfl (nb_p1 _) (by decide) rfl (fun ls hl => ?_)
          refine lv_goto (pc := 53) (tgt := 5) C0.1 C0.2.1 d_SY_unusedPoint_53 (by decide) ?_
          exact ih_loop _ (by omega) k (y + 1) _ _ _ rfl hk (by omega) (by rw [hf2, ← pm_un1 hb]; exact he) (lv_sub hl [2, 3, 4, 0] rfl) hP hD hS
        · have hb := nb_t0 hc
          refine lv_iconst (pc := 23) (v := nI (1)) C0.1 C0.2.1 d_SY_unusedPoint_23 (by decide +kernel) ?_
          refine lv_goto (pc := 24) (tgt := 28) C0.1 C0.2.1 d_SY_unusedPoint_24 (by decide) ?_
          refine lv_istore (pc := 28) (lv' := [(5, .int (nI (1))), (0, .ref (ad 1)), (1, .int (nI (u))), (3, .int (nI (k))), (4, .int (nI (y)))]) C0.1 C0.2.1 d_SY_unusedPoint_28 hl (by decide) rfl (fun ls hl => ?_)
          refine lv_iload (pc := 30) C0.1 C0.2.1 d_SY_unusedPoint_30 (lv_at hl 0 rfl) ?_
          refine mz_eq (pc := 32) (tgt := 42) C0 (by decide) d_SY_unusedPoint_32 (by decide) (fun h9 => absurd h9 (by decide)) (fun _ => ?_)
          refine lv_iload_n (pc := 35) C0.1 C0.2.1 d_SY_unusedPoint_35 rfl (lv_at hl 3 rfl) ?_
          refine mz_ne (pc := 36) (tgt := 42) C0 (by omega) d_SY_unusedPoint_36 (by decide) (fun hc => ?_) (fun hc => ?_)
          · refine lv_iload (pc := 42) C0.1 C0.2.1 d_SY_unusedPoint_42 (lv_at hl 0 rfl) ?_
            refine mz_eq (pc := 44) (tgt := 50) C0 (by decide) d_SY_unusedPoint_44 (by decide) (fun h9 => absurd h9 (by decide)) (fun _ => ?_)
            refine lv_iinc (pc := 47) (k := 3) (v := nI (k - 1)) (lv' := [(3, .int (nI (k - 1))), (5, .int (nI (1))), (0, .ref (ad 1)), (1, .int (nI (u))), (4, .int (nI (y)))]) C0.1 C0.2.1 d_SY_unusedPoint_47 hl rfl (nb_m1 (by omega)) (by decide) rfl (fun ls hl => ?_)
            refine lv_iinc (pc := 50) (k := 4) (v := nI (y + 1)) (lv' := [(4, .int (nI (y + 1))), (3, .int (nI (k - 1))), (5, .int (nI (1))), (0, .ref (ad 1)), (1, .int (nI (u)))]) C0.1 C0.2.1 d_SY_unusedPoint_50 hl rfl (nb_p1 _) (by decide) rfl (fun ls hl => ?_)
            refine lv_goto (pc := 53) (tgt := 5) C0.1 C0.2.1 d_SY_unusedPoint_53 (by decide) ?_
            exact ih_loop _ (by omega) (k - 1) (y + 1) _ _ _ rfl (by omega) (by omega) (by rw [hf2, ← pm_un3 hb hc]; exact he) (lv_sub hl [3, 4, 1, 0] rfl) hP hD hS
          · refine lv_iload (pc := 39) C0.1 C0.2.1 d_SY_unusedPoint_39 (lv_at hl 4 rfl) ?_
            rw [hc, pm_un2 hb] at he
            exact hret _ _ _ _ 41 _ (rfl) (⟨congrArg nI he, rfl⟩) hP hD hS d_SY_unusedPoint_41
  exact loop _ k0 0 _ _ _ rfl hk0 (by omega) rfl (lv_sub hl [2, 3, 1, 0] rfl) hP hD hS
set_option maxHeartbeats 4000000 in
set_option maxRecDepth 100000 in
theorem c_JI_bitCount (l : Launch) (D : va_G) (ca : Nat → ClassId) (ad : Nat → Nat) {v0 : Nat} (hv : v0 < 64) (ws0 : va_W) : mg_I l y_JI_bitCount b_JI_bitCount 1 (.int) 1 D classes (tys_ ca) [.int (nI (v0))] ws0 (fun v w => v = nI (pm_ct v0 6) ∧ w = ws0) := by
  refine mg_openI (own := R_JI) rfl (by decide) (Nat.le_of_ble_eq_true rfl) ?_
  intro p e s m args below meth c A Q ls C0 hK hA hP hD hS hl hret
  have hl : lv_has ls 1 [(0, .int (nI (v0)))] := hl
  refine lv_iload_n (pc := 0) C0.1 C0.2.1 d_JI_bitCount_0 rfl (lv_at hl 0 rfl) ?_
  refine lv_iload_n (pc := 1) C0.1 C0.2.1 d_JI_bitCount_1 rfl (lv_at hl 0 rfl) ?_
  refine lv_iconst (pc := 2) (v := nI (1)) C0.1 C0.2.1 d_JI_bitCount_2 (by decide +kernel) ?_
  refine lv_iushr (pc := 3) (v := ((nI (v0)).toUInt32 >>> ((nI (1)).toUInt32 &&& Int32.toUInt32 31)).toInt32) C0.1 C0.2.1 d_JI_bitCount_3 rfl ?_
  refine lv_ldcw (pc := 4) (v := (1431655765)) C0.1 C0.2.1 C0.2.2.2.1 (C0.2.2.2.2 _ (List.mem_cons_of_mem _ cn_JI_265)) d_JI_bitCount_4 ?_
  refine lv_iand (pc := 7) C0.1 C0.2.1 d_JI_bitCount_7 ?_
  refine lv_isub (pc := 8) C0.1 C0.2.1 d_JI_bitCount_8 ?_
  refine lv_istore_n (pc := 9) (lv' := [(0, .int ((nI (v0)) - ((((nI (v0)).toUInt32 >>> ((nI (1)).toUInt32 &&& Int32.toUInt32 31)).toInt32) &&& (1431655765))))]) C0.1 C0.2.1 d_JI_bitCount_9 rfl hl (by decide) rfl (fun ls hl => ?_)
  refine lv_iload_n (pc := 10) C0.1 C0.2.1 d_JI_bitCount_10 rfl (lv_at hl 0 rfl) ?_
  refine lv_ldcw (pc := 11) (v := (858993459)) C0.1 C0.2.1 C0.2.2.2.1 (C0.2.2.2.2 _ (List.mem_cons_of_mem _ cn_JI_266)) d_JI_bitCount_11 ?_
  refine lv_iand (pc := 14) C0.1 C0.2.1 d_JI_bitCount_14 ?_
  refine lv_iload_n (pc := 15) C0.1 C0.2.1 d_JI_bitCount_15 rfl (lv_at hl 0 rfl) ?_
  refine lv_iconst (pc := 16) (v := nI (2)) C0.1 C0.2.1 d_JI_bitCount_16 (by decide +kernel) ?_
  refine lv_iushr (pc := 17) (v := (((nI (v0)) - ((((nI (v0)).toUInt32 >>> ((nI (1)).toUInt32 &&& Int32.toUInt32 31)).toInt32) &&& (1431655765))).toUInt32 >>> ((nI (2)).toUInt32 &&& Int32.toUInt32 31)).toInt32) C0.1 C0.2.1 d_JI_bitCount_17 rfl ?_
  refine lv_ldcw (pc := 18) (v := (858993459)) C0.1 C0.2.1 C0.2.2.2.1 (C0.2.2.2.2 _ (List.mem_cons_of_mem _ cn_JI_266)) d_JI_bitCount_18 ?_
  refine lv_iand (pc := 21) C0.1 C0.2.1 d_JI_bitCount_21 ?_
  refine lv_iadd (pc := 22) C0.1 C0.2.1 d_JI_bitCount_22 ?_
  refine lv_istore_n (pc := 23) (lv' := [(0, .int ((((nI (v0)) - ((((nI (v0)).toUInt32 >>> ((nI (1)).toUInt32 &&& Int32.toUInt32 31)).toInt32) &&& (1431655765))) &&& (858993459)) + (((((nI (v0)) - ((((nI (v0)).toUInt32 >>> ((nI (1)).toUInt32 &&& Int32.toUInt32 31)).toInt32) &&& (1431655765))).toUInt32 >>> ((nI (2)).toUInt32 &&& Int32.toUInt32 31)).toInt32) &&& (858993459))))]) C0.1 C0.2.1 d_JI_bitCount_23 rfl hl (by decide) rfl (fun ls hl => ?_)
  refine lv_iload_n (pc := 24) C0.1 C0.2.1 d_JI_bitCount_24 rfl (lv_at hl 0 rfl) ?_
  refine lv_iload_n (pc := 25) C0.1 C0.2.1 d_JI_bitCount_25 rfl (lv_at hl 0 rfl) ?_
  refine lv_iconst (pc := 26) (v := nI (4)) C0.1 C0.2.1 d_JI_bitCount_26 (by decide +kernel) ?_
  refine lv_iushr (pc := 27) (v := (((((nI (v0)) - ((((nI (v0)).toUInt32 >>> ((nI (1)).toUInt32 &&& Int32.toUInt32 31)).toInt32) &&& (1431655765))) &&& (858993459)) + (((((nI (v0)) - ((((nI (v0)).toUInt32 >>> ((nI (1)).toUInt32 &&& Int32.toUInt32 31)).toInt32) &&& (1431655765))).toUInt32 >>> ((nI (2)).toUInt32 &&& Int32.toUInt32 31)).toInt32) &&& (858993459))).toUInt32 >>> ((nI (4)).toUInt32 &&& Int32.toUInt32 31)).toInt32) C0.1 C0.2.1 d_JI_bitCount_27 rfl ?_
  refine lv_iadd (pc := 28) C0.1 C0.2.1 d_JI_bitCount_28 ?_
  refine lv_ldcw (pc := 29) (v := (252645135)) C0.1 C0.2.1 C0.2.2.2.1 (C0.2.2.2.2 _ (List.mem_cons_of_mem _ cn_JI_267)) d_JI_bitCount_29 ?_
  refine lv_iand (pc := 32) C0.1 C0.2.1 d_JI_bitCount_32 ?_
  refine lv_istore_n (pc := 33) (lv' := [(0, .int ((((((nI (v0)) - ((((nI (v0)).toUInt32 >>> ((nI (1)).toUInt32 &&& Int32.toUInt32 31)).toInt32) &&& (1431655765))) &&& (858993459)) + (((((nI (v0)) - ((((nI (v0)).toUInt32 >>> ((nI (1)).toUInt32 &&& Int32.toUInt32 31)).toInt32) &&& (1431655765))).toUInt32 >>> ((nI (2)).toUInt32 &&& Int32.toUInt32 31)).toInt32) &&& (858993459))) + ((((((nI (v0)) - ((((nI (v0)).toUInt32 >>> ((nI (1)).toUInt32 &&& Int32.toUInt32 31)).toInt32) &&& (1431655765))) &&& (858993459)) + (((((nI (v0)) - ((((nI (v0)).toUInt32 >>> ((nI (1)).toUInt32 &&& Int32.toUInt32 31)).toInt32) &&& (1431655765))).toUInt32 >>> ((nI (2)).toUInt32 &&& Int32.toUInt32 31)).toInt32) &&& (858993459))).toUInt32 >>> ((nI (4)).toUInt32 &&& Int32.toUInt32 31)).toInt32)) &&& (252645135)))]) C0.1 C0.2.1 d_JI_bitCount_33 rfl hl (by decide) rfl (fun ls hl => ?_)
  refine lv_iload_n (pc := 34) C0.1 C0.2.1 d_JI_bitCount_34 rfl (lv_at hl 0 rfl) ?_
  refine lv_iload_n (pc := 35) C0.1 C0.2.1 d_JI_bitCount_35 rfl (lv_at hl 0 rfl) ?_
  refine lv_bipush (pc := 36) (v := nI (8)) C0.1 C0.2.1 d_JI_bitCount_36 (by decide +kernel) ?_
  refine lv_iushr (pc := 38) (v := (((((((nI (v0)) - ((((nI (v0)).toUInt32 >>> ((nI (1)).toUInt32 &&& Int32.toUInt32 31)).toInt32) &&& (1431655765))) &&& (858993459)) + (((((nI (v0)) - ((((nI (v0)).toUInt32 >>> ((nI (1)).toUInt32 &&& Int32.toUInt32 31)).toInt32) &&& (1431655765))).toUInt32 >>> ((nI (2)).toUInt32 &&& Int32.toUInt32 31)).toInt32) &&& (858993459))) + ((((((nI (v0)) - ((((nI (v0)).toUInt32 >>> ((nI (1)).toUInt32 &&& Int32.toUInt32 31)).toInt32) &&& (1431655765))) &&& (858993459)) + (((((nI (v0)) - ((((nI (v0)).toUInt32 >>> ((nI (1)).toUInt32 &&& Int32.toUInt32 31)).toInt32) &&& (1431655765))).toUInt32 >>> ((nI (2)).toUInt32 &&& Int32.toUInt32 31)).toInt32) &&& (858993459))).toUInt32 >>> ((nI (4)).toUInt32 &&& Int32.toUInt32 31)).toInt32)) &&& (252645135)).toUInt32 >>> ((nI (8)).toUInt32 &&& Int32.toUInt32 31)).toInt32) C0.1 C0.2.1 d_JI_bitCount_38 rfl ?_
  refine lv_iadd (pc := 39) C0.1 C0.2.1 d_JI_bitCount_39 ?_
  refine lv_istore_n (pc := 40) (lv' := [(0, .int (((((((nI (v0)) - ((((nI (v0)).toUInt32 >>> ((nI (1)).toUInt32 &&& Int32.toUInt32 31)).toInt32) &&& (1431655765))) &&& (858993459)) + (((((nI (v0)) - ((((nI (v0)).toUInt32 >>> ((nI (1)).toUInt32 &&& Int32.toUInt32 31)).toInt32) &&& (1431655765))).toUInt32 >>> ((nI (2)).toUInt32 &&& Int32.toUInt32 31)).toInt32) &&& (858993459))) + ((((((nI (v0)) - ((((nI (v0)).toUInt32 >>> ((nI (1)).toUInt32 &&& Int32.toUInt32 31)).toInt32) &&& (1431655765))) &&& (858993459)) + (((((nI (v0)) - ((((nI (v0)).toUInt32 >>> ((nI (1)).toUInt32 &&& Int32.toUInt32 31)).toInt32) &&& (1431655765))).toUInt32 >>> ((nI (2)).toUInt32 &&& Int32.toUInt32 31)).toInt32) &&& (858993459))).toUInt32 >>> ((nI (4)).toUInt32 &&& Int32.toUInt32 31)).toInt32)) &&& (252645135)) + ((((((((nI (v0)) - ((((nI (v0)).toUInt32 >>> ((nI (1)).toUInt32 &&& Int32.toUInt32 31)).toInt32) &&& (1431655765))) &&& (858993459)) + (((((nI (v0)) - ((((nI (v0)).toUInt32 >>> ((nI (1)).toUInt32 &&& Int32.toUInt32 31)).toInt32) &&& (1431655765))).toUInt32 >>> ((nI (2)).toUInt32 &&& Int32.toUInt32 31)).toInt32) &&& (858993459))) + ((((((nI (v0)) - ((((nI (v0)).toUInt32 >>> ((nI (1)).toUInt32 &&& Int32.toUInt32 31)).toInt32) &&& (1431655765))) &&& (858993459)) + (((((nI (v0)) - ((((nI (v0)).toUInt32 >>> ((nI (1)).toUInt32 &&& Int32.toUInt32 31)).toInt32) &&& (1431655765))).toUInt32 >>> ((nI (2)).toUInt32 &&& Int32.toUInt32 31)).toInt32) &&& (858993459))).toUInt32 >>> ((nI (4)).toUInt32 &&& Int32.toUInt32 31)).toInt32)) &&& (252645135)).toUInt32 >>> ((nI (8)).toUInt32 &&& Int32.toUInt32 31)).toInt32)))]) C0.1 C0.2.1 d_JI_bitCount_40 rfl hl (by decide) rfl (fun ls hl => ?_)
  refine lv_iload_n (pc := 41) C0.1 C0.2.1 d_JI_bitCount_41 rfl (lv_at hl 0 rfl) ?_
  refine lv_iload_n (pc := 42) C0.1 C0.2.1 d_JI_bitCount_42 rfl (lv_at hl 0 rfl) ?_
  refine lv_bipush (pc := 43) (v := nI (16)) C0.1 C0.2.1 d_JI_bitCount_43 (by decide +kernel) ?_
  refine lv_iushr (pc := 45) (v := ((((((((nI (v0)) - ((((nI (v0)).toUInt32 >>> ((nI (1)).toUInt32 &&& Int32.toUInt32 31)).toInt32) &&& (1431655765))) &&& (858993459)) + (((((nI (v0)) - ((((nI (v0)).toUInt32 >>> ((nI (1)).toUInt32 &&& Int32.toUInt32 31)).toInt32) &&& (1431655765))).toUInt32 >>> ((nI (2)).toUInt32 &&& Int32.toUInt32 31)).toInt32) &&& (858993459))) + ((((((nI (v0)) - ((((nI (v0)).toUInt32 >>> ((nI (1)).toUInt32 &&& Int32.toUInt32 31)).toInt32) &&& (1431655765))) &&& (858993459)) + (((((nI (v0)) - ((((nI (v0)).toUInt32 >>> ((nI (1)).toUInt32 &&& Int32.toUInt32 31)).toInt32) &&& (1431655765))).toUInt32 >>> ((nI (2)).toUInt32 &&& Int32.toUInt32 31)).toInt32) &&& (858993459))).toUInt32 >>> ((nI (4)).toUInt32 &&& Int32.toUInt32 31)).toInt32)) &&& (252645135)) + ((((((((nI (v0)) - ((((nI (v0)).toUInt32 >>> ((nI (1)).toUInt32 &&& Int32.toUInt32 31)).toInt32) &&& (1431655765))) &&& (858993459)) + (((((nI (v0)) - ((((nI (v0)).toUInt32 >>> ((nI (1)).toUInt32 &&& Int32.toUInt32 31)).toInt32) &&& (1431655765))).toUInt32 >>> ((nI (2)).toUInt32 &&& Int32.toUInt32 31)).toInt32) &&& (858993459))) + ((((((nI (v0)) - ((((nI (v0)).toUInt32 >>> ((nI (1)).toUInt32 &&& Int32.toUInt32 31)).toInt32) &&& (1431655765))) &&& (858993459)) + (((((nI (v0)) - ((((nI (v0)).toUInt32 >>> ((nI (1)).toUInt32 &&& Int32.toUInt32 31)).toInt32) &&& (1431655765))).toUInt32 >>> ((nI (2)).toUInt32 &&& Int32.toUInt32 31)).toInt32) &&& (858993459))).toUInt32 >>> ((nI (4)).toUInt32 &&& Int32.toUInt32 31)).toInt32)) &&& (252645135)).toUInt32 >>> ((nI (8)).toUInt32 &&& Int32.toUInt32 31)).toInt32)).toUInt32 >>> ((nI (16)).toUInt32 &&& Int32.toUInt32 31)).toInt32) C0.1 C0.2.1 d_JI_bitCount_45 rfl ?_
  refine lv_iadd (pc := 46) C0.1 C0.2.1 d_JI_bitCount_46 ?_
  refine lv_istore_n (pc := 47) (lv' := [(0, .int ((((((((nI (v0)) - ((((nI (v0)).toUInt32 >>> ((nI (1)).toUInt32 &&& Int32.toUInt32 31)).toInt32) &&& (1431655765))) &&& (858993459)) + (((((nI (v0)) - ((((nI (v0)).toUInt32 >>> ((nI (1)).toUInt32 &&& Int32.toUInt32 31)).toInt32) &&& (1431655765))).toUInt32 >>> ((nI (2)).toUInt32 &&& Int32.toUInt32 31)).toInt32) &&& (858993459))) + ((((((nI (v0)) - ((((nI (v0)).toUInt32 >>> ((nI (1)).toUInt32 &&& Int32.toUInt32 31)).toInt32) &&& (1431655765))) &&& (858993459)) + (((((nI (v0)) - ((((nI (v0)).toUInt32 >>> ((nI (1)).toUInt32 &&& Int32.toUInt32 31)).toInt32) &&& (1431655765))).toUInt32 >>> ((nI (2)).toUInt32 &&& Int32.toUInt32 31)).toInt32) &&& (858993459))).toUInt32 >>> ((nI (4)).toUInt32 &&& Int32.toUInt32 31)).toInt32)) &&& (252645135)) + ((((((((nI (v0)) - ((((nI (v0)).toUInt32 >>> ((nI (1)).toUInt32 &&& Int32.toUInt32 31)).toInt32) &&& (1431655765))) &&& (858993459)) + (((((nI (v0)) - ((((nI (v0)).toUInt32 >>> ((nI (1)).toUInt32 &&& Int32.toUInt32 31)).toInt32) &&& (1431655765))).toUInt32 >>> ((nI (2)).toUInt32 &&& Int32.toUInt32 31)).toInt32) &&& (858993459))) + ((((((nI (v0)) - ((((nI (v0)).toUInt32 >>> ((nI (1)).toUInt32 &&& Int32.toUInt32 31)).toInt32) &&& (1431655765))) &&& (858993459)) + (((((nI (v0)) - ((((nI (v0)).toUInt32 >>> ((nI (1)).toUInt32 &&& Int32.toUInt32 31)).toInt32) &&& (1431655765))).toUInt32 >>> ((nI (2)).toUInt32 &&& Int32.toUInt32 31)).toInt32) &&& (858993459))).toUInt32 >>> ((nI (4)).toUInt32 &&& Int32.toUInt32 31)).toInt32)) &&& (252645135)).toUInt32 >>> ((nI (8)).toUInt32 &&& Int32.toUInt32 31)).toInt32)) + (((((((((nI (v0)) - ((((nI (v0)).toUInt32 >>> ((nI (1)).toUInt32 &&& Int32.toUInt32 31)).toInt32) &&& (1431655765))) &&& (858993459)) + (((((nI (v0)) - ((((nI (v0)).toUInt32 >>> ((nI (1)).toUInt32 &&& Int32.toUInt32 31)).toInt32) &&& (1431655765))).toUInt32 >>> ((nI (2)).toUInt32 &&& Int32.toUInt32 31)).toInt32) &&& (858993459))) + ((((((nI (v0)) - ((((nI (v0)).toUInt32 >>> ((nI (1)).toUInt32 &&& Int32.toUInt32 31)).toInt32) &&& (1431655765))) &&& (858993459)) + (((((nI (v0)) - ((((nI (v0)).toUInt32 >>> ((nI (1)).toUInt32 &&& Int32.toUInt32 31)).toInt32) &&& (1431655765))).toUInt32 >>> ((nI (2)).toUInt32 &&& Int32.toUInt32 31)).toInt32) &&& (858993459))).toUInt32 >>> ((nI (4)).toUInt32 &&& Int32.toUInt32 31)).toInt32)) &&& (252645135)) + ((((((((nI (v0)) - ((((nI (v0)).toUInt32 >>> ((nI (1)).toUInt32 &&& Int32.toUInt32 31)).toInt32) &&& (1431655765))) &&& (858993459)) + (((((nI (v0)) - ((((nI (v0)).toUInt32 >>> ((nI (1)).toUInt32 &&& Int32.toUInt32 31)).toInt32) &&& (1431655765))).toUInt32 >>> ((nI (2)).toUInt32 &&& Int32.toUInt32 31)).toInt32) &&& (858993459))) + ((((((nI (v0)) - ((((nI (v0)).toUInt32 >>> ((nI (1)).toUInt32 &&& Int32.toUInt32 31)).toInt32) &&& (1431655765))) &&& (858993459)) + (((((nI (v0)) - ((((nI (v0)).toUInt32 >>> ((nI (1)).toUInt32 &&& Int32.toUInt32 31)).toInt32) &&& (1431655765))).toUInt32 >>> ((nI (2)).toUInt32 &&& Int32.toUInt32 31)).toInt32) &&& (858993459))).toUInt32 >>> ((nI (4)).toUInt32 &&& Int32.toUInt32 31)).toInt32)) &&& (252645135)).toUInt32 >>> ((nI (8)).toUInt32 &&& Int32.toUInt32 31)).toInt32)).toUInt32 >>> ((nI (16)).toUInt32 &&& Int32.toUInt32 31)).toInt32)))]) C0.1 C0.2.1 d_JI_bitCount_47 rfl hl (by decide) rfl (fun ls hl => ?_)
  refine lv_iload_n (pc := 48) C0.1 C0.2.1 d_JI_bitCount_48 rfl (lv_at hl 0 rfl) ?_
  refine lv_bipush (pc := 49) (v := nI (63)) C0.1 C0.2.1 d_JI_bitCount_49 (by decide +kernel) ?_
  refine lv_iand (pc := 51) C0.1 C0.2.1 d_JI_bitCount_51 ?_
  have key : ∀ v0, v0 < 64 → ((((((((nI (v0)) - ((((nI (v0)).toUInt32 >>> ((nI (1)).toUInt32 &&& Int32.toUInt32 31)).toInt32) &&& (1431655765))) &&& (858993459)) + (((((nI (v0)) - ((((nI (v0)).toUInt32 >>> ((nI (1)).toUInt32 &&& Int32.toUInt32 31)).toInt32) &&& (1431655765))).toUInt32 >>> ((nI (2)).toUInt32 &&& Int32.toUInt32 31)).toInt32) &&& (858993459))) + ((((((nI (v0)) - ((((nI (v0)).toUInt32 >>> ((nI (1)).toUInt32 &&& Int32.toUInt32 31)).toInt32) &&& (1431655765))) &&& (858993459)) + (((((nI (v0)) - ((((nI (v0)).toUInt32 >>> ((nI (1)).toUInt32 &&& Int32.toUInt32 31)).toInt32) &&& (1431655765))).toUInt32 >>> ((nI (2)).toUInt32 &&& Int32.toUInt32 31)).toInt32) &&& (858993459))).toUInt32 >>> ((nI (4)).toUInt32 &&& Int32.toUInt32 31)).toInt32)) &&& (252645135)) + ((((((((nI (v0)) - ((((nI (v0)).toUInt32 >>> ((nI (1)).toUInt32 &&& Int32.toUInt32 31)).toInt32) &&& (1431655765))) &&& (858993459)) + (((((nI (v0)) - ((((nI (v0)).toUInt32 >>> ((nI (1)).toUInt32 &&& Int32.toUInt32 31)).toInt32) &&& (1431655765))).toUInt32 >>> ((nI (2)).toUInt32 &&& Int32.toUInt32 31)).toInt32) &&& (858993459))) + ((((((nI (v0)) - ((((nI (v0)).toUInt32 >>> ((nI (1)).toUInt32 &&& Int32.toUInt32 31)).toInt32) &&& (1431655765))) &&& (858993459)) + (((((nI (v0)) - ((((nI (v0)).toUInt32 >>> ((nI (1)).toUInt32 &&& Int32.toUInt32 31)).toInt32) &&& (1431655765))).toUInt32 >>> ((nI (2)).toUInt32 &&& Int32.toUInt32 31)).toInt32) &&& (858993459))).toUInt32 >>> ((nI (4)).toUInt32 &&& Int32.toUInt32 31)).toInt32)) &&& (252645135)).toUInt32 >>> ((nI (8)).toUInt32 &&& Int32.toUInt32 31)).toInt32)) + (((((((((nI (v0)) - ((((nI (v0)).toUInt32 >>> ((nI (1)).toUInt32 &&& Int32.toUInt32 31)).toInt32) &&& (1431655765))) &&& (858993459)) + (((((nI (v0)) - ((((nI (v0)).toUInt32 >>> ((nI (1)).toUInt32 &&& Int32.toUInt32 31)).toInt32) &&& (1431655765))).toUInt32 >>> ((nI (2)).toUInt32 &&& Int32.toUInt32 31)).toInt32) &&& (858993459))) + ((((((nI (v0)) - ((((nI (v0)).toUInt32 >>> ((nI (1)).toUInt32 &&& Int32.toUInt32 31)).toInt32) &&& (1431655765))) &&& (858993459)) + (((((nI (v0)) - ((((nI (v0)).toUInt32 >>> ((nI (1)).toUInt32 &&& Int32.toUInt32 31)).toInt32) &&& (1431655765))).toUInt32 >>> ((nI (2)).toUInt32 &&& Int32.toUInt32 31)).toInt32) &&& (858993459))).toUInt32 >>> ((nI (4)).toUInt32 &&& Int32.toUInt32 31)).toInt32)) &&& (252645135)) + ((((((((nI (v0)) - ((((nI (v0)).toUInt32 >>> ((nI (1)).toUInt32 &&& Int32.toUInt32 31)).toInt32) &&& (1431655765))) &&& (858993459)) + (((((nI (v0)) - ((((nI (v0)).toUInt32 >>> ((nI (1)).toUInt32 &&& Int32.toUInt32 31)).toInt32) &&& (1431655765))).toUInt32 >>> ((nI (2)).toUInt32 &&& Int32.toUInt32 31)).toInt32) &&& (858993459))) + ((((((nI (v0)) - ((((nI (v0)).toUInt32 >>> ((nI (1)).toUInt32 &&& Int32.toUInt32 31)).toInt32) &&& (1431655765))) &&& (858993459)) + (((((nI (v0)) - ((((nI (v0)).toUInt32 >>> ((nI (1)).toUInt32 &&& Int32.toUInt32 31)).toInt32) &&& (1431655765))).toUInt32 >>> ((nI (2)).toUInt32 &&& Int32.toUInt32 31)).toInt32) &&& (858993459))).toUInt32 >>> ((nI (4)).toUInt32 &&& Int32.toUInt32 31)).toInt32)) &&& (252645135)).toUInt32 >>> ((nI (8)).toUInt32 &&& Int32.toUInt32 31)).toInt32)).toUInt32 >>> ((nI (16)).toUInt32 &&& Int32.toUInt32 31)).toInt32)) &&& (nI (63)) = nI (pm_ct v0 6) := by decide +kernel
  exact hret _ _ _ _ 52 _ (rfl) (⟨key v0 hv, rfl⟩) hP hD hS d_JI_bitCount_52
set_option maxHeartbeats 4000000 in
set_option maxRecDepth 100000 in
theorem c_SY_writeImages (l : Launch) (D : va_G) (ca : Nat → ClassId) (ad : Nat → Nat) {n : Nat} (h2 : 2 ≤ n) (h6 : n ≤ 6) {r : Nat} (hr : r < pm_fc n) {t0 f0 : Nat → Int32} (ws0 : va_W) (z1 : ws0[1]? = some (ad 1, .inr (1, [.int (nI (n)), .int (nI (pm_fc n)), .ref (ad 2), .ref (ad 3)]))) (z2 : ws0[2]? = some (ad 2, .inl (ca 0, pm_fc n * n, .inl (t0)))) (z3 : ws0[3]? = some (ad 3, .inl (ca 1, n, .inl (f0)))) : mg_V l y_SY_writeImages b_SY_writeImages 6 2 D classes (tys_ ca) [.ref (ad 1), .int (nI (r))] ws0 (fun w => (∀ j, j ≠ 2 ∧ j ≠ 3 → w[j]? = ws0[j]?) ∧ (∃ t : Nat → Int32, w[2]? = some (ad 2, .inl (ca 0, pm_fc n * n, .inl t)) ∧ (∀ x, x < n → t (r * n + x) = nI (pm_im n r x)) ∧ ∀ i, i < r * n → t i = t0 i) ∧ ∃ f : Nat → Int32, w[3]? = some (ad 3, .inl (ca 1, n, .inl f))) := by
  refine mg_openV (own := R_SY) rfl (by decide) (Nat.le_of_ble_eq_true rfl) ?_
  intro p e s m args below meth c A Q ls C0 hK hA hP hD hS hl hret
  have hl : lv_has ls 6 [(0, .ref (ad 1)), (1, .int (nI (r)))] := hl
  have f1 := z1
  have f2 := z2
  have f3 := z3
  have hfm : ∀ j, j ≠ 2 ∧ j ≠ 3 → ws0[j]? = ws0[j]? := fun _ _ => rfl
  have hN := pm_fc_le h6
  refine lv_iload_n (pc := 0) C0.1 C0.2.1 d_SY_writeImages_0 rfl (lv_at hl 1 rfl) ?_
  refine lv_istore_n (pc := 1) (lv' := [(2, .int (nI (r))), (0, .ref (ad 1)), (1, .int (nI (r)))]) C0.1 C0.2.1 d_SY_writeImages_1 rfl hl (by decide) rfl (fun ls hl => ?_)
  refine lv_aload_n (pc := 2) C0.1 C0.2.1 d_SY_writeImages_2 rfl (lv_at hl 1 rfl) ?_
  refine mg_get (pc := 3) C0 in_SY hK hP (1) f1 rfl 0 (by decide) fl_SY_7 rfl d_SY_writeImages_3 ?_
  refine lv_iconst (pc := 6) (v := nI (1)) C0.1 C0.2.1 d_SY_writeImages_6 (by decide +kernel) ?_
  refine lv_isub (pc := 7) C0.1 C0.2.1 d_SY_writeImages_7 ?_
  refine mg_top (show (nI (n)) - (nI (1)) = nI n - 1 from nb_ds _) ?_
  refine lv_istore_n (pc := 8) (lv' := [(3, .int (nI n - 1)), (2, .int (nI (r))), (0, .ref (ad 1)), (1, .int (nI (r)))]) C0.1 C0.2.1 d_SY_writeImages_8 rfl hl (by decide) rfl (fun ls hl => ?_)
  have loop1 : ∀ (d : Nat) (k : Nat) (f : Nat → Int32) (ws : va_W) (H : Heap) (locs : List Loc) (ls : Array Slot), k = d → (k ≤ n) → (∀ x, k ≤ x → x < n → f x = nI (pm_dg n r x)) → (∀ j, j ≠ 2 ∧ j ≠ 3 → ws[j]? = ws0[j]?) → ws[2]? = some (ad 2, .inl (ca 0, pm_fc n * n, .inl (t0))) → ws[3]? = some (ad 3, .inl (ca 1, n, .inl (f))) → lv_has ls 6 [(0, .ref (ad 1)), (1, .int (nI (r))), (2, .int (nI (r / pm_fc (n - k)))), (3, .int (nI k - 1))] → va_P D classes ws H → va_D A ws → va_S A s.heap H locs → W p l e (mg_rm 2) s m args below meth c H locs 0 0 Q (F0 m 9 ls []) := by
    intro d
    induction d using Nat.strongRecOn with
    | _ d ih_loop1 =>
      intro k f ws H locs ls hd hk hrow hfm f2 f3 hl hP hD hS
      have f1 := (hfm (1) (by omega)).trans z1
      refine lv_iload_n (pc := 9) C0.1 C0.2.1 d_SY_writeImages_9 rfl (lv_at hl 3 rfl) ?_
      refine lv_if_lt (pc := 10) (tgt := 42) C0.1 C0.2.1 d_SY_writeImages_10 (by decide) (fun hc => ?_) (fun hc => ?_)
      · have hk0 := nb_dn0 (by omega) hc
        refine lv_iconst (pc := 42) (v := nI (0)) C0.1 C0.2.1 d_SY_writeImages_42 (by decide +kernel) ?_
        refine lv_istore_n (pc := 43) (lv' := [(3, .int (nI (0))), (0, .ref (ad 1)), (1, .int (nI (r))), (2, .int (nI (r / pm_fc (n - k))))]) C0.1 C0.2.1 d_SY_writeImages_43 rfl hl (by decide) rfl (fun ls hl => ?_)
        refine lv_iconst (pc := 44) (v := nI (0)) C0.1 C0.2.1 d_SY_writeImages_44 (by decide +kernel) ?_
        refine lv_istore (pc := 45) (lv' := [(4, .int (nI (0))), (3, .int (nI (0))), (0, .ref (ad 1)), (1, .int (nI (r))), (2, .int (nI (r / pm_fc (n - k))))]) C0.1 C0.2.1 d_SY_writeImages_45 hl (by decide) rfl (fun ls hl => ?_)
        have loop2 : ∀ (d : Nat) (x : Nat) (tb : Nat → Int32) (ws : va_W) (H : Heap) (locs : List Loc) (ls : Array Slot), n - x = d → (x ≤ n) → (∀ y, y < x → tb (r * n + y) = nI (pm_im n r y)) → (∀ i, i < r * n → tb i = t0 i) → (∀ j, j ≠ 2 ∧ j ≠ 3 → ws[j]? = ws0[j]?) → ws[2]? = some (ad 2, .inl (ca 0, pm_fc n * n, .inl (tb))) → ws[3]? = some (ad 3, .inl (ca 1, n, .inl (f))) → lv_has ls 6 [(0, .ref (ad 1)), (1, .int (nI (r))), (3, .int (nI (pm_us n r x))), (4, .int (nI (x)))] → va_P D classes ws H → va_D A ws → va_S A s.heap H locs → W p l e (mg_rm 2) s m args below meth c H locs 0 0 Q (F0 m 47 ls []) := by
          intro d
          induction d using Nat.strongRecOn with
          | _ d ih_loop2 =>
            intro x tb ws H locs ls hd hx ht1 ht2 hfm f2 f3 hl hP hD hS
            have f1 := (hfm (1) (by omega)).trans z1
            refine lv_iload (pc := 47) C0.1 C0.2.1 d_SY_writeImages_47 (lv_at hl 3 rfl) ?_
            refine lv_aload_n (pc := 49) C0.1 C0.2.1 d_SY_writeImages_49 rfl (lv_at hl 0 rfl) ?_
            refine mg_get (pc := 50) C0 in_SY hK hP (1) f1 rfl 0 (by decide) fl_SY_7 rfl d_SY_writeImages_50 ?_
            refine mb_ge (pc := 53) (tgt := 100) C0 (by omega) (by omega) d_SY_writeImages_53 (by decide) (fun hc => ?_) (fun hc => ?_)
            · have hxn : x = n := by omega
              subst hxn
              exact hret _ _ _ 100 _ (⟨hfm, ⟨tb, f2, ht1, ht2⟩, f, f3⟩) hP hD hS d_SY_writeImages_100
            · refine lv_aload_n (pc := 56) C0.1 C0.2.1 d_SY_writeImages_56 rfl (lv_at hl 0 rfl) ?_
              refine lv_iload_n (pc := 57) C0.1 C0.2.1 d_SY_writeImages_57 rfl (lv_at hl 2 rfl) ?_
              refine lv_aload_n (pc := 58) C0.1 C0.2.1 d_SY_writeImages_58 rfl (lv_at hl 0 rfl) ?_
              refine mg_get (pc := 59) C0 in_SY hK hP (1) f1 rfl 3 (by decide) fl_SY_24 rfl d_SY_writeImages_59 ?_
              refine lv_iload (pc := 62) C0.1 C0.2.1 d_SY_writeImages_62 (lv_at hl 3 rfl) ?_
              refine mg_ild (pc := 64) C0 hK hP (3) 1 f3 rfl (j := x) (by omega) (by omega) d_SY_writeImages_64 ?_
              refine mg_top (show f (x) = nI (pm_dg n r x) from hrow x (by omega) (by omega)) ?_
              refine mg_ci (pc := 65) (As := [.int (nI (pm_us n r x)), .int (nI (pm_dg n r x))]) (rest := []) C0 (c_SY_unusedPoint l D ca ad h2 h6 (pm_us_64 h2 h6 hr (by omega)) (Nat.lt_trans (pm_dg_lt (by omega)) (by omega)) ws f1) lk_SY_32 (by decide) f1 rfl hK hP hD hS hA rfl hl.1 rfl (Nat.le_of_ble_eq_true rfl) d_SY_writeImages_65 (fun rv ws1 H locs hpost hP hD hS => ?_)
              obtain ⟨hr1, hw⟩ := hpost
              rw [hw] at hP hD
              refine mg_top (show rv = nI (pm_im n r x) from hr1) ?_
              have hlt := pm_lt h2 h6 hr hc
              refine lv_istore (pc := 68) (lv' := [(5, .int (nI (pm_im n r x))), (0, .ref (ad 1)), (1, .int (nI (r))), (3, .int (nI (pm_us n r x))), (4, .int (nI (x)))]) C0.1 C0.2.1 d_SY_writeImages_68 hl (by decide) rfl (fun ls hl => ?_)
              refine lv_aload_n (pc := 70) C0.1 C0.2.1 d_SY_writeImages_70 rfl (lv_at hl 1 rfl) ?_
              refine mg_get (pc := 71) C0 in_SY hK hP (1) f1 rfl 2 (by decide) fl_SY_20 rfl d_SY_writeImages_71 ?_
              refine lv_iload_n (pc := 74) C0.1 C0.2.1 d_SY_writeImages_74 rfl (lv_at hl 2 rfl) ?_
              refine lv_aload_n (pc := 75) C0.1 C0.2.1 d_SY_writeImages_75 rfl (lv_at hl 1 rfl) ?_
              refine mg_get (pc := 76) C0 in_SY hK hP (1) f1 rfl 0 (by decide) fl_SY_7 rfl d_SY_writeImages_76 ?_
              refine mn_mul (pc := 79) C0 d_SY_writeImages_79 ?_
              refine lv_iload (pc := 80) C0.1 C0.2.1 d_SY_writeImages_80 (lv_at hl 4 rfl) ?_
              refine mn_add (pc := 82) C0 d_SY_writeImages_82 ?_
              refine lv_iload (pc := 83) C0.1 C0.2.1 d_SY_writeImages_83 (lv_at hl 0 rfl) ?_
              refine lv_i2b (pc := 85) (v := nI (pm_im n r x)) C0.1 C0.2.1 d_SY_writeImages_85 (nb_b8 (by omega)) ?_
              refine mg_bst (pc := 86) C0 hK hP hD hS (2) 0 f2 rfl (j := (r * n) + x) (pm_ix hr hc) (Nat.lt_of_le_of_lt (pm_nn h6) (by decide)) d_SY_writeImages_86 (fun ws H locs hfr f2 hP hD hS => ?_)
              have f1 := (hfr (1) (by omega)).trans f1
              have f3 := (hfr (3) (by omega)).trans f3
              have hfm : ∀ j, j ≠ 2 ∧ j ≠ 3 → ws[j]? = ws0[j]? := fun j hj => (hfr j (by omega)).trans (hfm j hj)
              refine lv_iload_n (pc := 87) C0.1 C0.2.1 d_SY_writeImages_87 rfl (lv_at hl 3 rfl) ?_
              refine lv_iconst (pc := 88) (v := nI (1)) C0.1 C0.2.1 d_SY_writeImages_88 (by decide +kernel) ?_
              refine lv_iload (pc := 89) C0.1 C0.2.1 d_SY_writeImages_89 (lv_at hl 0 rfl) ?_
              refine mn_shl1 (pc := 91) C0 (by omega) d_SY_writeImages_91 ?_
              refine mn_or (pc := 92) C0 d_SY_writeImages_92 ?_
              refine lv_istore_n (pc := 93) (lv' := [(3, .int (nI ((pm_us n r x) ||| (2 ^ (pm_im n r x))))), (5, .int (nI (pm_im n r x))), (0, .ref (ad 1)), (1, .int (nI (r))), (4, .int (nI (x)))]) C0.1 C0.2.1 d_SY_writeImages_93 rfl hl (by decide) rfl (fun ls hl => ?_)
              refine lv_iinc (pc := 94) (k := 4) (v := nI (x + 1)) (lv' := [(4, .int (nI (x + 1))), (3, .int (nI ((pm_us n r x) ||| (2 ^ (pm_im n r x))))), (5, .int (nI (pm_im n r x))), (0, .ref (ad 1)), (1, .int (nI (r)))]) C0.1 C0.2.1 d_SY_writeImages_94 hl rfl (nb_p1 _) (by decide) rfl (fun ls hl => ?_)
              refine lv_goto (pc := 97) (tgt := 47) C0.1 C0.2.1 d_SY_writeImages_97 (by decide) ?_
              exact ih_loop2 _ (by omega) (x + 1) (upd tb ((r * n) + x) (vp_nar .byte (nI (pm_im n r x)))) _ _ _ _ rfl (by omega) (fun y hy => by
                by_cases e : y = x
                · subst e
                  rw [pk_us, vp_nar_byte]
                  exact nb_b8 (by omega)
                · rw [pk_un (by omega)]
                  exact ht1 y (by omega)) (fun i hi => by
                rw [pk_un (by omega)]
                exact ht2 i hi) hfm f2 f3 (lv_sub hl [3, 4, 1, 0] rfl) hP hD hS
        exact loop2 _ 0 t0 _ _ _ _ rfl (by omega) (fun y hy => absurd hy (by omega)) (fun i hi => rfl) hfm f2 f3 (lv_sub hl [2, 3, 1, 0] rfl) hP hD hS
      · have hkp : 0 < k := by
          rcases Nat.eq_zero_or_pos k with h | h
          · subst h; exact absurd hc nb_dnz
          · exact h
        rw [nb_dn1 hkp] at hl
        refine lv_aload_n (pc := 13) C0.1 C0.2.1 d_SY_writeImages_13 rfl (lv_at hl 0 rfl) ?_
        refine mg_get (pc := 14) C0 in_SY hK hP (1) f1 rfl 3 (by decide) fl_SY_24 rfl d_SY_writeImages_14 ?_
        refine lv_iload_n (pc := 17) C0.1 C0.2.1 d_SY_writeImages_17 rfl (lv_at hl 3 rfl) ?_
        refine lv_iload_n (pc := 18) C0.1 C0.2.1 d_SY_writeImages_18 rfl (lv_at hl 2 rfl) ?_
        refine lv_aload_n (pc := 19) C0.1 C0.2.1 d_SY_writeImages_19 rfl (lv_at hl 0 rfl) ?_
        refine mg_get (pc := 20) C0 in_SY hK hP (1) f1 rfl 0 (by decide) fl_SY_7 rfl d_SY_writeImages_20 ?_
        refine lv_iload_n (pc := 23) C0.1 C0.2.1 d_SY_writeImages_23 rfl (lv_at hl 3 rfl) ?_
        refine mn_sub (pc := 24) C0 (by omega) d_SY_writeImages_24 ?_
        refine mn_rem (pc := 25) C0 (Nat.lt_of_le_of_lt (Nat.div_le_self _ _) (by omega)) (by omega) (by omega) d_SY_writeImages_25 ?_
        refine mg_ist (pc := 26) C0 hK hP hD hS (3) 1 f3 rfl (j := k - 1) (by omega) (by omega) d_SY_writeImages_26 (fun ws H locs hfr f3 hP hD hS => ?_)
        have f1 := (hfr (1) (by omega)).trans f1
        have f2 := (hfr (2) (by omega)).trans f2
        have hfm : ∀ j, j ≠ 2 ∧ j ≠ 3 → ws[j]? = ws0[j]? := fun j hj => (hfr j (by omega)).trans (hfm j hj)
        refine lv_iload_n (pc := 27) C0.1 C0.2.1 d_SY_writeImages_27 rfl (lv_at hl 2 rfl) ?_
        refine lv_aload_n (pc := 28) C0.1 C0.2.1 d_SY_writeImages_28 rfl (lv_at hl 0 rfl) ?_
        refine mg_get (pc := 29) C0 in_SY hK hP (1) f1 rfl 0 (by decide) fl_SY_7 rfl d_SY_writeImages_29 ?_
        refine lv_iload_n (pc := 32) C0.1 C0.2.1 d_SY_writeImages_32 rfl (lv_at hl 3 rfl) ?_
        refine mn_sub (pc := 33) C0 (by omega) d_SY_writeImages_33 ?_
        refine mn_div (pc := 34) C0 (Nat.lt_of_le_of_lt (Nat.div_le_self _ _) (by omega)) (by omega) (by omega) d_SY_writeImages_34 ?_
        refine mg_top (show nI ((r / pm_fc (n - k)) / (n - (k - 1))) = nI (r / pm_fc (n - (k - 1))) from congrArg nI (wi_2 hkp hk)) ?_
        refine lv_istore_n (pc := 35) (lv' := [(2, .int (nI (r / pm_fc (n - (k - 1))))), (0, .ref (ad 1)), (1, .int (nI (r))), (3, .int (nI (k - 1)))]) C0.1 C0.2.1 d_SY_writeImages_35 rfl hl (by decide) rfl (fun ls hl => ?_)
        refine lv_iinc (pc := 36) (k := 3) (v := nI (k - 1) - 1) (lv' := [(3, .int (nI (k - 1) - 1)), (2, .int (nI (r / pm_fc (n - (k - 1))))), (0, .ref (ad 1)), (1, .int (nI (r)))]) C0.1 C0.2.1 d_SY_writeImages_36 hl rfl (nb_dm _) (by decide) rfl (fun ls hl => ?_)
        refine lv_goto (pc := 39) (tgt := 9) C0.1 C0.2.1 d_SY_writeImages_39 (by decide) ?_
        exact ih_loop1 _ (by omega) (k - 1) (upd f (k - 1) (nI ((r / pm_fc (n - k)) % (n - (k - 1))))) _ _ _ _ rfl (by omega) (wi_1 hkp hk hrow) hfm f2 f3 (lv_sub hl [2, 3, 1, 0] rfl) hP hD hS
  exact loop1 _ n f0 _ _ _ _ rfl (by omega) (fun x h1 h3 => absurd h1 (by omega)) hfm f2 f3 (by rw [Nat.sub_self, show pm_fc 0 = 1 from rfl, Nat.div_one]; exact lv_sub hl [2, 3, 1, 0] rfl) hP hD hS
set_option maxHeartbeats 4000000 in
set_option maxRecDepth 100000 in
theorem c_SY_rankOf (l : Launch) (D : va_G) (ca : Nat → ClassId) (ad : Nat → Nat) {n : Nat} (h2 : 2 ≤ n) (h6 : n ≤ 6) {q : Nat} {g : Nat → Int32} {F : Nat → Nat} (hg : ∀ x, x < n → g x = nI (F x)) (hF : ∀ x, x < n → F x < n) (ws0 : va_W) (z1 : ws0[1]? = some (ad 1, .inr (1, [.int (nI (n)), .int (nI (pm_fc n)), .ref (ad 2), .ref (ad 3)]))) (zq : ws0[q]? = some (ad q, .inl (ca 1, n, .inl (g)))) : mg_I l y_SY_rankOf b_SY_rankOf 7 (.int) 2 D classes (tys_ ca) [.ref (ad 1), .ref (ad q)] ws0 (fun v w => v = nI (pm_rk n F) ∧ w = ws0) := by
  refine mg_openI (own := R_SY) rfl (by decide) (Nat.le_of_ble_eq_true rfl) ?_
  intro p e s m args below meth c A Q ls C0 hK hA hP hD hS hl hret
  have hl : lv_has ls 7 [(0, .ref (ad 1)), (1, .ref (ad q))] := hl
  have f1 := z1
  have fq := zq
  refine lv_iconst (pc := 0) (v := nI (0)) C0.1 C0.2.1 d_SY_rankOf_0 (by decide +kernel) ?_
  refine lv_istore_n (pc := 1) (lv' := [(2, .int (nI (0))), (0, .ref (ad 1)), (1, .ref (ad q))]) C0.1 C0.2.1 d_SY_rankOf_1 rfl hl (by decide) rfl (fun ls hl => ?_)
  refine lv_iconst (pc := 2) (v := nI (0)) C0.1 C0.2.1 d_SY_rankOf_2 (by decide +kernel) ?_
  refine lv_istore_n (pc := 3) (lv' := [(3, .int (nI (0))), (2, .int (nI (0))), (0, .ref (ad 1)), (1, .ref (ad q))]) C0.1 C0.2.1 d_SY_rankOf_3 rfl hl (by decide) rfl (fun ls hl => ?_)
  refine lv_iconst (pc := 4) (v := nI (0)) C0.1 C0.2.1 d_SY_rankOf_4 (by decide +kernel) ?_
  refine lv_istore (pc := 5) (lv' := [(4, .int (nI (0))), (3, .int (nI (0))), (2, .int (nI (0))), (0, .ref (ad 1)), (1, .ref (ad q))]) C0.1 C0.2.1 d_SY_rankOf_5 hl (by decide) rfl (fun ls hl => ?_)
  have loop : ∀ (d : Nat) (x : Nat) (H : Heap) (locs : List Loc) (ls : Array Slot), n - x = d → (x ≤ n) → lv_has ls 7 [(0, .ref (ad 1)), (1, .ref (ad q)), (2, .int (nI (pm_rr n F x))), (3, .int (nI (pm_ru F x))), (4, .int (nI (x)))] → va_P D classes ws0 H → va_D A ws0 → va_S A s.heap H locs → W p l e (mg_rm 2) s m args below meth c H locs 0 0 Q (F0 m 7 ls []) := by
    intro d
    induction d using Nat.strongRecOn with
    | _ d ih_loop =>
      intro x H locs ls hd hx hl hP hD hS
      refine lv_iload (pc := 7) C0.1 C0.2.1 d_SY_rankOf_7 (lv_at hl 4 rfl) ?_
      refine lv_aload_n (pc := 9) C0.1 C0.2.1 d_SY_rankOf_9 rfl (lv_at hl 0 rfl) ?_
      refine mg_get (pc := 10) C0 in_SY hK hP (1) f1 rfl 0 (by decide) fl_SY_7 rfl d_SY_rankOf_10 ?_
      refine mb_ge (pc := 13) (tgt := 64) C0 (by omega) (by omega) d_SY_rankOf_13 (by decide) (fun hc => ?_) (fun hc => ?_)
      · have hxn : x = n := by omega
        subst hxn
        refine lv_iload_n (pc := 64) C0.1 C0.2.1 d_SY_rankOf_64 rfl (lv_at hl 2 rfl) ?_
        exact hret _ _ _ _ 65 _ (rfl) (⟨rfl, rfl⟩) hP hD hS d_SY_rankOf_65
      · have hFx := hF x hc
        have hru := pm_ru_64 h6 hF hx
        refine lv_aload_n (pc := 16) C0.1 C0.2.1 d_SY_rankOf_16 rfl (lv_at hl 1 rfl) ?_
        refine lv_iload (pc := 17) C0.1 C0.2.1 d_SY_rankOf_17 (lv_at hl 4 rfl) ?_
        refine mg_ild (pc := 19) C0 hK hP (q) 1 fq rfl (j := x) (by omega) (by omega) d_SY_rankOf_19 ?_
        refine mg_top (show g (x) = nI (F x) from hg x hc) ?_
        refine lv_istore (pc := 20) (lv' := [(5, .int (nI (F x))), (0, .ref (ad 1)), (1, .ref (ad q)), (2, .int (nI (pm_rr n F x))), (3, .int (nI (pm_ru F x))), (4, .int (nI (x)))]) C0.1 C0.2.1 d_SY_rankOf_20 hl (by decide) rfl (fun ls hl => ?_)
        refine lv_iload_n (pc := 22) C0.1 C0.2.1 d_SY_rankOf_22 rfl (lv_at hl 4 rfl) ?_
        refine lv_iconst (pc := 23) (v := nI (1)) C0.1 C0.2.1 d_SY_rankOf_23 (by decide +kernel) ?_
        refine lv_iload (pc := 24) C0.1 C0.2.1 d_SY_rankOf_24 (lv_at hl 0 rfl) ?_
        refine mn_shl1 (pc := 26) C0 (by omega) d_SY_rankOf_26 ?_
        refine lv_iconst (pc := 27) (v := nI (1)) C0.1 C0.2.1 d_SY_rankOf_27 (by decide +kernel) ?_
        refine mn_sub (pc := 28) C0 (Nat.two_pow_pos _) d_SY_rankOf_28 ?_
        refine mn_and (pc := 29) C0 d_SY_rankOf_29 ?_
        refine mg_si (pc := 30) (As := [.int (nI ((pm_ru F x) &&& ((2 ^ (F x)) - 1)))]) (rest := []) C0 (c_JI_bitCount l D ca ad (Nat.lt_of_le_of_lt Nat.and_le_left hru) ws0) lk_SY_36 (by decide) hK hP hD hS hA rfl hl.1 rfl (Nat.le_of_ble_eq_true rfl) d_SY_rankOf_30 (fun rv ws1 H locs hpost hP hD hS => ?_)
        obtain ⟨hr1, hw⟩ := hpost
        rw [hw] at hP hD
        refine mg_top (show rv = nI (pm_ct (pm_ru F x) (F x)) from hr1.trans (congrArg nI (pm_bc hru (by omega)))) ?_
        refine lv_istore (pc := 33) (lv' := [(6, .int (nI (pm_ct (pm_ru F x) (F x)))), (5, .int (nI (F x))), (0, .ref (ad 1)), (1, .ref (ad q)), (2, .int (nI (pm_rr n F x))), (3, .int (nI (pm_ru F x))), (4, .int (nI (x)))]) C0.1 C0.2.1 d_SY_rankOf_33 hl (by decide) rfl (fun ls hl => ?_)
        refine lv_iload_n (pc := 35) C0.1 C0.2.1 d_SY_rankOf_35 rfl (lv_at hl 4 rfl) ?_
        refine lv_aload_n (pc := 36) C0.1 C0.2.1 d_SY_rankOf_36 rfl (lv_at hl 2 rfl) ?_
        refine mg_get (pc := 37) C0 in_SY hK hP (1) f1 rfl 0 (by decide) fl_SY_7 rfl d_SY_rankOf_37 ?_
        refine lv_iload (pc := 40) C0.1 C0.2.1 d_SY_rankOf_40 (lv_at hl 6 rfl) ?_
        refine mn_sub (pc := 42) C0 (by omega) d_SY_rankOf_42 ?_
        refine mn_mul (pc := 43) C0 d_SY_rankOf_43 ?_
        refine lv_iload (pc := 44) C0.1 C0.2.1 d_SY_rankOf_44 (lv_at hl 1 rfl) ?_
        refine mn_add (pc := 46) C0 d_SY_rankOf_46 ?_
        refine lv_iload (pc := 47) C0.1 C0.2.1 d_SY_rankOf_47 (lv_at hl 0 rfl) ?_
        refine mn_sub (pc := 49) C0 (Nat.le_trans (pm_ct_le _ _) (Nat.le_add_left _ _)) d_SY_rankOf_49 ?_
        refine lv_istore_n (pc := 50) (lv' := [(2, .int (nI ((((pm_rr n F x) * (n - x)) + (F x)) - (pm_ct (pm_ru F x) (F x))))), (6, .int (nI (pm_ct (pm_ru F x) (F x)))), (5, .int (nI (F x))), (0, .ref (ad 1)), (1, .ref (ad q)), (3, .int (nI (pm_ru F x))), (4, .int (nI (x)))]) C0.1 C0.2.1 d_SY_rankOf_50 rfl hl (by decide) rfl (fun ls hl => ?_)
        refine lv_iload_n (pc := 51) C0.1 C0.2.1 d_SY_rankOf_51 rfl (lv_at hl 5 rfl) ?_
        refine lv_iconst (pc := 52) (v := nI (1)) C0.1 C0.2.1 d_SY_rankOf_52 (by decide +kernel) ?_
        refine lv_iload (pc := 53) C0.1 C0.2.1 d_SY_rankOf_53 (lv_at hl 2 rfl) ?_
        refine mn_shl1 (pc := 55) C0 (by omega) d_SY_rankOf_55 ?_
        refine mn_or (pc := 56) C0 d_SY_rankOf_56 ?_
        refine lv_istore_n (pc := 57) (lv' := [(3, .int (nI ((pm_ru F x) ||| (2 ^ (F x))))), (2, .int (nI ((((pm_rr n F x) * (n - x)) + (F x)) - (pm_ct (pm_ru F x) (F x))))), (6, .int (nI (pm_ct (pm_ru F x) (F x)))), (5, .int (nI (F x))), (0, .ref (ad 1)), (1, .ref (ad q)), (4, .int (nI (x)))]) C0.1 C0.2.1 d_SY_rankOf_57 rfl hl (by decide) rfl (fun ls hl => ?_)
        refine lv_iinc (pc := 58) (k := 6) (v := nI (x + 1)) (lv' := [(4, .int (nI (x + 1))), (3, .int (nI ((pm_ru F x) ||| (2 ^ (F x))))), (2, .int (nI ((((pm_rr n F x) * (n - x)) + (F x)) - (pm_ct (pm_ru F x) (F x))))), (6, .int (nI (pm_ct (pm_ru F x) (F x)))), (5, .int (nI (F x))), (0, .ref (ad 1)), (1, .ref (ad q))]) C0.1 C0.2.1 d_SY_rankOf_58 hl rfl (nb_p1 _) (by decide) rfl (fun ls hl => ?_)
        refine lv_goto (pc := 61) (tgt := 7) C0.1 C0.2.1 d_SY_rankOf_61 (by decide) ?_
        exact ih_loop _ (by omega) (x + 1) _ _ _ rfl (by omega) (lv_sub hl [5, 6, 2, 1, 0] rfl) hP hD hS
  exact loop _ 0 _ _ _ rfl (by omega) (lv_sub hl [3, 4, 2, 1, 0] rfl) hP hD hS
set_option maxHeartbeats 4000000 in
set_option maxRecDepth 100000 in
theorem c_SY_image (l : Launch) (D : va_G) (ca : Nat → ClassId) (ad : Nat → Nat) {n : Nat} (h2 : 2 ≤ n) (h6 : n ≤ 6) {r x : Nat} (hr : r < pm_fc n) (hx : x < n) (ws0 : va_W) (hsy : sy_ok ca ad n ws0) : mg_I l y_SY_image b_SY_image 3 (.int) 1 D classes (tys_ ca) [.ref (ad 1), .int (nI (r)), .int (nI (x))] ws0 (fun v w => v = nI (pm_im n r x) ∧ w = ws0) := by
  obtain ⟨z1, ⟨t, z2, ht⟩, -⟩ := hsy
  refine mg_openI (own := R_SY) rfl (by decide) (Nat.le_of_ble_eq_true rfl) ?_
  intro p e s m args below meth c A Q ls C0 hK hA hP hD hS hl hret
  have hl : lv_has ls 3 [(0, .ref (ad 1)), (1, .int (nI (r))), (2, .int (nI (x)))] := hl
  have f1 := z1
  have f2 := z2
  refine lv_aload_n (pc := 0) C0.1 C0.2.1 d_SY_image_0 rfl (lv_at hl 0 rfl) ?_
  refine mg_get (pc := 1) C0 in_SY hK hP (1) f1 rfl 2 (by decide) fl_SY_20 rfl d_SY_image_1 ?_
  refine lv_iload_n (pc := 4) C0.1 C0.2.1 d_SY_image_4 rfl (lv_at hl 1 rfl) ?_
  refine lv_aload_n (pc := 5) C0.1 C0.2.1 d_SY_image_5 rfl (lv_at hl 0 rfl) ?_
  refine mg_get (pc := 6) C0 in_SY hK hP (1) f1 rfl 0 (by decide) fl_SY_7 rfl d_SY_image_6 ?_
  refine mn_mul (pc := 9) C0 d_SY_image_9 ?_
  refine lv_iload_n (pc := 10) C0.1 C0.2.1 d_SY_image_10 rfl (lv_at hl 2 rfl) ?_
  refine mn_add (pc := 11) C0 d_SY_image_11 ?_
  refine mg_bld (pc := 12) C0 hK hP (2) 0 f2 rfl (j := (r * n) + x) (pm_ix hr hx) (Nat.lt_of_le_of_lt (pm_nn h6) (by decide)) d_SY_image_12 ?_
  refine mg_top (show t ((r * n) + x) = nI (pm_im n r x) from ht r x hr hx) ?_
  exact hret _ _ _ _ 13 _ (rfl) (⟨rfl, rfl⟩) hP hD hS d_SY_image_13
set_option maxHeartbeats 4000000 in
set_option maxRecDepth 100000 in
theorem c_SY_multiply (l : Launch) (D : va_G) (ca : Nat → ClassId) (ad : Nat → Nat) {n : Nat} (h2 : 2 ≤ n) (h6 : n ≤ 6) {a b : Nat} (ha : a < pm_fc n) (hb : b < pm_fc n) (ws0 : va_W) (hsy : sy_ok ca ad n ws0) : mg_I l y_SY_multiply b_SY_multiply 6 (.int) 3 D classes (tys_ ca) [.ref (ad 1), .int (nI (a)), .int (nI (b))] ws0 (fun v w => v = nI (pm_mu n a b) ∧ (∀ j, j ≠ 3 → w[j]? = ws0[j]?) ∧ sy_ok ca ad n w) := by
  have hsy0 := hsy
  obtain ⟨z1, ⟨t, z2, ht⟩, f0, z3⟩ := hsy
  have hN := pm_fc_le h6
  refine mg_openI (own := R_SY) rfl (by decide) (Nat.le_of_ble_eq_true rfl) ?_
  intro p e s m args below meth c A Q ls C0 hK hA hP hD hS hl hret
  have hl : lv_has ls 6 [(0, .ref (ad 1)), (1, .int (nI (a))), (2, .int (nI (b)))] := hl
  have f1 := z1
  have f2 := z2
  have f3 := z3
  have hfm : ∀ j, j ≠ 3 → ws0[j]? = ws0[j]? := fun _ _ => rfl
  refine lv_iload_n (pc := 0) C0.1 C0.2.1 d_SY_multiply_0 rfl (lv_at hl 1 rfl) ?_
  refine lv_aload_n (pc := 1) C0.1 C0.2.1 d_SY_multiply_1 rfl (lv_at hl 0 rfl) ?_
  refine mg_get (pc := 2) C0 in_SY hK hP (1) f1 rfl 0 (by decide) fl_SY_7 rfl d_SY_multiply_2 ?_
  refine mn_mul (pc := 5) C0 d_SY_multiply_5 ?_
  refine lv_istore_n (pc := 6) (lv' := [(3, .int (nI (a * n))), (0, .ref (ad 1)), (1, .int (nI (a))), (2, .int (nI (b)))]) C0.1 C0.2.1 d_SY_multiply_6 rfl hl (by decide) rfl (fun ls hl => ?_)
  refine lv_iload_n (pc := 7) C0.1 C0.2.1 d_SY_multiply_7 rfl (lv_at hl 3 rfl) ?_
  refine lv_aload_n (pc := 8) C0.1 C0.2.1 d_SY_multiply_8 rfl (lv_at hl 1 rfl) ?_
  refine mg_get (pc := 9) C0 in_SY hK hP (1) f1 rfl 0 (by decide) fl_SY_7 rfl d_SY_multiply_9 ?_
  refine mn_mul (pc := 12) C0 d_SY_multiply_12 ?_
  refine lv_istore (pc := 13) (lv' := [(4, .int (nI (b * n))), (3, .int (nI (a * n))), (0, .ref (ad 1)), (1, .int (nI (a))), (2, .int (nI (b)))]) C0.1 C0.2.1 d_SY_multiply_13 hl (by decide) rfl (fun ls hl => ?_)
  refine lv_iconst (pc := 15) (v := nI (0)) C0.1 C0.2.1 d_SY_multiply_15 (by decide +kernel) ?_
  refine lv_istore (pc := 16) (lv' := [(5, .int (nI (0))), (4, .int (nI (b * n))), (3, .int (nI (a * n))), (0, .ref (ad 1)), (1, .int (nI (a))), (2, .int (nI (b)))]) C0.1 C0.2.1 d_SY_multiply_16 hl (by decide) rfl (fun ls hl => ?_)
  have loop : ∀ (d : Nat) (x : Nat) (f : Nat → Int32) (ws : va_W) (H : Heap) (locs : List Loc) (ls : Array Slot), n - x = d → (x ≤ n) → (∀ y, y < x → f y = nI (pm_im n b (pm_im n a y))) → (∀ j, j ≠ 3 → ws[j]? = ws0[j]?) → ws[3]? = some (ad 3, .inl (ca 1, n, .inl (f))) → lv_has ls 6 [(0, .ref (ad 1)), (3, .int (nI (a * n))), (4, .int (nI (b * n))), (5, .int (nI (x)))] → va_P D classes ws H → va_D A ws → va_S A s.heap H locs → W p l e (mg_rm 3) s m args below meth c H locs 0 0 Q (F0 m 18 ls []) := by
    intro d
    induction d using Nat.strongRecOn with
    | _ d ih_loop =>
      intro x f ws H locs ls hd hx hf hfm f3 hl hP hD hS
      have f1 := (hfm (1) (by omega)).trans z1
      have f2 := (hfm (2) (by omega)).trans z2
      refine lv_iload (pc := 18) C0.1 C0.2.1 d_SY_multiply_18 (lv_at hl 3 rfl) ?_
      refine lv_aload_n (pc := 20) C0.1 C0.2.1 d_SY_multiply_20 rfl (lv_at hl 0 rfl) ?_
      refine mg_get (pc := 21) C0 in_SY hK hP (1) f1 rfl 0 (by decide) fl_SY_7 rfl d_SY_multiply_21 ?_
      refine mb_ge (pc := 24) (tgt := 57) C0 (by omega) (by omega) d_SY_multiply_24 (by decide) (fun hc => ?_) (fun hc => ?_)
      · have hxn : x = n := by omega
        subst hxn
        refine lv_aload_n (pc := 57) C0.1 C0.2.1 d_SY_multiply_57 rfl (lv_at hl 0 rfl) ?_
        refine lv_aload_n (pc := 58) C0.1 C0.2.1 d_SY_multiply_58 rfl (lv_at hl 0 rfl) ?_
        refine mg_get (pc := 59) C0 in_SY hK hP (1) f1 rfl 3 (by decide) fl_SY_24 rfl d_SY_multiply_59 ?_
        refine mg_ci (pc := 62) (As := [.ref (ad 3)]) (rest := []) C0 (c_SY_rankOf l D ca ad h2 h6 (q := 3) (F := fun y => pm_im x b (pm_im x a y)) hf (fun y hy => pm_lt h2 h6 hb (pm_lt h2 h6 ha hy)) ws f1 f3) lk_SY_41 (by decide) f1 rfl hK hP hD hS hA rfl hl.1 rfl (Nat.le_of_ble_eq_true rfl) d_SY_multiply_62 (fun rv ws1 H locs hpost hP hD hS => ?_)
        obtain ⟨hr1, hw⟩ := hpost
        rw [hw] at hP hD
        exact hret _ _ _ _ 65 _ (rfl) (⟨hr1, hfm, sy_row (hfm 1 (by omega)) (hfm 2 (by omega)) f3 hsy0⟩) hP hD hS d_SY_multiply_65
      · refine lv_aload_n (pc := 27) C0.1 C0.2.1 d_SY_multiply_27 rfl (lv_at hl 0 rfl) ?_
        refine mg_get (pc := 28) C0 in_SY hK hP (1) f1 rfl 3 (by decide) fl_SY_24 rfl d_SY_multiply_28 ?_
        refine lv_iload (pc := 31) C0.1 C0.2.1 d_SY_multiply_31 (lv_at hl 3 rfl) ?_
        refine lv_aload_n (pc := 33) C0.1 C0.2.1 d_SY_multiply_33 rfl (lv_at hl 0 rfl) ?_
        refine mg_get (pc := 34) C0 in_SY hK hP (1) f1 rfl 2 (by decide) fl_SY_20 rfl d_SY_multiply_34 ?_
        refine lv_iload (pc := 37) C0.1 C0.2.1 d_SY_multiply_37 (lv_at hl 2 rfl) ?_
        refine lv_aload_n (pc := 39) C0.1 C0.2.1 d_SY_multiply_39 rfl (lv_at hl 0 rfl) ?_
        refine mg_get (pc := 40) C0 in_SY hK hP (1) f1 rfl 2 (by decide) fl_SY_20 rfl d_SY_multiply_40 ?_
        refine lv_iload_n (pc := 43) C0.1 C0.2.1 d_SY_multiply_43 rfl (lv_at hl 1 rfl) ?_
        refine lv_iload (pc := 44) C0.1 C0.2.1 d_SY_multiply_44 (lv_at hl 3 rfl) ?_
        refine mn_add (pc := 46) C0 d_SY_multiply_46 ?_
        refine mg_bld (pc := 47) C0 hK hP (2) 0 f2 rfl (j := (a * n) + x) (pm_ix ha hc) (Nat.lt_of_le_of_lt (pm_nn h6) (by decide)) d_SY_multiply_47 ?_
        refine mg_top (show t ((a * n) + x) = nI (pm_im n a x) from ht a x ha hc) ?_
        refine mn_add (pc := 48) C0 d_SY_multiply_48 ?_
        refine mg_bld (pc := 49) C0 hK hP (2) 0 f2 rfl (j := (b * n) + (pm_im n a x)) (pm_ix hb (pm_lt h2 h6 ha hc)) (Nat.lt_of_le_of_lt (pm_nn h6) (by decide)) d_SY_multiply_49 ?_
        refine mg_top (show t ((b * n) + (pm_im n a x)) = nI (pm_im n b (pm_im n a x)) from ht b _ hb (pm_lt h2 h6 ha hc)) ?_
        refine mg_ist (pc := 50) C0 hK hP hD hS (3) 1 f3 rfl (j := x) (by omega) (by omega) d_SY_multiply_50 (fun ws H locs hfr f3 hP hD hS => ?_)
        have f1 := (hfr (1) (by omega)).trans f1
        have f2 := (hfr (2) (by omega)).trans f2
        have hfm : ∀ j, j ≠ 3 → ws[j]? = ws0[j]? := fun j hj => (hfr j (by omega)).trans (hfm j hj)
        refine lv_iinc (pc := 51) (k := 3) (v := nI (x + 1)) (lv' := [(5, .int (nI (x + 1))), (0, .ref (ad 1)), (3, .int (nI (a * n))), (4, .int (nI (b * n)))]) C0.1 C0.2.1 d_SY_multiply_51 hl rfl (nb_p1 _) (by decide) rfl (fun ls hl => ?_)
        refine lv_goto (pc := 54) (tgt := 18) C0.1 C0.2.1 d_SY_multiply_54 (by decide) ?_
        exact ih_loop _ (by omega) (x + 1) (upd f (x) (nI (pm_im n b (pm_im n a x)))) _ _ _ _ rfl (by omega) (fun y hy => by
          by_cases e : y = x
          · subst e; exact pk_us
          · rw [pk_un e]; exact hf y (by omega)) hfm f3 (lv_sub hl [1, 2, 3, 0] rfl) hP hD hS
  exact loop _ 0 f0 _ _ _ _ rfl (by omega) (fun y hy => absurd hy (by omega)) hfm f3 (lv_sub hl [3, 2, 1, 0] rfl) hP hD hS
set_option maxHeartbeats 4000000 in
set_option maxRecDepth 100000 in
theorem c_SY_invert (l : Launch) (D : va_G) (ca : Nat → ClassId) (ad : Nat → Nat) {n : Nat} (h2 : 2 ≤ n) (h6 : n ≤ 6) {a : Nat} (ha : a < pm_fc n) (ws0 : va_W) (hsy : sy_ok ca ad n ws0) : mg_I l y_SY_invert b_SY_invert 3 (.int) 3 D classes (tys_ ca) [.ref (ad 1), .int (nI (a))] ws0 (fun v w => v = nI (pm_iv n a) ∧ (∀ j, j ≠ 3 → w[j]? = ws0[j]?) ∧ sy_ok ca ad n w) := by
  have hsy0 := hsy
  obtain ⟨z1, ⟨t, z2, ht⟩, f0, z3⟩ := hsy
  have hN := pm_fc_le h6
  refine mg_openI (own := R_SY) rfl (by decide) (Nat.le_of_ble_eq_true rfl) ?_
  intro p e s m args below meth c A Q ls C0 hK hA hP hD hS hl hret
  have hl : lv_has ls 3 [(0, .ref (ad 1)), (1, .int (nI (a)))] := hl
  have f1 := z1
  have f2 := z2
  have f3 := z3
  have hfm : ∀ j, j ≠ 3 → ws0[j]? = ws0[j]? := fun _ _ => rfl
  refine lv_iconst (pc := 0) (v := nI (0)) C0.1 C0.2.1 d_SY_invert_0 (by decide +kernel) ?_
  refine lv_istore_n (pc := 1) (lv' := [(2, .int (nI (0))), (0, .ref (ad 1)), (1, .int (nI (a)))]) C0.1 C0.2.1 d_SY_invert_1 rfl hl (by decide) rfl (fun ls hl => ?_)
  have loop : ∀ (d : Nat) (x : Nat) (f : Nat → Int32) (ws : va_W) (H : Heap) (locs : List Loc) (ls : Array Slot), n - x = d → (x ≤ n) → (∀ y, y < x → f (pm_im n a y) = nI y) → (∀ j, j ≠ 3 → ws[j]? = ws0[j]?) → ws[3]? = some (ad 3, .inl (ca 1, n, .inl (f))) → lv_has ls 3 [(0, .ref (ad 1)), (1, .int (nI (a))), (2, .int (nI (x)))] → va_P D classes ws H → va_D A ws → va_S A s.heap H locs → W p l e (mg_rm 3) s m args below meth c H locs 0 0 Q (F0 m 2 ls []) := by
    intro d
    induction d using Nat.strongRecOn with
    | _ d ih_loop =>
      intro x f ws H locs ls hd hx hf hfm f3 hl hP hD hS
      have f1 := (hfm (1) (by omega)).trans z1
      have f2 := (hfm (2) (by omega)).trans z2
      refine lv_iload_n (pc := 2) C0.1 C0.2.1 d_SY_invert_2 rfl (lv_at hl 2 rfl) ?_
      refine lv_aload_n (pc := 3) C0.1 C0.2.1 d_SY_invert_3 rfl (lv_at hl 0 rfl) ?_
      refine mg_get (pc := 4) C0 in_SY hK hP (1) f1 rfl 0 (by decide) fl_SY_7 rfl d_SY_invert_4 ?_
      refine mb_ge (pc := 7) (tgt := 28) C0 (by omega) (by omega) d_SY_invert_7 (by decide) (fun hc => ?_) (fun hc => ?_)
      · have hxn : x = n := by omega
        subst hxn
        have hg : ∀ y, y < x → f y = nI (pm_ii x a y) := fun y hy => by
          have h := hf _ (pm_ii_lt h2 h6 ha hy)
          rwa [pm_im_ii h2 h6 ha hy] at h
        refine lv_aload_n (pc := 28) C0.1 C0.2.1 d_SY_invert_28 rfl (lv_at hl 0 rfl) ?_
        refine lv_aload_n (pc := 29) C0.1 C0.2.1 d_SY_invert_29 rfl (lv_at hl 0 rfl) ?_
        refine mg_get (pc := 30) C0 in_SY hK hP (1) f1 rfl 3 (by decide) fl_SY_24 rfl d_SY_invert_30 ?_
        refine mg_ci (pc := 33) (As := [.ref (ad 3)]) (rest := []) C0 (c_SY_rankOf l D ca ad h2 h6 (q := 3) (F := pm_ii x a) hg (fun y hy => pm_ii_lt h2 h6 ha hy) ws f1 f3) lk_SY_41 (by decide) f1 rfl hK hP hD hS hA rfl hl.1 rfl (Nat.le_of_ble_eq_true rfl) d_SY_invert_33 (fun rv ws1 H locs hpost hP hD hS => ?_)
        obtain ⟨hr1, hw⟩ := hpost
        rw [hw] at hP hD
        exact hret _ _ _ _ 36 _ (rfl) (⟨hr1, hfm, sy_row (hfm 1 (by omega)) (hfm 2 (by omega)) f3 hsy0⟩) hP hD hS d_SY_invert_36
      · refine lv_aload_n (pc := 10) C0.1 C0.2.1 d_SY_invert_10 rfl (lv_at hl 0 rfl) ?_
        refine mg_get (pc := 11) C0 in_SY hK hP (1) f1 rfl 3 (by decide) fl_SY_24 rfl d_SY_invert_11 ?_
        refine lv_aload_n (pc := 14) C0.1 C0.2.1 d_SY_invert_14 rfl (lv_at hl 0 rfl) ?_
        refine lv_iload_n (pc := 15) C0.1 C0.2.1 d_SY_invert_15 rfl (lv_at hl 1 rfl) ?_
        refine lv_iload_n (pc := 16) C0.1 C0.2.1 d_SY_invert_16 rfl (lv_at hl 2 rfl) ?_
        refine mg_ci (pc := 17) (As := [.int (nI (a)), .int (nI (x))]) (rest := [.ref (ad 3)]) C0 (c_SY_image l D ca ad h2 h6 ha hc ws (sy_row (hfm 1 (by omega)) (hfm 2 (by omega)) f3 hsy0)) lk_SY_45 (by decide) f1 rfl hK hP hD hS hA rfl hl.1 rfl (Nat.le_of_ble_eq_true rfl) d_SY_invert_17 (fun rv ws1 H locs hpost hP hD hS => ?_)
        obtain ⟨hr1, hw⟩ := hpost
        rw [hw] at hP hD
        refine mg_top (show rv = nI (pm_im n a x) from hr1) ?_
        have hlt := pm_lt h2 h6 ha hc
        refine lv_iload_n (pc := 20) C0.1 C0.2.1 d_SY_invert_20 rfl (lv_at hl 2 rfl) ?_
        refine mg_ist (pc := 21) C0 hK hP hD hS (3) 1 f3 rfl (j := pm_im n a x) (by omega) (by omega) d_SY_invert_21 (fun ws H locs hfr f3 hP hD hS => ?_)
        have f1 := (hfr (1) (by omega)).trans f1
        have f2 := (hfr (2) (by omega)).trans f2
        have hfm : ∀ j, j ≠ 3 → ws[j]? = ws0[j]? := fun j hj => (hfr j (by omega)).trans (hfm j hj)
        refine lv_iinc (pc := 22) (k := 2) (v := nI (x + 1)) (lv' := [(2, .int (nI (x + 1))), (0, .ref (ad 1)), (1, .int (nI (a)))]) C0.1 C0.2.1 d_SY_invert_22 hl rfl (nb_p1 _) (by decide) rfl (fun ls hl => ?_)
        refine lv_goto (pc := 25) (tgt := 2) C0.1 C0.2.1 d_SY_invert_25 (by decide) ?_
        exact ih_loop _ (by omega) (x + 1) (upd f (pm_im n a x) (nI (x))) _ _ _ _ rfl (by omega) (fun y hy => by
          by_cases e : y = x
          · subst e; exact pk_us
          · rw [pk_un (fun q => e (pm_inj h2 h6 ha (by omega) hc q))]; exact hf y (by omega)) hfm f3 (lv_sub hl [1, 2, 0] rfl) hP hD hS
  exact loop _ 0 f0 _ _ _ _ rfl (by omega) (fun y hy => absurd hy (by omega)) hfm f3 (lv_sub hl [1, 2, 0] rfl) hP hD hS
set_option maxHeartbeats 4000000 in
set_option maxRecDepth 100000 in
theorem c_SY_conjugate (l : Launch) (D : va_G) (ca : Nat → ClassId) (ad : Nat → Nat) {n : Nat} (h2 : 2 ≤ n) (h6 : n ≤ 6) {a b : Nat} (ha : a < pm_fc n) (hb : b < pm_fc n) (ws0 : va_W) (hsy : sy_ok ca ad n ws0) : mg_I l y_SY_conjugate b_SY_conjugate 3 (.int) 4 D classes (tys_ ca) [.ref (ad 1), .int (nI (a)), .int (nI (b))] ws0 (fun v w => v = nI (ga_cj (pm_mu n) (pm_iv n) a b) ∧ (∀ j, j ≠ 3 → w[j]? = ws0[j]?) ∧ sy_ok ca ad n w) := by
  have z1 := hsy.1
  have g := pm_gp h2 h6
  refine mg_openI (own := R_SY) rfl (by decide) (Nat.le_of_ble_eq_true rfl) ?_
  intro p e s m args below meth c A Q ls C0 hK hA hP hD hS hl hret
  have hl : lv_has ls 3 [(0, .ref (ad 1)), (1, .int (nI (a))), (2, .int (nI (b)))] := hl
  have f1 := z1
  have hfm : ∀ j, j ≠ 3 → ws0[j]? = ws0[j]? := fun _ _ => rfl
  refine lv_aload_n (pc := 0) C0.1 C0.2.1 d_SY_conjugate_0 rfl (lv_at hl 0 rfl) ?_
  refine lv_aload_n (pc := 1) C0.1 C0.2.1 d_SY_conjugate_1 rfl (lv_at hl 0 rfl) ?_
  refine lv_aload_n (pc := 2) C0.1 C0.2.1 d_SY_conjugate_2 rfl (lv_at hl 0 rfl) ?_
  refine lv_iload_n (pc := 3) C0.1 C0.2.1 d_SY_conjugate_3 rfl (lv_at hl 2 rfl) ?_
  refine mg_ci (pc := 4) (As := [.int (nI (b))]) (rest := [.ref (ad 1), .ref (ad 1)]) C0 (c_SY_invert l D ca ad h2 h6 (hb) ws0 hsy) lk_SY_48 (by decide) f1 rfl hK hP hD hS hA rfl hl.1 rfl (Nat.le_of_ble_eq_true rfl) d_SY_conjugate_4 (fun rv ws H locs hpost hP hD hS => ?_)
  obtain ⟨hr1, hfr, hsy⟩ := hpost
  have f1 := (hfr (1) (by omega)).trans f1
  have hfm : ∀ j, j ≠ 3 → ws[j]? = ws0[j]? := fun j hj => (hfr j (by omega)).trans (hfm j hj)
  refine mg_top (show rv = nI (pm_iv n b) from hr1) ?_
  refine lv_iload_n (pc := 7) C0.1 C0.2.1 d_SY_conjugate_7 rfl (lv_at hl 1 rfl) ?_
  refine mg_ci (pc := 8) (As := [.int (nI (pm_iv n b)), .int (nI (a))]) (rest := [.ref (ad 1)]) C0 (c_SY_multiply l D ca ad h2 h6 ((gp_i g hb)) (ha) ws hsy) lk_SY_51 (by decide) f1 rfl hK hP hD hS hA rfl hl.1 rfl (Nat.le_of_ble_eq_true rfl) d_SY_conjugate_8 (fun rv ws H locs hpost hP hD hS => ?_)
  obtain ⟨hr1, hfr, hsy⟩ := hpost
  have f1 := (hfr (1) (by omega)).trans f1
  have hfm : ∀ j, j ≠ 3 → ws[j]? = ws0[j]? := fun j hj => (hfr j (by omega)).trans (hfm j hj)
  refine mg_top (show rv = nI (pm_mu n (pm_iv n b) a) from hr1) ?_
  refine lv_iload_n (pc := 11) C0.1 C0.2.1 d_SY_conjugate_11 rfl (lv_at hl 2 rfl) ?_
  refine mg_ci (pc := 12) (As := [.int (nI (pm_mu n (pm_iv n b) a)), .int (nI (b))]) (rest := []) C0 (c_SY_multiply l D ca ad h2 h6 ((gp_m g (gp_i g hb) ha)) (hb) ws hsy) lk_SY_51 (by decide) f1 rfl hK hP hD hS hA rfl hl.1 rfl (Nat.le_of_ble_eq_true rfl) d_SY_conjugate_12 (fun rv ws H locs hpost hP hD hS => ?_)
  obtain ⟨hr1, hfr, hsy⟩ := hpost
  have f1 := (hfr (1) (by omega)).trans f1
  have hfm : ∀ j, j ≠ 3 → ws[j]? = ws0[j]? := fun j hj => (hfr j (by omega)).trans (hfm j hj)
  refine mg_top (show rv = nI (pm_mu n (pm_mu n (pm_iv n b) a) b) from hr1) ?_
  exact hret _ _ _ _ 15 _ (rfl) (⟨rfl, hfm, hsy⟩) hP hD hS d_SY_conjugate_15
set_option maxHeartbeats 4000000 in
set_option maxRecDepth 100000 in
theorem c_SY_commutator (l : Launch) (D : va_G) (ca : Nat → ClassId) (ad : Nat → Nat) {n : Nat} (h2 : 2 ≤ n) (h6 : n ≤ 6) {a b : Nat} (ha : a < pm_fc n) (hb : b < pm_fc n) (ws0 : va_W) (hsy : sy_ok ca ad n ws0) : mg_I l y_SY_commutator b_SY_commutator 3 (.int) 4 D classes (tys_ ca) [.ref (ad 1), .int (nI (a)), .int (nI (b))] ws0 (fun v w => v = nI (ga_cm (pm_mu n) (pm_iv n) a b) ∧ (∀ j, j ≠ 3 → w[j]? = ws0[j]?) ∧ sy_ok ca ad n w) := by
  have z1 := hsy.1
  have g := pm_gp h2 h6
  refine mg_openI (own := R_SY) rfl (by decide) (Nat.le_of_ble_eq_true rfl) ?_
  intro p e s m args below meth c A Q ls C0 hK hA hP hD hS hl hret
  have hl : lv_has ls 3 [(0, .ref (ad 1)), (1, .int (nI (a))), (2, .int (nI (b)))] := hl
  have f1 := z1
  have hfm : ∀ j, j ≠ 3 → ws0[j]? = ws0[j]? := fun _ _ => rfl
  refine lv_aload_n (pc := 0) C0.1 C0.2.1 d_SY_commutator_0 rfl (lv_at hl 0 rfl) ?_
  refine lv_aload_n (pc := 1) C0.1 C0.2.1 d_SY_commutator_1 rfl (lv_at hl 0 rfl) ?_
  refine lv_aload_n (pc := 2) C0.1 C0.2.1 d_SY_commutator_2 rfl (lv_at hl 0 rfl) ?_
  refine lv_iload_n (pc := 3) C0.1 C0.2.1 d_SY_commutator_3 rfl (lv_at hl 1 rfl) ?_
  refine mg_ci (pc := 4) (As := [.int (nI (a))]) (rest := [.ref (ad 1), .ref (ad 1)]) C0 (c_SY_invert l D ca ad h2 h6 (ha) ws0 hsy) lk_SY_48 (by decide) f1 rfl hK hP hD hS hA rfl hl.1 rfl (Nat.le_of_ble_eq_true rfl) d_SY_commutator_4 (fun rv ws H locs hpost hP hD hS => ?_)
  obtain ⟨hr1, hfr, hsy⟩ := hpost
  have f1 := (hfr (1) (by omega)).trans f1
  have hfm : ∀ j, j ≠ 3 → ws[j]? = ws0[j]? := fun j hj => (hfr j (by omega)).trans (hfm j hj)
  refine mg_top (show rv = nI (pm_iv n a) from hr1) ?_
  refine lv_aload_n (pc := 7) C0.1 C0.2.1 d_SY_commutator_7 rfl (lv_at hl 0 rfl) ?_
  refine lv_iload_n (pc := 8) C0.1 C0.2.1 d_SY_commutator_8 rfl (lv_at hl 2 rfl) ?_
  refine mg_ci (pc := 9) (As := [.int (nI (b))]) (rest := [.int (nI (pm_iv n a)), .ref (ad 1), .ref (ad 1)]) C0 (c_SY_invert l D ca ad h2 h6 (hb) ws hsy) lk_SY_48 (by decide) f1 rfl hK hP hD hS hA rfl hl.1 rfl (Nat.le_of_ble_eq_true rfl) d_SY_commutator_9 (fun rv ws H locs hpost hP hD hS => ?_)
  obtain ⟨hr1, hfr, hsy⟩ := hpost
  have f1 := (hfr (1) (by omega)).trans f1
  have hfm : ∀ j, j ≠ 3 → ws[j]? = ws0[j]? := fun j hj => (hfr j (by omega)).trans (hfm j hj)
  refine mg_top (show rv = nI (pm_iv n b) from hr1) ?_
  refine mg_ci (pc := 12) (As := [.int (nI (pm_iv n a)), .int (nI (pm_iv n b))]) (rest := [.ref (ad 1)]) C0 (c_SY_multiply l D ca ad h2 h6 ((gp_i g ha)) ((gp_i g hb)) ws hsy) lk_SY_51 (by decide) f1 rfl hK hP hD hS hA rfl hl.1 rfl (Nat.le_of_ble_eq_true rfl) d_SY_commutator_12 (fun rv ws H locs hpost hP hD hS => ?_)
  obtain ⟨hr1, hfr, hsy⟩ := hpost
  have f1 := (hfr (1) (by omega)).trans f1
  have hfm : ∀ j, j ≠ 3 → ws[j]? = ws0[j]? := fun j hj => (hfr j (by omega)).trans (hfm j hj)
  refine mg_top (show rv = nI (pm_mu n (pm_iv n a) (pm_iv n b)) from hr1) ?_
  refine lv_aload_n (pc := 15) C0.1 C0.2.1 d_SY_commutator_15 rfl (lv_at hl 0 rfl) ?_
  refine lv_iload_n (pc := 16) C0.1 C0.2.1 d_SY_commutator_16 rfl (lv_at hl 1 rfl) ?_
  refine lv_iload_n (pc := 17) C0.1 C0.2.1 d_SY_commutator_17 rfl (lv_at hl 2 rfl) ?_
  refine mg_ci (pc := 18) (As := [.int (nI (a)), .int (nI (b))]) (rest := [.int (nI (pm_mu n (pm_iv n a) (pm_iv n b))), .ref (ad 1)]) C0 (c_SY_multiply l D ca ad h2 h6 (ha) (hb) ws hsy) lk_SY_51 (by decide) f1 rfl hK hP hD hS hA rfl hl.1 rfl (Nat.le_of_ble_eq_true rfl) d_SY_commutator_18 (fun rv ws H locs hpost hP hD hS => ?_)
  obtain ⟨hr1, hfr, hsy⟩ := hpost
  have f1 := (hfr (1) (by omega)).trans f1
  have hfm : ∀ j, j ≠ 3 → ws[j]? = ws0[j]? := fun j hj => (hfr j (by omega)).trans (hfm j hj)
  refine mg_top (show rv = nI (pm_mu n a b) from hr1) ?_
  refine mg_ci (pc := 21) (As := [.int (nI (pm_mu n (pm_iv n a) (pm_iv n b))), .int (nI (pm_mu n a b))]) (rest := []) C0 (c_SY_multiply l D ca ad h2 h6 ((gp_m g (gp_i g ha) (gp_i g hb))) ((gp_m g ha hb)) ws hsy) lk_SY_51 (by decide) f1 rfl hK hP hD hS hA rfl hl.1 rfl (Nat.le_of_ble_eq_true rfl) d_SY_commutator_21 (fun rv ws H locs hpost hP hD hS => ?_)
  obtain ⟨hr1, hfr, hsy⟩ := hpost
  have f1 := (hfr (1) (by omega)).trans f1
  have hfm : ∀ j, j ≠ 3 → ws[j]? = ws0[j]? := fun j hj => (hfr j (by omega)).trans (hfm j hj)
  refine mg_top (show rv = nI (pm_mu n (pm_mu n (pm_iv n a) (pm_iv n b)) (pm_mu n a b)) from hr1) ?_
  exact hret _ _ _ _ 24 _ (rfl) (⟨rfl, hfm, hsy⟩) hP hD hS d_SY_commutator_24
set_option maxHeartbeats 4000000 in
set_option maxRecDepth 100000 in
theorem c_SY_digits (l : Launch) (D : va_G) (ca : Nat → ClassId) (ad : Nat → Nat) {n : Nat} (h2 : 2 ≤ n) (h6 : n ≤ 6) {r : Nat} (hr : r < pm_fc n) (ws0 : va_W) (hsy : sy_ok ca ad n ws0) : mg_I l y_SY_digits b_SY_digits 4 (.int) 2 D classes (tys_ ca) [.ref (ad 1), .int (nI (r))] ws0 (fun v w => v = nI (pm_ds n r n) ∧ w = ws0) := by
  have z1 := hsy.1
  refine mg_openI (own := R_SY) rfl (by decide) (Nat.le_of_ble_eq_true rfl) ?_
  intro p e s m args below meth c A Q ls C0 hK hA hP hD hS hl hret
  have hl : lv_has ls 4 [(0, .ref (ad 1)), (1, .int (nI (r)))] := hl
  have f1 := z1
  refine lv_iconst (pc := 0) (v := nI (0)) C0.1 C0.2.1 d_SY_digits_0 (by decide +kernel) ?_
  refine lv_istore_n (pc := 1) (lv' := [(2, .int (nI (0))), (0, .ref (ad 1)), (1, .int (nI (r)))]) C0.1 C0.2.1 d_SY_digits_1 rfl hl (by decide) rfl (fun ls hl => ?_)
  refine lv_iconst (pc := 2) (v := nI (0)) C0.1 C0.2.1 d_SY_digits_2 (by decide +kernel) ?_
  refine lv_istore_n (pc := 3) (lv' := [(3, .int (nI (0))), (2, .int (nI (0))), (0, .ref (ad 1)), (1, .int (nI (r)))]) C0.1 C0.2.1 d_SY_digits_3 rfl hl (by decide) rfl (fun ls hl => ?_)
  have loop : ∀ (d : Nat) (x : Nat) (H : Heap) (locs : List Loc) (ls : Array Slot), n - x = d → (x ≤ n) → lv_has ls 4 [(0, .ref (ad 1)), (1, .int (nI (r))), (2, .int (nI (pm_ds n r x))), (3, .int (nI (x)))] → va_P D classes ws0 H → va_D A ws0 → va_S A s.heap H locs → W p l e (mg_rm 2) s m args below meth c H locs 0 0 Q (F0 m 4 ls []) := by
    intro d
    induction d using Nat.strongRecOn with
    | _ d ih_loop =>
      intro x H locs ls hd hx hl hP hD hS
      refine lv_iload_n (pc := 4) C0.1 C0.2.1 d_SY_digits_4 rfl (lv_at hl 3 rfl) ?_
      refine lv_aload_n (pc := 5) C0.1 C0.2.1 d_SY_digits_5 rfl (lv_at hl 0 rfl) ?_
      refine mg_get (pc := 6) C0 in_SY hK hP (1) f1 rfl 0 (by decide) fl_SY_7 rfl d_SY_digits_6 ?_
      refine mb_ge (pc := 9) (tgt := 30) C0 (by omega) (by omega) d_SY_digits_9 (by decide) (fun hc => ?_) (fun hc => ?_)
      · have hxn : x = n := by omega
        subst hxn
        refine lv_iload_n (pc := 30) C0.1 C0.2.1 d_SY_digits_30 rfl (lv_at hl 2 rfl) ?_
        exact hret _ _ _ _ 31 _ (rfl) (⟨rfl, rfl⟩) hP hD hS d_SY_digits_31
      · refine lv_iload_n (pc := 12) C0.1 C0.2.1 d_SY_digits_12 rfl (lv_at hl 2 rfl) ?_
        refine lv_bipush (pc := 13) (v := nI (10)) C0.1 C0.2.1 d_SY_digits_13 (by decide +kernel) ?_
        refine mn_mul (pc := 15) C0 d_SY_digits_15 ?_
        refine lv_aload_n (pc := 16) C0.1 C0.2.1 d_SY_digits_16 rfl (lv_at hl 0 rfl) ?_
        refine lv_iload_n (pc := 17) C0.1 C0.2.1 d_SY_digits_17 rfl (lv_at hl 1 rfl) ?_
        refine lv_iload_n (pc := 18) C0.1 C0.2.1 d_SY_digits_18 rfl (lv_at hl 3 rfl) ?_
        refine mg_ci (pc := 19) (As := [.int (nI (r)), .int (nI (x))]) (rest := [.int (nI ((pm_ds n r x) * 10))]) C0 (c_SY_image l D ca ad h2 h6 hr hc ws0 hsy) lk_SY_45 (by decide) f1 rfl hK hP hD hS hA rfl hl.1 rfl (Nat.le_of_ble_eq_true rfl) d_SY_digits_19 (fun rv ws1 H locs hpost hP hD hS => ?_)
        obtain ⟨hr1, hw⟩ := hpost
        rw [hw] at hP hD
        refine mg_top (show rv = nI (pm_im n r x) from hr1) ?_
        refine mn_add (pc := 22) C0 d_SY_digits_22 ?_
        refine lv_istore_n (pc := 23) (lv' := [(2, .int (nI (((pm_ds n r x) * 10) + (pm_im n r x)))), (0, .ref (ad 1)), (1, .int (nI (r))), (3, .int (nI (x)))]) C0.1 C0.2.1 d_SY_digits_23 rfl hl (by decide) rfl (fun ls hl => ?_)
        refine lv_iinc (pc := 24) (k := 3) (v := nI (x + 1)) (lv' := [(3, .int (nI (x + 1))), (2, .int (nI (((pm_ds n r x) * 10) + (pm_im n r x)))), (0, .ref (ad 1)), (1, .int (nI (r)))]) C0.1 C0.2.1 d_SY_digits_24 hl rfl (nb_p1 _) (by decide) rfl (fun ls hl => ?_)
        refine lv_goto (pc := 27) (tgt := 4) C0.1 C0.2.1 d_SY_digits_27 (by decide) ?_
        exact ih_loop _ (by omega) (x + 1) _ _ _ rfl (by omega) (lv_sub hl [2, 3, 1, 0] rfl) hP hD hS
  exact loop _ 0 _ _ _ rfl (by omega) (lv_sub hl [2, 3, 1, 0] rfl) hP hD hS
set_option maxHeartbeats 4000000 in
set_option maxRecDepth 100000 in
theorem c_SY_holds (l : Launch) (D : va_G) (ca : Nat → ClassId) (ad : Nat → Nat) {n : Nat} (h2 : 2 ≤ n) (h6 : n ≤ 6) {r pts : Nat} (hr : r < pm_fc n) (hp : pts < 64) (ws0 : va_W) (hsy : sy_ok ca ad n ws0) : mg_I l y_SY_holds b_SY_holds 4 (.boolean) 2 D classes (tys_ ca) [.ref (ad 1), .int (nI (r)), .int (nI (pts))] ws0 (fun v w => v = nI (if pm_hd n r pts = true then 1 else 0) ∧ w = ws0) := by
  have z1 := hsy.1
  refine mg_openI (own := R_SY) rfl (by decide) (Nat.le_of_ble_eq_true rfl) ?_
  intro p e s m args below meth c A Q ls C0 hK hA hP hD hS hl hret
  have hl : lv_has ls 4 [(0, .ref (ad 1)), (1, .int (nI (r))), (2, .int (nI (pts)))] := hl
  have f1 := z1
  refine lv_iconst (pc := 0) (v := nI (0)) C0.1 C0.2.1 d_SY_holds_0 (by decide +kernel) ?_
  refine lv_istore_n (pc := 1) (lv' := [(3, .int (nI (0))), (0, .ref (ad 1)), (1, .int (nI (r))), (2, .int (nI (pts)))]) C0.1 C0.2.1 d_SY_holds_1 rfl hl (by decide) rfl (fun ls hl => ?_)
  have loop : ∀ (d : Nat) (x : Nat) (H : Heap) (locs : List Loc) (ls : Array Slot), n - x = d → (x ≤ n) → (∀ y, y < x → pts.testBit y = true → pm_im n r y = y) → lv_has ls 4 [(0, .ref (ad 1)), (1, .int (nI (r))), (2, .int (nI (pts))), (3, .int (nI (x)))] → va_P D classes ws0 H → va_D A ws0 → va_S A s.heap H locs → W p l e (mg_rm 2) s m args below meth c H locs 0 0 Q (F0 m 2 ls []) := by
    intro d
    induction d using Nat.strongRecOn with
    | _ d ih_loop =>
      intro x H locs ls hd hx hh hl hP hD hS
      refine lv_iload_n (pc := 2) C0.1 C0.2.1 d_SY_holds_2 rfl (lv_at hl 3 rfl) ?_
      refine lv_aload_n (pc := 3) C0.1 C0.2.1 d_SY_holds_3 rfl (lv_at hl 0 rfl) ?_
      refine mg_get (pc := 4) C0 in_SY hK hP (1) f1 rfl 0 (by decide) fl_SY_7 rfl d_SY_holds_4 ?_
      refine mb_ge (pc := 7) (tgt := 36) C0 (by omega) (by omega) d_SY_holds_7 (by decide) (fun hc => ?_) (fun hc => ?_)
      · have hxn : x = n := by omega
        subst hxn
        refine lv_iconst (pc := 36) (v := nI (1)) C0.1 C0.2.1 d_SY_holds_36 (by decide +kernel) ?_
        exact hret _ _ _ _ 37 _ (rfl) (⟨by rw [if_pos (pm_hd1 hh)], rfl⟩) hP hD hS d_SY_holds_37
      · have hxn := hc
        refine lv_iload_n (pc := 10) C0.1 C0.2.1 d_SY_holds_10 rfl (lv_at hl 2 rfl) ?_
        refine lv_iload_n (pc := 11) C0.1 C0.2.1 d_SY_holds_11 rfl (lv_at hl 3 rfl) ?_
        refine mn_shr (pc := 12) C0 (by omega) (by omega) d_SY_holds_12 ?_
        refine lv_iconst (pc := 13) (v := nI (1)) C0.1 C0.2.1 d_SY_holds_13 (by decide +kernel) ?_
        refine mn_bit (pc := 14) C0 d_SY_holds_14 ?_
        refine mz_eq (pc := 15) (tgt := 30) C0 (by omega) d_SY_holds_15 (by decide) (fun hc => ?_) (fun hc => ?_)
        · have hb := nb_t0 hc
          refine lv_iinc (pc := 30) (k := 3) (v := nI (x + 1)) (lv' := [(3, .int (nI (x + 1))), (0, .ref (ad 1)), (1, .int (nI (r))), (2, .int (nI (pts)))]) C0.1 C0.2.1 d_SY_holds_30 hl rfl (nb_p1 _) (by decide) rfl (fun ls hl => ?_)
          refine lv_goto (pc := 33) (tgt := 2) C0.1 C0.2.1 d_SY_holds_33 (by decide) ?_
          exact ih_loop _ (by omega) (x + 1) _ _ _ rfl (by omega) (fun y hy h => by
            by_cases e : y = x
            · subst e; rw [hb] at h; exact absurd h (by decide)
            · exact hh y (by omega) h) (lv_sub hl [1, 2, 3, 0] rfl) hP hD hS
        · have hb := nb_t1 hc
          refine lv_aload_n (pc := 18) C0.1 C0.2.1 d_SY_holds_18 rfl (lv_at hl 0 rfl) ?_
          refine lv_iload_n (pc := 19) C0.1 C0.2.1 d_SY_holds_19 rfl (lv_at hl 1 rfl) ?_
          refine lv_iload_n (pc := 20) C0.1 C0.2.1 d_SY_holds_20 rfl (lv_at hl 3 rfl) ?_
          refine mg_ci (pc := 21) (As := [.int (nI (r)), .int (nI (x))]) (rest := []) C0 (c_SY_image l D ca ad h2 h6 hr hxn ws0 hsy) lk_SY_45 (by decide) f1 rfl hK hP hD hS hA rfl hl.1 rfl (Nat.le_of_ble_eq_true rfl) d_SY_holds_21 (fun rv ws1 H locs hpost hP hD hS => ?_)
          obtain ⟨hr1, hw⟩ := hpost
          rw [hw] at hP hD
          refine mg_top (show rv = nI (pm_im n r x) from hr1) ?_
          have hlt := pm_lt h2 h6 hr hxn
          refine lv_iload_n (pc := 24) C0.1 C0.2.1 d_SY_holds_24 rfl (lv_at hl 3 rfl) ?_
          refine mb_eq (pc := 25) (tgt := 30) C0 (by omega) (by omega) d_SY_holds_25 (by decide) (fun hc => ?_) (fun hc => ?_)
          · refine lv_iinc (pc := 30) (k := 3) (v := nI (x + 1)) (lv' := [(3, .int (nI (x + 1))), (0, .ref (ad 1)), (1, .int (nI (r))), (2, .int (nI (pts)))]) C0.1 C0.2.1 d_SY_holds_30 hl rfl (nb_p1 _) (by decide) rfl (fun ls hl => ?_)
            refine lv_goto (pc := 33) (tgt := 2) C0.1 C0.2.1 d_SY_holds_33 (by decide) ?_
            exact ih_loop _ (by omega) (x + 1) _ _ _ rfl (by omega) (fun y hy h => by
              by_cases e : y = x
              · subst e; exact hc
              · exact hh y (by omega) h) (lv_sub hl [1, 2, 3, 0] rfl) hP hD hS
          · refine lv_iconst (pc := 28) (v := nI (0)) C0.1 C0.2.1 d_SY_holds_28 (by decide +kernel) ?_
            exact hret _ _ _ _ 29 _ (rfl) (⟨by rw [if_neg (by rw [pm_hd0 hxn hb hc]; decide)], rfl⟩) hP hD hS d_SY_holds_29
  exact loop _ 0 _ _ _ rfl (by omega) (fun y hy => absurd hy (by omega)) (lv_sub hl [1, 2, 3, 0] rfl) hP hD hS
