/-! Subgroup: growth by cosets -/
set_option maxHeartbeats 4000000 in
set_option maxRecDepth 100000 in
theorem c_SU_addCoset (l : Launch) (D : va_G) (ca : Nat → ClassId) (ad : Nat → Nat) {n : Nat} (h2 : 2 ≤ n) (h6 : n ≤ 6) {i z b t0 : Nat} {kc : Int32} {f : Nat → Int64} {L : Nat → Int32} {H0 X : Nat → Bool} {LN : Nat → Nat} (hH : gp_sg (pm_fc n) (pm_mu n) (pm_iv n) (fun x => H0 x = true)) (hE : co_en H0 LN b) (hI : co_I (pm_fc n) (pm_mu n) X LN b z) (hbz : b ≤ z) (hw0 : su_wd n f X) (hL0 : ∀ j, j < z → L j = nI (LN j)) (ht : t0 < pm_fc n) (hX : X t0 = false) (ws0 : va_W) (hsy : sy_ok ca ad n ws0) (zo : ws0[10 + 3 * i]? = some (ad (10 + 3 * i), .inr (2, [.int (nI (z)), .ref (ad 1), .ref (ad (11 + 3 * i)), .ref (ad (12 + 3 * i)), .int (kc), .ref (ad 8)]))) (zm : ws0[11 + 3 * i]? = some (ad (11 + 3 * i), .inl (ca 2, (pm_fc n + 63) / 64, .inr (.inl (f))))) (z8 : ws0[8]? = some (ad 8, .inl (ca 1, pm_fc n, .inl (L)))) : mg_V l y_SU_addCoset b_SU_addCoset 5 4 D classes (tys_ ca) [.ref (ad (10 + 3 * i)), .int (nI (b)), .int (nI (t0))] ws0 (fun w => (∀ j, j ≠ 3 ∧ j ≠ 8 ∧ j ≠ 10 + 3 * i ∧ j ≠ 11 + 3 * i → w[j]? = ws0[j]?) ∧ sy_ok ca ad n w ∧ ∃ (f1 : Nat → Int64) (L1 : Nat → Int32) (X1 : Nat → Bool) (N1 : Nat → Nat), w[10 + 3 * i]? = some (ad (10 + 3 * i), .inr (2, [.int (nI (z + b)), .ref (ad 1), .ref (ad (11 + 3 * i)), .ref (ad (12 + 3 * i)), .int (kc), .ref (ad 8)])) ∧ w[11 + 3 * i]? = some (ad (11 + 3 * i), .inl (ca 2, (pm_fc n + 63) / 64, .inr (.inl (f1)))) ∧ w[8]? = some (ad 8, .inl (ca 1, pm_fc n, .inl (L1))) ∧ su_wd n f1 X1 ∧ (∀ j, j < z + b → L1 j = nI (N1 j)) ∧ (∀ x, X1 x = true ↔ X x = true ∨ ∃ j, j < b ∧ x = pm_mu n (LN j) t0) ∧ co_en H0 N1 b ∧ co_I (pm_fc n) (pm_mu n) X1 N1 b (z + b) ∧ ∀ j, j < z → N1 j = LN j) := by
  have z1 := hsy.1
  have hN := pm_fc_le h6
  have g0 := pm_gp h2 h6
  have hzN := ma_cn_le X (pm_fc n)
  have hz0 := hI.1
  refine mg_openV (own := R_SU) rfl (by decide) (Nat.le_of_ble_eq_true rfl) ?_
  intro p e s m args below meth c A Q ls C0 hK hA hP hD hS hl hret
  have hl : lv_has ls 5 [(0, .ref (ad (10 + 3 * i))), (1, .int (nI (b))), (2, .int (nI (t0)))] := hl
  have f1 := z1
  have fo := zo
  have fm := zm
  have f8 := z8
  have hfm : ∀ j, j ≠ 3 ∧ j ≠ 8 ∧ j ≠ 10 + 3 * i ∧ j ≠ 11 + 3 * i → ws0[j]? = ws0[j]? := fun _ _ => rfl
  refine lv_iconst (pc := 0) (v := nI (0)) C0.1 C0.2.1 d_SU_addCoset_0 (by decide +kernel) ?_
  refine lv_istore_n (pc := 1) (lv' := [(3, .int (nI (0))), (0, .ref (ad (10 + 3 * i))), (1, .int (nI (b))), (2, .int (nI (t0)))]) C0.1 C0.2.1 d_SU_addCoset_1 rfl hl (by decide) rfl (fun ls hl => ?_)
  have loop : ∀ (d : Nat) (q : Nat) (f : Nat → Int64) (L : Nat → Int32) (Y : Nat → Bool) (M : Nat → Nat) (ws : va_W) (H : Heap) (locs : List Loc) (ls : Array Slot), b - q = d → (q ≤ b) → (su_wd n f Y) → (∀ j, j < z + q → L j = nI (M j)) → (∀ j, j < z → M j = LN j) → (∀ j, j < q → M (z + j) = pm_mu n (LN j) t0) → (∀ x, Y x = true ↔ X x = true ∨ ∃ j, j < q ∧ x = pm_mu n (LN j) t0) → (z + q = ma_cn Y (pm_fc n)) → (sy_ok ca ad n ws) → (∀ j, j ≠ 3 ∧ j ≠ 8 ∧ j ≠ 10 + 3 * i ∧ j ≠ 11 + 3 * i → ws[j]? = ws0[j]?) → ws[10 + 3 * i]? = some (ad (10 + 3 * i), .inr (2, [.int (nI (z + q)), .ref (ad 1), .ref (ad (11 + 3 * i)), .ref (ad (12 + 3 * i)), .int (kc), .ref (ad 8)])) → ws[11 + 3 * i]? = some (ad (11 + 3 * i), .inl (ca 2, (pm_fc n + 63) / 64, .inr (.inl (f)))) → ws[8]? = some (ad 8, .inl (ca 1, pm_fc n, .inl (L))) → lv_has ls 5 [(0, .ref (ad (10 + 3 * i))), (1, .int (nI (b))), (2, .int (nI (t0))), (3, .int (nI (q)))] → va_P D classes ws H → va_D A ws → va_S A s.heap H locs → W p l e (mg_rm 4) s m args below meth c H locs 0 0 Q (F0 m 2 ls []) := by
    intro d
    induction d using Nat.strongRecOn with
    | _ d ih_loop =>
      intro q f L Y M ws H locs ls hd hq hwY hLM hM1 hM2 hY hz hsy hfm fo fm f8 hl hP hD hS
      have f1 := (hfm (1) (by omega)).trans z1
      refine lv_iload_n (pc := 2) C0.1 C0.2.1 d_SU_addCoset_2 rfl (lv_at hl 3 rfl) ?_
      refine lv_iload_n (pc := 3) C0.1 C0.2.1 d_SU_addCoset_3 rfl (lv_at hl 1 rfl) ?_
      refine mb_ge (pc := 4) (tgt := 68) C0 (by omega) (by omega) d_SU_addCoset_4 (by decide) (fun hc => ?_) (fun hc => ?_)
      · have hqb : q = b := by omega
        subst hqb
        obtain ⟨hE1, hI1⟩ := co_I1 g0 hH hE hI ht hM1 hM2 hY hz hbz
        exact hret _ _ _ 68 _ (⟨hfm, hsy, f, L, Y, M, fo, fm, f8, hwY, hLM, hY, hE1, hI1, hM1⟩) hP hD hS d_SU_addCoset_68
      · have hLq := co_lt hH hE hc
        have hrk := gp_m g0 hLq ht
        have hfresh : Y (pm_mu n (LN q) t0) = false := by
          cases hc2 : Y (pm_mu n (LN q) t0) with
          | false => rfl
          | true =>
            exfalso
            rcases (hY _).mp hc2 with h | ⟨j, hj, he⟩
            · rw [co_out g0 hH hE hI (hE.2.2.1 q hc) ht hX] at h; exact absurd h (by decide)
            · have h3 := gp_rc g0 hLq (co_lt hH hE (show j < b by omega)) ht he
              have h4 := hE.2.2.2.1 q j hc (by omega) h3
              omega
        have hcn := ma_cn_in hfresh hrk
        have hle := ma_cn_le (ma_in Y (pm_mu n (LN q) t0)) (pm_fc n)
        have hqb := hc
        refine lv_aload_n (pc := 7) C0.1 C0.2.1 d_SU_addCoset_7 rfl (lv_at hl 0 rfl) ?_
        refine mg_get (pc := 8) C0 in_SU hK hP (10 + 3 * i) fo rfl 0 (by decide) fl_SU_37 rfl d_SU_addCoset_8 ?_
        refine lv_aload_n (pc := 11) C0.1 C0.2.1 d_SU_addCoset_11 rfl (lv_at hl 0 rfl) ?_
        refine mg_get (pc := 12) C0 in_SU hK hP (10 + 3 * i) fo rfl 5 (by decide) fl_SU_13 rfl d_SU_addCoset_12 ?_
        refine va_alen (pc := 15) C0.1 C0.2.1 hK hP (8) 1 f8 rfl (v := nI (pm_fc n)) rfl d_SU_addCoset_15 ?_
        refine mb_ge (pc := 16) (tgt := 68) C0 (by omega) (by omega) d_SU_addCoset_16 (by decide) (fun hc => ?_) (fun hc => ?_)
        · exact absurd hc (by omega)
        · refine lv_aload_n (pc := 19) C0.1 C0.2.1 d_SU_addCoset_19 rfl (lv_at hl 0 rfl) ?_
          refine mg_get (pc := 20) C0 in_SU hK hP (10 + 3 * i) fo rfl 1 (by decide) fl_SU_7 rfl d_SU_addCoset_20 ?_
          refine lv_aload_n (pc := 23) C0.1 C0.2.1 d_SU_addCoset_23 rfl (lv_at hl 0 rfl) ?_
          refine mg_get (pc := 24) C0 in_SU hK hP (10 + 3 * i) fo rfl 5 (by decide) fl_SU_13 rfl d_SU_addCoset_24 ?_
          refine lv_iload_n (pc := 27) C0.1 C0.2.1 d_SU_addCoset_27 rfl (lv_at hl 3 rfl) ?_
          refine mg_ild (pc := 28) C0 hK hP (8) 1 f8 rfl (j := q) (by omega) (by omega) d_SU_addCoset_28 ?_
          refine mg_top (show L (q) = nI (LN q) from (hLM q (by omega)).trans (congrArg nI (hM1 q (by omega)))) ?_
          refine lv_iload_n (pc := 29) C0.1 C0.2.1 d_SU_addCoset_29 rfl (lv_at hl 2 rfl) ?_
          refine mg_ci (pc := 30) (As := [.int (nI (LN q)), .int (nI (t0))]) (rest := []) C0 (c_SY_multiply l D ca ad h2 h6 hLq ht ws hsy) lk_SU_76 (by decide) f1 rfl hK hP hD hS hA rfl hl.1 rfl (Nat.le_of_ble_eq_true rfl) d_SU_addCoset_30 (fun rv ws H locs hpost hP hD hS => ?_)
          obtain ⟨hr1, hfr, hsy⟩ := hpost
          have f1 := (hfr (1) (by omega)).trans f1
          have fo := (hfr (10 + 3 * i) (by omega)).trans fo
          have fm := (hfr (11 + 3 * i) (by omega)).trans fm
          have f8 := (hfr (8) (by omega)).trans f8
          have hfm : ∀ j, j ≠ 3 ∧ j ≠ 8 ∧ j ≠ 10 + 3 * i ∧ j ≠ 11 + 3 * i → ws[j]? = ws0[j]? := fun j hj => (hfr j (by omega)).trans (hfm j hj)
          refine mg_top (show rv = nI (pm_mu n (LN q) t0) from hr1) ?_
          refine lv_istore (pc := 33) (lv' := [(4, .int (nI (pm_mu n (LN q) t0))), (0, .ref (ad (10 + 3 * i))), (1, .int (nI (b))), (2, .int (nI (t0))), (3, .int (nI (q)))]) C0.1 C0.2.1 d_SU_addCoset_33 hl (by decide) rfl (fun ls hl => ?_)
          refine lv_aload_n (pc := 35) C0.1 C0.2.1 d_SU_addCoset_35 rfl (lv_at hl 1 rfl) ?_
          refine mg_get (pc := 36) C0 in_SU hK hP (10 + 3 * i) fo rfl 5 (by decide) fl_SU_13 rfl d_SU_addCoset_36 ?_
          refine lv_aload_n (pc := 39) C0.1 C0.2.1 d_SU_addCoset_39 rfl (lv_at hl 1 rfl) ?_
          refine mg_get (pc := 40) C0 in_SU hK hP (10 + 3 * i) fo rfl 0 (by decide) fl_SU_37 rfl d_SU_addCoset_40 ?_
          refine lv_iload (pc := 43) C0.1 C0.2.1 d_SU_addCoset_43 (lv_at hl 0 rfl) ?_
          refine mg_ist (pc := 45) C0 hK hP hD hS (8) 1 f8 rfl (j := z + q) (by omega) (by omega) d_SU_addCoset_45 (fun ws H locs hfr f8 hP hD hS => ?_)
          have f1 := (hfr (1) (by omega)).trans f1
          have fo := (hfr (10 + 3 * i) (by omega)).trans fo
          have fm := (hfr (11 + 3 * i) (by omega)).trans fm
          have hsy := sy_fr (hfr (1) (by omega)) (hfr (2) (by omega)) (hfr (3) (by omega)) hsy
          have hfm : ∀ j, j ≠ 3 ∧ j ≠ 8 ∧ j ≠ 10 + 3 * i ∧ j ≠ 11 + 3 * i → ws[j]? = ws0[j]? := fun j hj => (hfr j (by omega)).trans (hfm j hj)
          refine lv_aload_n (pc := 46) C0.1 C0.2.1 d_SU_addCoset_46 rfl (lv_at hl 1 rfl) ?_
          refine lv_iload (pc := 47) C0.1 C0.2.1 d_SU_addCoset_47 (lv_at hl 0 rfl) ?_
          refine mg_cv (pc := 49) (As := [.int (nI (pm_mu n (LN q) t0))]) (rest := []) C0 (c_SU_mark l D ca ad h2 h6 hrk ws fo fm) lk_SU_33 (by decide) fo rfl hK hP hD hS hA rfl hl.1 rfl (Nat.le_of_ble_eq_true rfl) d_SU_addCoset_49 (fun ws H locs hpost hP hD hS => ?_)
          obtain ⟨hfr, fn, fm, hfn⟩ := hpost
          have f1 := (hfr (1) (by omega)).trans f1
          have fo := (hfr (10 + 3 * i) (by omega)).trans fo
          have f8 := (hfr (8) (by omega)).trans f8
          have hsy := sy_fr (hfr (1) (by omega)) (hfr (2) (by omega)) (hfr (3) (by omega)) hsy
          have hfm : ∀ j, j ≠ 3 ∧ j ≠ 8 ∧ j ≠ 10 + 3 * i ∧ j ≠ 11 + 3 * i → ws[j]? = ws0[j]? := fun j hj => (hfr j (by omega)).trans (hfm j hj)
          refine lv_aload_n (pc := 52) C0.1 C0.2.1 d_SU_addCoset_52 rfl (lv_at hl 1 rfl) ?_
          refine lv_dup (pc := 53) C0.1 C0.2.1 d_SU_addCoset_53 rfl ?_
          refine mg_get (pc := 54) C0 in_SU hK hP (10 + 3 * i) fo rfl 0 (by decide) fl_SU_37 rfl d_SU_addCoset_54 ?_
          refine lv_iconst (pc := 57) (v := nI (1)) C0.1 C0.2.1 d_SU_addCoset_57 (by decide +kernel) ?_
          refine mn_add (pc := 58) C0 d_SU_addCoset_58 ?_
          refine mg_put (pc := 59) C0 in_SU t_SU_ok n_SU hK hP hD hS (10 + 3 * i) fo rfl 0 (by decide) fl_SU_37 rfl (ty := .int) (by decide +kernel) rfl rfl (Nat.le_of_ble_eq_true rfl) (fs' := [.int (nI ((z + q) + 1)), .ref (ad 1), .ref (ad (11 + 3 * i)), .ref (ad (12 + 3 * i)), .int (kc), .ref (ad 8)]) rfl d_SU_addCoset_59 (fun ws H locs hfr fo hP hD hS => ?_)
          have f1 := (hfr (1) (by omega)).trans f1
          have f8 := (hfr (8) (by omega)).trans f8
          have fm := (hfr (11 + 3 * i) (by omega)).trans fm
          have hsy := sy_fr (hfr (1) (by omega)) (hfr (2) (by omega)) (hfr (3) (by omega)) hsy
          have hfm : ∀ j, j ≠ 3 ∧ j ≠ 8 ∧ j ≠ 10 + 3 * i ∧ j ≠ 11 + 3 * i → ws[j]? = ws0[j]? := fun j hj => (hfr j (by omega)).trans (hfm j hj)
          refine lv_iinc (pc := 62) (k := 4) (v := nI (q + 1)) (lv' := [(3, .int (nI (q + 1))), (4, .int (nI (pm_mu n (LN q) t0))), (0, .ref (ad (10 + 3 * i))), (1, .int (nI (b))), (2, .int (nI (t0)))]) C0.1 C0.2.1 d_SU_addCoset_62 hl rfl (nb_p1 _) (by decide) rfl (fun ls hl => ?_)
          refine lv_goto (pc := 65) (tgt := 2) C0.1 C0.2.1 d_SU_addCoset_65 (by decide) ?_
          exact ih_loop _ (by omega) (q + 1) fn (upd L (z + q) (nI (pm_mu n (LN q) t0))) (ma_in Y (pm_mu n (LN q) t0)) (su_up M (z + q) (pm_mu n (LN q) t0)) _ _ _ _ rfl (by omega) (su_wd_in hwY hfn) (fun j hj => by
            by_cases e : j = z + q
            · subst e; rw [pk_us, su_us]
            · rw [pk_un e, su_un _ _ e]; exact hLM j (by omega)) (fun j hj => by rw [su_un _ _ (by omega)]; exact hM1 j hj) (fun j hj => by
            by_cases e : j = q
            · subst e; exact su_us _ _ _
            · rw [su_un _ _ (by omega)]; exact hM2 j (by omega)) (fun x => by
            rw [ma_in_iff, hY x]
            constructor
            · rintro ((h | ⟨j, hj, he⟩) | h)
              · exact Or.inl h
              · exact Or.inr ⟨j, by omega, he⟩
              · exact Or.inr ⟨q, by omega, h⟩
            · rintro (h | ⟨j, hj, he⟩)
              · exact Or.inl (Or.inl h)
              · by_cases e : j = q
                · subst e; exact Or.inr he
                · exact Or.inl (Or.inr ⟨j, by omega, he⟩)) (by rw [hcn]; omega) hsy hfm fo fm f8 (lv_sub hl [2, 3, 4, 0] rfl) hP hD hS
  exact loop _ 0 f L X LN _ _ _ _ rfl (by omega) hw0 hL0 (fun _ _ => rfl) (fun j hj => absurd hj (by omega)) (fun x => ⟨Or.inl, fun h => h.elim id (fun ⟨j, hj, _⟩ => absurd hj (by omega))⟩) hI.1 hsy hfm fo fm f8 (lv_sub hl [1, 2, 3, 0] rfl) hP hD hS
set_option maxHeartbeats 4000000 in
set_option maxRecDepth 100000 in
theorem c_SU_add (l : Launch) (D : va_G) (ca : Nat → ClassId) (ad : Nat → Nat) {n : Nat} (h2 : 2 ≤ n) (h6 : n ≤ 6) {i c0 k : Nat} {S : Nat → Bool} {G : Nat → Nat} (hc0 : c0 < pm_fc n) (ws0 : va_W) (hsy : sy_ok ca ad n ws0) (hli : li_ok ca ad n ws0) (hsu : su_ok ca ad n i ws0 S G k) : mg_V l y_SU_add b_SU_add 6 5 D classes (tys_ ca) [.ref (ad (10 + 3 * i)), .int (nI (c0))] ws0 (fun w => (∀ j, j ≠ 3 ∧ j ≠ 8 ∧ j ≠ 10 + 3 * i ∧ j ≠ 11 + 3 * i ∧ j ≠ 12 + 3 * i → w[j]? = ws0[j]?) ∧ sy_ok ca ad n w ∧ li_ok ca ad n w ∧ ∃ (S1 : Nat → Bool) (G1 : Nat → Nat) (k1 : Nat), su_ok ca ad n i w S1 G1 k1 ∧ gp_ext (pm_fc n) (pm_mu n) (pm_iv n) (fun x => S x = true) c0 (fun x => S1 x = true) ∧ k ≤ k1 ∧ ∀ j, j < k → G1 j = G j) := by
  have z1 := hsy.1
  have hN := pm_fc_le h6
  have g0 := pm_gp h2 h6
  have hN0 := pm_fc_pos n
  have hli0 := hli
  have hsu0 := hsu
  have hsy0 := hsy
  obtain ⟨L, z8⟩ := hli
  obtain ⟨f, g, ⟨zo, zm, zg⟩, hwd, hgG, hgen, h2k⟩ := hsu
  have hk9 := su_k9 h6 h2k (ma_cn_le S (pm_fc n))
  generalize hb : ma_cn S (pm_fc n) = b at zo h2k
  have hbN := ma_cn_le S (pm_fc n)
  rw [hb] at hbN
  refine mg_openV (own := R_SU) rfl (by decide) (Nat.le_of_ble_eq_true rfl) ?_
  intro p e s m args below meth c A Q ls C0 hK hA hP hD hS hl hret
  have hl : lv_has ls 6 [(0, .ref (ad (10 + 3 * i))), (1, .int (nI (c0)))] := hl
  have f1 := z1
  have fo := zo
  have fm := zm
  have fg := zg
  have f8 := z8
  have hfm : ∀ j, j ≠ 3 ∧ j ≠ 8 ∧ j ≠ 10 + 3 * i ∧ j ≠ 11 + 3 * i ∧ j ≠ 12 + 3 * i → ws0[j]? = ws0[j]? := fun _ _ => rfl
  refine lv_aload_n (pc := 0) C0.1 C0.2.1 d_SU_add_0 rfl (lv_at hl 0 rfl) ?_
  refine lv_iload_n (pc := 1) C0.1 C0.2.1 d_SU_add_1 rfl (lv_at hl 1 rfl) ?_
  refine mg_ci (pc := 2) (As := [.int (nI (c0))]) (rest := []) C0 (c_SU_has l D ca ad h2 h6 hc0 ws0 fo fm) lk_SU_47 (by decide) fo rfl hK hP hD hS hA rfl hl.1 rfl (Nat.le_of_ble_eq_true rfl) d_SU_add_2 (fun rv ws1 H locs hpost hP hD hS => ?_)
  obtain ⟨hr1, hw⟩ := hpost
  rw [hw] at hP hD
  rw [su_wd_lt hwd hc0] at hr1
  cases hs : S c0 with
  | true =>
      rw [hs, if_pos rfl] at hr1
      refine mg_top (show rv = nI (1) from hr1) ?_
      refine mz_ne (pc := 5) (tgt := 17) C0 (by decide) d_SU_add_5 (by decide) (fun _ => ?_) (fun h9 => absurd h9 (by decide))
      exact hret _ _ _ 17 _ (⟨hfm, hsy0, hli0, S, G, k, hsu0, gp_ext_id hgen.1 hs, Nat.le_refl _, fun _ _ => rfl⟩) hP hD hS d_SU_add_17
  | false =>
      rw [hs, if_neg (by decide)] at hr1
      refine mg_top (show rv = nI (0) from hr1) ?_
      refine mz_ne (pc := 5) (tgt := 17) C0 (by decide) d_SU_add_5 (by decide) (fun h9 => absurd rfl h9) (fun _ => ?_)
      refine lv_aload_n (pc := 8) C0.1 C0.2.1 d_SU_add_8 rfl (lv_at hl 0 rfl) ?_
      refine mg_get (pc := 9) C0 in_SU hK hP (10 + 3 * i) fo rfl 4 (by decide) fl_SU_38 rfl d_SU_add_9 ?_
      refine lv_bipush (pc := 12) (v := nI (10)) C0.1 C0.2.1 d_SU_add_12 (by decide +kernel) ?_
      refine mb_lt (pc := 14) (tgt := 18) C0 (by omega) (by omega) d_SU_add_14 (by decide) (fun hc => ?_) (fun hc => ?_)
      · refine lv_aload_n (pc := 18) C0.1 C0.2.1 d_SU_add_18 rfl (lv_at hl 0 rfl) ?_
        refine mg_get (pc := 19) C0 in_SU hK hP (10 + 3 * i) fo rfl 3 (by decide) fl_SU_27 rfl d_SU_add_19 ?_
        refine lv_aload_n (pc := 22) C0.1 C0.2.1 d_SU_add_22 rfl (lv_at hl 0 rfl) ?_
        refine mg_get (pc := 23) C0 in_SU hK hP (10 + 3 * i) fo rfl 4 (by decide) fl_SU_38 rfl d_SU_add_23 ?_
        refine lv_iload_n (pc := 26) C0.1 C0.2.1 d_SU_add_26 rfl (lv_at hl 1 rfl) ?_
        refine mg_ist (pc := 27) C0 hK hP hD hS (12 + 3 * i) 1 fg rfl (j := k) (by omega) (by omega) d_SU_add_27 (fun ws H locs hfr fg hP hD hS => ?_)
        have f1 := (hfr (1) (by omega)).trans f1
        have fo := (hfr (10 + 3 * i) (by omega)).trans fo
        have fm := (hfr (11 + 3 * i) (by omega)).trans fm
        have f8 := (hfr (8) (by omega)).trans f8
        have hsy := sy_fr (hfr (1) (by omega)) (hfr (2) (by omega)) (hfr (3) (by omega)) hsy
        have hfm : ∀ j, j ≠ 3 ∧ j ≠ 8 ∧ j ≠ 10 + 3 * i ∧ j ≠ 11 + 3 * i ∧ j ≠ 12 + 3 * i → ws[j]? = ws0[j]? := fun j hj => (hfr j (by omega)).trans (hfm j hj)
        refine lv_aload_n (pc := 28) C0.1 C0.2.1 d_SU_add_28 rfl (lv_at hl 0 rfl) ?_
        refine lv_dup (pc := 29) C0.1 C0.2.1 d_SU_add_29 rfl ?_
        refine mg_get (pc := 30) C0 in_SU hK hP (10 + 3 * i) fo rfl 4 (by decide) fl_SU_38 rfl d_SU_add_30 ?_
        refine lv_iconst (pc := 33) (v := nI (1)) C0.1 C0.2.1 d_SU_add_33 (by decide +kernel) ?_
        refine mn_add (pc := 34) C0 d_SU_add_34 ?_
        refine mg_put (pc := 35) C0 in_SU t_SU_ok n_SU hK hP hD hS (10 + 3 * i) fo rfl 4 (by decide) fl_SU_38 rfl (ty := .int) (by decide +kernel) rfl rfl (Nat.le_of_ble_eq_true rfl) (fs' := [.int (nI (b)), .ref (ad 1), .ref (ad (11 + 3 * i)), .ref (ad (12 + 3 * i)), .int (nI (k + 1)), .ref (ad 8)]) rfl d_SU_add_35 (fun ws H locs hfr fo hP hD hS => ?_)
        have f1 := (hfr (1) (by omega)).trans f1
        have fm := (hfr (11 + 3 * i) (by omega)).trans fm
        have fg := (hfr (12 + 3 * i) (by omega)).trans fg
        have f8 := (hfr (8) (by omega)).trans f8
        have hsy := sy_fr (hfr (1) (by omega)) (hfr (2) (by omega)) (hfr (3) (by omega)) hsy
        have hfm : ∀ j, j ≠ 3 ∧ j ≠ 8 ∧ j ≠ 10 + 3 * i ∧ j ≠ 11 + 3 * i ∧ j ≠ 12 + 3 * i → ws[j]? = ws0[j]? := fun j hj => (hfr j (by omega)).trans (hfm j hj)
        refine lv_aload_n (pc := 38) C0.1 C0.2.1 d_SU_add_38 rfl (lv_at hl 0 rfl) ?_
        refine mg_get (pc := 39) C0 in_SU hK hP (10 + 3 * i) fo rfl 0 (by decide) fl_SU_37 rfl d_SU_add_39 ?_
        refine lv_istore_n (pc := 42) (lv' := [(2, .int (nI (b))), (0, .ref (ad (10 + 3 * i))), (1, .int (nI (c0)))]) C0.1 C0.2.1 d_SU_add_42 rfl hl (by decide) rfl (fun ls hl => ?_)
        refine lv_aload_n (pc := 43) C0.1 C0.2.1 d_SU_add_43 rfl (lv_at hl 1 rfl) ?_
        refine mg_cv (pc := 44) (As := []) (rest := []) C0 (c_SU_listMembers l D ca ad h2 h6 hwd ws f1 fo fm f8) lk_SU_69 (by decide) fo rfl hK hP hD hS hA rfl hl.1 rfl (Nat.le_of_ble_eq_true rfl) d_SU_add_44 (fun ws H locs hpost hP hD hS => ?_)
        obtain ⟨hfr, L1, f8, hL1⟩ := hpost
        have f1 := (hfr (1) (by omega)).trans f1
        have fo := (hfr (10 + 3 * i) (by omega)).trans fo
        have fm := (hfr (11 + 3 * i) (by omega)).trans fm
        have fg := (hfr (12 + 3 * i) (by omega)).trans fg
        have hsy := sy_fr (hfr (1) (by omega)) (hfr (2) (by omega)) (hfr (3) (by omega)) hsy
        have hfm : ∀ j, j ≠ 3 ∧ j ≠ 8 ∧ j ≠ 10 + 3 * i ∧ j ≠ 11 + 3 * i ∧ j ≠ 12 + 3 * i → ws[j]? = ws0[j]? := fun j hj => (hfr j (by omega)).trans (hfm j hj)
        have hE := co_el hgen.1 hN0
        rw [hb] at hE
        have hI0 := co_I0 g0 hgen.1 hE hb.symm
        have hLL : ∀ j, j < b → L1 j = nI (ma_el S j (pm_fc n)) := fun j hj => by
          rw [← hb] at hj
          obtain ⟨r, h1, h3, h4⟩ := ma_cn_ex hj
          have h5 := hL1 r h1 h3
          rw [h4] at h5
          rw [h5, ma_el_eq h3 h4 h1]
        refine lv_aload_n (pc := 47) C0.1 C0.2.1 d_SU_add_47 rfl (lv_at hl 1 rfl) ?_
        refine lv_iload_n (pc := 48) C0.1 C0.2.1 d_SU_add_48 rfl (lv_at hl 0 rfl) ?_
        refine lv_iload_n (pc := 49) C0.1 C0.2.1 d_SU_add_49 rfl (lv_at hl 2 rfl) ?_
        refine mg_cv (pc := 50) (As := [.int (nI (b)), .int (nI (c0))]) (rest := []) C0 (c_SU_addCoset l D ca ad h2 h6 hgen.1 hE hI0 (Nat.le_refl _) hwd hLL hc0 hs ws hsy fo fm f8) lk_SU_72 (by decide) fo rfl hK hP hD hS hA rfl hl.1 rfl (Nat.le_of_ble_eq_true rfl) d_SU_add_50 (fun ws H locs hpost hP hD hS => ?_)
        obtain ⟨hfr, hsy, f9, L9, X9, N9, fo, fm, f8, hw9, hL9, hX9, hE9, hI9, hN9⟩ := hpost
        have f1 := (hfr (1) (by omega)).trans f1
        have fg := (hfr (12 + 3 * i) (by omega)).trans fg
        have hfm : ∀ j, j ≠ 3 ∧ j ≠ 8 ∧ j ≠ 10 + 3 * i ∧ j ≠ 11 + 3 * i ∧ j ≠ 12 + 3 * i → ws[j]? = ws0[j]? := fun j hj => (hfr j (by omega)).trans (hfm j hj)
        have hgl : ∀ s, s < k + 1 → su_up G k c0 s < pm_fc n := fun s hs1 => by
          by_cases e : s = k
          · rw [e, su_us]; exact hc0
          · rw [su_un _ _ e]; exact gp_gen_lt hgen (by omega)
        have hgg : ∀ j, j < k + 1 → upd g k (nI c0) j = nI (su_up G k c0 j) := fun j hj => by
          by_cases e : j = k
          · subst e; rw [pk_us, su_us]
          · rw [pk_un e, su_un _ _ e]; exact hgG j (by omega)
        have hXH : ∀ x, S x = true → X9 x = true := fun x hx => (hX9 x).mpr (Or.inl hx)
        have hXc : X9 c0 = true := (hX9 c0).mpr (Or.inr ⟨0, hE.1, by
          have h0 : ma_el S 0 (pm_fc n) = 0 := hE.2.1
          rw [h0, gp_ol g0 hc0]⟩)
        have hst : ad_st ca ad n i ws S (su_up G k c0) (k + 1) b c0 X9 N9 (b + b) := ⟨f9, upd g k (nI c0), L9, ⟨fo, fm, fg⟩, f8, hw9, hgg, hL9, hE9, hI9, by omega, hXH, hXc, fun T hT hH hTc x hx => by
          rcases (hX9 x).mp hx with h | ⟨j, hj, he⟩
          · exact hH x h
          · rw [he]; exact hT.2.2.1 _ _ (hH _ (hE.2.2.1 j hj)) hTc⟩
        have hproc : ∀ j s, j < 1 → s < k + 1 → X9 (pm_mu n (N9 (j * b)) (su_up G k c0 s)) = true := fun j s hj hs1 => by
          have hj0 : j = 0 := by omega
          subst hj0
          rw [Nat.zero_mul, hE9.2.1, gp_ol g0 (hgl s hs1)]
          by_cases e : s = k
          · rw [e, su_us]; exact hXc
          · rw [su_un _ _ e]; exact hXH _ (hgen.2.1 s (by omega))
        have hbp := hE.1
        refine lv_iload_n (pc := 53) C0.1 C0.2.1 d_SU_add_53 rfl (lv_at hl 0 rfl) ?_
        refine mg_top (show nI (b) = nI (1 * b) from by rw [Nat.one_mul]) ?_
        refine lv_istore_n (pc := 54) (lv' := [(3, .int (nI (1 * b))), (2, .int (nI (b))), (0, .ref (ad (10 + 3 * i))), (1, .int (nI (c0)))]) C0.1 C0.2.1 d_SU_add_54 rfl hl (by decide) rfl (fun ls hl => ?_)
        have outer : ∀ (d : Nat) (q : Nat) (z : Nat) (X : Nat → Bool) (LN : Nat → Nat) (ws : va_W) (H : Heap) (locs : List Loc) (ls : Array Slot), pm_fc n - q * b = d → (ad_st ca ad n i ws S (su_up G k c0) (k + 1) b c0 X LN z) → (∀ j s, j < q → s < k + 1 → X (pm_mu n (LN (j * b)) (su_up G k c0 s)) = true) → (1 ≤ q) → (q * b ≤ z) → (sy_ok ca ad n ws) → (∀ j, j ≠ 3 ∧ j ≠ 8 ∧ j ≠ 10 + 3 * i ∧ j ≠ 11 + 3 * i ∧ j ≠ 12 + 3 * i → ws[j]? = ws0[j]?) → lv_has ls 6 [(0, .ref (ad (10 + 3 * i))), (1, .int (nI (c0))), (2, .int (nI (b))), (3, .int (nI (q * b)))] → va_P D classes ws H → va_D A ws → va_S A s.heap H locs → W p l e (mg_rm 5) s m args below meth c H locs 0 0 Q (F0 m 55 ls []) := by
          intro d
          induction d using Nat.strongRecOn with
          | _ d ih_outer =>
            intro q z X LN ws H locs ls hd hst hproc hq1 hqz hsy hfm hl hP hD hS
            have f1 := (hfm (1) (by omega)).trans z1
            obtain ⟨f, g, L, ⟨fo, fm, fg⟩, f8, hwX, hgX, hLX, hEX, hIX, hbz, hXH, hXc, hmin⟩ := hst
            have hzN := ma_cn_le X (pm_fc n)
            rw [← hIX.1] at hzN
            refine lv_iload_n (pc := 55) C0.1 C0.2.1 d_SU_add_55 rfl (lv_at hl 3 rfl) ?_
            refine lv_aload_n (pc := 56) C0.1 C0.2.1 d_SU_add_56 rfl (lv_at hl 0 rfl) ?_
            refine mg_get (pc := 57) C0 in_SU hK hP (10 + 3 * i) fo rfl 0 (by decide) fl_SU_37 rfl d_SU_add_57 ?_
            refine mb_ge (pc := 60) (tgt := 135) C0 (by omega) (by omega) d_SU_add_60 (by decide) (fun hc => ?_) (fun hc => ?_)
            · have hcl := co_closed g0 hgen.1 hEX hIX hgl (fun j s hj hs1 => hproc j s (by
                rcases Nat.lt_or_ge j q with h | h
                · exact h
                · have := Nat.mul_le_mul_right b h; omega) hs1)
              obtain ⟨hgen1, hext⟩ := gp_grow g0 (S := fun x => X x = true) hgen hc0 (gs' := su_up G k c0) (fun j hj => su_un _ _ (by omega)) (su_us _ _ _) (hXH _ hgen.1.1) hIX.2.2.1 hcl hmin
              have hhalf := gp_half g0 hgen.1 hgen1.1 hXH hXc hs
              rw [hb] at hhalf
              rw [hIX.1] at fo
              exact hret _ _ _ 135 _ (⟨hfm, hsy, ⟨L, f8⟩, X, su_up G k c0, k + 1, ⟨f, g, ⟨fo, fm, fg⟩, hwX, hgX, hgen1, by rw [Nat.pow_succ]; omega⟩, hext, Nat.le_succ k, fun j hj => su_un _ _ (by omega)⟩) hP hD hS d_SU_add_135
            · have hqlt := hc
              refine lv_iload_n (pc := 63) C0.1 C0.2.1 d_SU_add_63 rfl (lv_at hl 3 rfl) ?_
              refine lv_aload_n (pc := 64) C0.1 C0.2.1 d_SU_add_64 rfl (lv_at hl 0 rfl) ?_
              refine mg_get (pc := 65) C0 in_SU hK hP (10 + 3 * i) fo rfl 5 (by decide) fl_SU_13 rfl d_SU_add_65 ?_
              refine va_alen (pc := 68) C0.1 C0.2.1 hK hP (8) 1 f8 rfl (v := nI (pm_fc n)) rfl d_SU_add_68 ?_
              refine mb_ge (pc := 69) (tgt := 135) C0 (by omega) (by omega) d_SU_add_69 (by decide) (fun hc => ?_) (fun hc => ?_)
              · exact absurd hc (by omega)
              · refine lv_iconst (pc := 72) (v := nI (0)) C0.1 C0.2.1 d_SU_add_72 (by decide +kernel) ?_
                refine lv_istore (pc := 73) (lv' := [(4, .int (nI (0))), (0, .ref (ad (10 + 3 * i))), (1, .int (nI (c0))), (2, .int (nI (b))), (3, .int (nI (q * b)))]) C0.1 C0.2.1 d_SU_add_73 hl (by decide) rfl (fun ls hl => ?_)
                have hst : ad_st ca ad n i ws S (su_up G k c0) (k + 1) b c0 X LN z := ⟨f, g, L, ⟨fo, fm, fg⟩, f8, hwX, hgX, hLX, hEX, hIX, hbz, hXH, hXc, hmin⟩
                have inner : ∀ (d : Nat) (u : Nat) (z : Nat) (X : Nat → Bool) (LN : Nat → Nat) (ws : va_W) (H : Heap) (locs : List Loc) (ls : Array Slot), k + 1 - u = d → (ad_st ca ad n i ws S (su_up G k c0) (k + 1) b c0 X LN z) → (u ≤ k + 1) → (∀ j s, j < q → s < k + 1 → X (pm_mu n (LN (j * b)) (su_up G k c0 s)) = true) → (∀ s, s < u → X (pm_mu n (LN (q * b)) (su_up G k c0 s)) = true) → (q * b < z) → (sy_ok ca ad n ws) → (∀ j, j ≠ 3 ∧ j ≠ 8 ∧ j ≠ 10 + 3 * i ∧ j ≠ 11 + 3 * i ∧ j ≠ 12 + 3 * i → ws[j]? = ws0[j]?) → lv_has ls 6 [(0, .ref (ad (10 + 3 * i))), (1, .int (nI (c0))), (2, .int (nI (b))), (3, .int (nI (q * b))), (4, .int (nI (u)))] → va_P D classes ws H → va_D A ws → va_S A s.heap H locs → W p l e (mg_rm 5) s m args below meth c H locs 0 0 Q (F0 m 75 ls []) := by
                  intro d
                  induction d using Nat.strongRecOn with
                  | _ d ih_inner =>
                    intro u z X LN ws H locs ls hd hst hu hproc hin hqz hsy hfm hl hP hD hS
                    have f1 := (hfm (1) (by omega)).trans z1
                    obtain ⟨f, g, L, ⟨fo, fm, fg⟩, f8, hwX, hgX, hLX, hEX, hIX, hbz, hXH, hXc, hmin⟩ := hst
                    have hzN := ma_cn_le X (pm_fc n)
                    rw [← hIX.1] at hzN
                    refine lv_iload (pc := 75) C0.1 C0.2.1 d_SU_add_75 (lv_at hl 4 rfl) ?_
                    refine lv_aload_n (pc := 77) C0.1 C0.2.1 d_SU_add_77 rfl (lv_at hl 0 rfl) ?_
                    refine mg_get (pc := 78) C0 in_SU hK hP (10 + 3 * i) fo rfl 4 (by decide) fl_SU_38 rfl d_SU_add_78 ?_
                    refine mb_ge (pc := 81) (tgt := 128) C0 (by omega) (by omega) d_SU_add_81 (by decide) (fun hc => ?_) (fun hc => ?_)
                    · refine lv_iload_n (pc := 128) C0.1 C0.2.1 d_SU_add_128 rfl (lv_at hl 3 rfl) ?_
                      refine lv_iload_n (pc := 129) C0.1 C0.2.1 d_SU_add_129 rfl (lv_at hl 2 rfl) ?_
                      refine mn_add (pc := 130) C0 d_SU_add_130 ?_
                      refine mg_top (show nI ((q * b) + b) = nI ((q + 1) * b) from by rw [Nat.succ_mul]) ?_
                      refine lv_istore_n (pc := 131) (lv' := [(3, .int (nI ((q + 1) * b))), (0, .ref (ad (10 + 3 * i))), (1, .int (nI (c0))), (2, .int (nI (b))), (4, .int (nI (u)))]) C0.1 C0.2.1 d_SU_add_131 rfl hl (by decide) rfl (fun ls hl => ?_)
                      refine lv_goto (pc := 132) (tgt := 55) C0.1 C0.2.1 d_SU_add_132 (by decide) ?_
                      have hst : ad_st ca ad n i ws S (su_up G k c0) (k + 1) b c0 X LN z := ⟨f, g, L, ⟨fo, fm, fg⟩, f8, hwX, hgX, hLX, hEX, hIX, hbz, hXH, hXc, hmin⟩
                      have hnext : (q + 1) * b ≤ z := by
                        obtain ⟨m1, hm1⟩ := hIX.2.1
                        rw [hm1] at hqz ⊢
                        exact Nat.mul_le_mul_right b (Nat.lt_of_mul_lt_mul_right hqz)
                      exact ih_outer _ (by rw [Nat.succ_mul]; omega) (q + 1) z X LN _ _ _ _ rfl hst (fun j s hj hs1 => by
                        by_cases e : j = q
                        · subst e; exact hin s (by omega)
                        · exact hproc j s (by omega) hs1) (by omega) hnext hsy hfm (lv_sub hl [1, 2, 3, 0] rfl) hP hD hS
                    · have hu1 := hc
                      refine lv_aload_n (pc := 84) C0.1 C0.2.1 d_SU_add_84 rfl (lv_at hl 0 rfl) ?_
                      refine mg_get (pc := 85) C0 in_SU hK hP (10 + 3 * i) fo rfl 1 (by decide) fl_SU_7 rfl d_SU_add_85 ?_
                      refine lv_aload_n (pc := 88) C0.1 C0.2.1 d_SU_add_88 rfl (lv_at hl 0 rfl) ?_
                      refine mg_get (pc := 89) C0 in_SU hK hP (10 + 3 * i) fo rfl 5 (by decide) fl_SU_13 rfl d_SU_add_89 ?_
                      refine lv_iload_n (pc := 92) C0.1 C0.2.1 d_SU_add_92 rfl (lv_at hl 3 rfl) ?_
                      refine mg_ild (pc := 93) C0 hK hP (8) 1 f8 rfl (j := q * b) (by omega) (by omega) d_SU_add_93 ?_
                      refine mg_top (show L (q * b) = nI (LN (q * b)) from hLX _ hqz) ?_
                      refine lv_aload_n (pc := 94) C0.1 C0.2.1 d_SU_add_94 rfl (lv_at hl 0 rfl) ?_
                      refine mg_get (pc := 95) C0 in_SU hK hP (10 + 3 * i) fo rfl 3 (by decide) fl_SU_27 rfl d_SU_add_95 ?_
                      refine lv_iload (pc := 98) C0.1 C0.2.1 d_SU_add_98 (lv_at hl 4 rfl) ?_
                      refine mg_ild (pc := 100) C0 hK hP (12 + 3 * i) 1 fg rfl (j := u) (by omega) (by omega) d_SU_add_100 ?_
                      refine mg_top (show g (u) = nI (su_up G k c0 u) from hgX u hu1) ?_
                      have hl1 := hIX.2.2.1 _ (hIX.2.2.2.1 q hqz)
                      have hnx := gp_m g0 hl1 (hgl u hu1)
                      refine mg_ci (pc := 101) (As := [.int (nI (LN (q * b))), .int (nI (su_up G k c0 u))]) (rest := []) C0 (c_SY_multiply l D ca ad h2 h6 hl1 (hgl u hu1) ws hsy) lk_SU_76 (by decide) f1 rfl hK hP hD hS hA rfl hl.1 rfl (Nat.le_of_ble_eq_true rfl) d_SU_add_101 (fun rv ws H locs hpost hP hD hS => ?_)
                      obtain ⟨hr1, hfr, hsy⟩ := hpost
                      have f1 := (hfr (1) (by omega)).trans f1
                      have fo := (hfr (10 + 3 * i) (by omega)).trans fo
                      have fm := (hfr (11 + 3 * i) (by omega)).trans fm
                      have fg := (hfr (12 + 3 * i) (by omega)).trans fg
                      have f8 := (hfr (8) (by omega)).trans f8
                      have hfm : ∀ j, j ≠ 3 ∧ j ≠ 8 ∧ j ≠ 10 + 3 * i ∧ j ≠ 11 + 3 * i ∧ j ≠ 12 + 3 * i → ws[j]? = ws0[j]? := fun j hj => (hfr j (by omega)).trans (hfm j hj)
                      refine mg_top (show rv = nI (pm_mu n (LN (q * b)) (su_up G k c0 u)) from hr1) ?_
                      refine lv_istore (pc := 104) (lv' := [(5, .int (nI (pm_mu n (LN (q * b)) (su_up G k c0 u)))), (0, .ref (ad (10 + 3 * i))), (1, .int (nI (c0))), (2, .int (nI (b))), (3, .int (nI (q * b))), (4, .int (nI (u)))]) C0.1 C0.2.1 d_SU_add_104 hl (by decide) rfl (fun ls hl => ?_)
                      refine lv_aload_n (pc := 106) C0.1 C0.2.1 d_SU_add_106 rfl (lv_at hl 1 rfl) ?_
                      refine lv_iload (pc := 107) C0.1 C0.2.1 d_SU_add_107 (lv_at hl 0 rfl) ?_
                      refine mg_ci (pc := 109) (As := [.int (nI (pm_mu n (LN (q * b)) (su_up G k c0 u)))]) (rest := []) C0 (c_SU_has l D ca ad h2 h6 hnx ws fo fm) lk_SU_47 (by decide) fo rfl hK hP hD hS hA rfl hl.1 rfl (Nat.le_of_ble_eq_true rfl) d_SU_add_109 (fun rv ws1 H locs hpost hP hD hS => ?_)
                      obtain ⟨hr1, hw⟩ := hpost
                      rw [hw] at hP hD
                      rw [su_wd_lt hwX hnx] at hr1
                      cases hx : X (pm_mu n (LN (q * b)) (su_up G k c0 u)) with
                      | true =>
                          rw [hx, if_pos rfl] at hr1
                          refine mg_top (show rv = nI (1) from hr1) ?_
                          refine mz_ne (pc := 112) (tgt := 122) C0 (by decide) d_SU_add_112 (by decide) (fun _ => ?_) (fun h9 => absurd h9 (by decide))
                          refine lv_iinc (pc := 122) (k := 5) (v := nI (u + 1)) (lv' := [(4, .int (nI (u + 1))), (5, .int (nI (pm_mu n (LN (q * b)) (su_up G k c0 u)))), (0, .ref (ad (10 + 3 * i))), (1, .int (nI (c0))), (2, .int (nI (b))), (3, .int (nI (q * b)))]) C0.1 C0.2.1 d_SU_add_122 hl rfl (nb_p1 _) (by decide) rfl (fun ls hl => ?_)
                          refine lv_goto (pc := 125) (tgt := 75) C0.1 C0.2.1 d_SU_add_125 (by decide) ?_
                          exact ih_inner _ (by omega) (u + 1) z X LN _ _ _ _ rfl (⟨f, g, L, ⟨fo, fm, fg⟩, f8, hwX, hgX, hLX, hEX, hIX, hbz, hXH, hXc, hmin⟩) (by omega) hproc (fun s hs1 => by
                            by_cases e : s = u
                            · subst e; exact hx
                            · exact hin s (by omega)) hqz hsy hfm (lv_sub hl [2, 3, 4, 5, 0] rfl) hP hD hS
                      | false =>
                          rw [hx, if_neg (by decide)] at hr1
                          refine mg_top (show rv = nI (0) from hr1) ?_
                          refine mz_ne (pc := 112) (tgt := 122) C0 (by decide) d_SU_add_112 (by decide) (fun h9 => absurd rfl h9) (fun _ => ?_)
                          refine lv_aload_n (pc := 115) C0.1 C0.2.1 d_SU_add_115 rfl (lv_at hl 1 rfl) ?_
                          refine lv_iload_n (pc := 116) C0.1 C0.2.1 d_SU_add_116 rfl (lv_at hl 3 rfl) ?_
                          refine lv_iload (pc := 117) C0.1 C0.2.1 d_SU_add_117 (lv_at hl 0 rfl) ?_
                          refine mg_cv (pc := 119) (As := [.int (nI (b)), .int (nI (pm_mu n (LN (q * b)) (su_up G k c0 u)))]) (rest := []) C0 (c_SU_addCoset l D ca ad h2 h6 hgen.1 hEX hIX hbz hwX hLX hnx hx ws hsy fo fm f8) lk_SU_72 (by decide) fo rfl hK hP hD hS hA rfl hl.1 rfl (Nat.le_of_ble_eq_true rfl) d_SU_add_119 (fun ws H locs hpost hP hD hS => ?_)
                          obtain ⟨hfr, hsy, f9, L9, X9, N9, fo, fm, f8, hw9, hL9, hX9, hE9, hI9, hN9⟩ := hpost
                          have f1 := (hfr (1) (by omega)).trans f1
                          have fg := (hfr (12 + 3 * i) (by omega)).trans fg
                          have hfm : ∀ j, j ≠ 3 ∧ j ≠ 8 ∧ j ≠ 10 + 3 * i ∧ j ≠ 11 + 3 * i ∧ j ≠ 12 + 3 * i → ws[j]? = ws0[j]? := fun j hj => (hfr j (by omega)).trans (hfm j hj)
                          refine lv_iinc (pc := 122) (k := 5) (v := nI (u + 1)) (lv' := [(4, .int (nI (u + 1))), (5, .int (nI (pm_mu n (LN (q * b)) (su_up G k c0 u)))), (0, .ref (ad (10 + 3 * i))), (1, .int (nI (c0))), (2, .int (nI (b))), (3, .int (nI (q * b)))]) C0.1 C0.2.1 d_SU_add_122 hl rfl (nb_p1 _) (by decide) rfl (fun ls hl => ?_)
                          refine lv_goto (pc := 125) (tgt := 75) C0.1 C0.2.1 d_SU_add_125 (by decide) ?_
                          have hmono : ∀ x, X x = true → X9 x = true := fun x hx => (hX9 x).mpr (Or.inl hx)
                          have hNq : N9 (q * b) = LN (q * b) := hN9 _ hqz
                          have hself : X9 (pm_mu n (LN (q * b)) (su_up G k c0 u)) = true := (hX9 _).mpr (Or.inr ⟨0, hbp, by rw [hEX.2.1, gp_ol g0 hnx]⟩)
                          exact ih_inner _ (by omega) (u + 1) (z + b) X9 N9 _ _ _ _ rfl (⟨f9, g, L9, ⟨fo, fm, fg⟩, f8, hw9, hgX, hL9, hE9, hI9, by omega, fun x h => hmono x (hXH x h), hmono _ hXc, fun T hT hH hTc x hx9 => by
                            rcases (hX9 x).mp hx9 with h | ⟨j, hj, he⟩
                            · exact hmin T hT hH hTc x h
                            · have hT1 := hmin T hT hH hTc _ (hIX.2.2.2.1 q hqz)
                              have hT2 : T (su_up G k c0 u) := by
                                by_cases e : u = k
                                · rw [e, su_us]; exact hTc
                                · rw [su_un _ _ e]; exact hH _ (hgen.2.1 u (by omega))
                              rw [he]; exact hT.2.2.1 _ _ (hH _ (hEX.2.2.1 j hj)) (hT.2.2.1 _ _ hT1 hT2)⟩) (by omega) (fun j s hj hs1 => by
                            have hjb : j * b < z := by
                              have h9 := Nat.mul_le_mul_right b (show j + 1 ≤ q by omega)
                              rw [Nat.succ_mul] at h9; omega
                            rw [hN9 _ hjb]; exact hmono _ (hproc j s hj hs1)) (fun s hs1 => by
                            rw [hNq]
                            by_cases e : s = u
                            · subst e; exact hself
                            · exact hmono _ (hin s (by omega))) (by omega) hsy hfm (lv_sub hl [2, 3, 4, 5, 0] rfl) hP hD hS
                exact inner _ 0 z X LN _ _ _ _ rfl hst (by omega) hproc (fun s hs1 => absurd hs1 (by omega)) hqlt hsy hfm (lv_sub hl [1, 2, 3, 4, 0] rfl) hP hD hS
        exact outer _ 1 (b + b) X9 N9 _ _ _ _ rfl hst hproc (by omega) (by omega) hsy hfm (lv_sub hl [2, 3, 1, 0] rfl) hP hD hS
      · exact absurd hc (by omega)
