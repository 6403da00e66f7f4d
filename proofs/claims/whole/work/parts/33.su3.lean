/-! Subgroup: growth until kept, derived, holders -/
set_option maxHeartbeats 4000000 in
set_option maxRecDepth 100000 in
theorem c_SU_growUntilKeptBy (l : Launch) (D : va_G) (ca : Nat → ClassId) (ad : Nat → Nat) {n : Nat} (h2 : 2 ≤ n) (h6 : n ≤ 6) {i o k kG : Nat} {S SG : Nat → Bool} {G GG : Nat → Nat} (hio : i ≠ o) (ws0 : va_W) (hsy : sy_ok ca ad n ws0) (hli : li_ok ca ad n ws0) (hsu : su_ok ca ad n i ws0 S G k) (hso : su_ok ca ad n o ws0 SG GG kG) : mg_V l y_SU_growUntilKeptBy b_SU_growUntilKeptBy 4 6 D classes (tys_ ca) [.ref (ad (10 + 3 * i)), .ref (ad (10 + 3 * o))] ws0 (fun w => (∀ j, j ≠ 3 ∧ j ≠ 8 ∧ j ≠ 10 + 3 * i ∧ j ≠ 11 + 3 * i ∧ j ≠ 12 + 3 * i → w[j]? = ws0[j]?) ∧ sy_ok ca ad n w ∧ li_ok ca ad n w ∧ ∃ (S1 : Nat → Bool) (G1 : Nat → Nat) (k1 : Nat), su_ok ca ad n i w S1 G1 k1 ∧ (∀ x, S x = true → S1 x = true) ∧ (∀ j s, j < k1 → s < kG → S1 (ga_cj (pm_mu n) (pm_iv n) (G1 j) (GG s)) = true) ∧ ∀ U, gp_sg (pm_fc n) (pm_mu n) (pm_iv n) U → (∀ x, S x = true → U x) → (∀ x s, U x → s < kG → U (ga_cj (pm_mu n) (pm_iv n) x (GG s))) → ∀ x, S1 x = true → U x) := by
  have z1 := hsy.1
  have hN := pm_fc_le h6
  have g0 := pm_gp h2 h6
  refine mg_openV (own := R_SU) rfl (by decide) (Nat.le_of_ble_eq_true rfl) ?_
  intro p e s m args below meth c A Q ls C0 hK hA hP hD hS hl hret
  have hl : lv_has ls 4 [(0, .ref (ad (10 + 3 * i))), (1, .ref (ad (10 + 3 * o)))] := hl
  have f1 := z1
  have hfm : ∀ j, j ≠ 3 ∧ j ≠ 8 ∧ j ≠ 10 + 3 * i ∧ j ≠ 11 + 3 * i ∧ j ≠ 12 + 3 * i → ws0[j]? = ws0[j]? := fun _ _ => rfl
  refine lv_iconst (pc := 0) (v := nI (0)) C0.1 C0.2.1 d_SU_growUntilKeptBy_0 (by decide +kernel) ?_
  refine lv_istore_n (pc := 1) (lv' := [(2, .int (nI (0))), (0, .ref (ad (10 + 3 * i))), (1, .ref (ad (10 + 3 * o)))]) C0.1 C0.2.1 d_SU_growUntilKeptBy_1 rfl hl (by decide) rfl (fun ls hl => ?_)
  have outer : ∀ (d : Nat) (a : Nat) (S1 : Nat → Bool) (G1 : Nat → Nat) (k1 : Nat) (ws : va_W) (H : Heap) (locs : List Loc) (ls : Array Slot), 10 - a = d → (sy_ok ca ad n ws) → (li_ok ca ad n ws) → (su_ok ca ad n i ws S1 G1 k1) → (su_ok ca ad n o ws SG GG kG) → (∀ x, S x = true → S1 x = true) → (∀ U, gp_sg (pm_fc n) (pm_mu n) (pm_iv n) U → (∀ x, S x = true → U x) → (∀ x s, U x → s < kG → U (ga_cj (pm_mu n) (pm_iv n) x (GG s))) → ∀ x, S1 x = true → U x) → (a ≤ 9) → (∀ j s, j < a → s < kG → S1 (ga_cj (pm_mu n) (pm_iv n) (G1 j) (GG s)) = true) → (∀ j, j ≠ 3 ∧ j ≠ 8 ∧ j ≠ 10 + 3 * i ∧ j ≠ 11 + 3 * i ∧ j ≠ 12 + 3 * i → ws[j]? = ws0[j]?) → lv_has ls 4 [(0, .ref (ad (10 + 3 * i))), (1, .ref (ad (10 + 3 * o))), (2, .int (nI (a)))] → va_P D classes ws H → va_D A ws → va_S A s.heap H locs → W p l e (mg_rm 6) s m args below meth c H locs 0 0 Q (F0 m 2 ls []) := by
    intro d
    induction d using Nat.strongRecOn with
    | _ d ih_outer =>
      intro a S1 G1 k1 ws H locs ls hd hsy hli hsu hso hmo hmi hak hpr hfm hl hP hD hS
      have f1 := (hfm (1) (by omega)).trans z1
      have hsu0 := hsu
      have hso0 := hso
      obtain ⟨f, g, ⟨fo, fm, fg⟩, hwI, hgI, hgenI, h2I⟩ := hsu0
      obtain ⟨fo2, go2, ⟨fp, fq, fr⟩, hwO, hgO, hgenO, h2O⟩ := hso0
      have hk9 := su_k9 h6 h2I (ma_cn_le _ (pm_fc n))
      have hkO := su_k9 h6 h2O (ma_cn_le _ (pm_fc n))
      have hcI := ma_cn_le S1 (pm_fc n)
      refine lv_iload_n (pc := 2) C0.1 C0.2.1 d_SU_growUntilKeptBy_2 rfl (lv_at hl 2 rfl) ?_
      refine lv_aload_n (pc := 3) C0.1 C0.2.1 d_SU_growUntilKeptBy_3 rfl (lv_at hl 0 rfl) ?_
      refine mg_get (pc := 4) C0 in_SU hK hP (10 + 3 * i) fo rfl 4 (by decide) fl_SU_38 rfl d_SU_growUntilKeptBy_4 ?_
      refine mb_ge (pc := 7) (tgt := 61) C0 (by omega) (by omega) d_SU_growUntilKeptBy_7 (by decide) (fun hc => ?_) (fun hc => ?_)
      · exact hret _ _ _ 61 _ (⟨hfm, hsy, hli, S1, G1, k1, hsu, hmo, fun j s hj hs => hpr j s (by omega) hs, hmi⟩) hP hD hS d_SU_growUntilKeptBy_61
      · have hak1 := hc
        refine lv_iload_n (pc := 10) C0.1 C0.2.1 d_SU_growUntilKeptBy_10 rfl (lv_at hl 2 rfl) ?_
        refine lv_bipush (pc := 11) (v := nI (10)) C0.1 C0.2.1 d_SU_growUntilKeptBy_11 (by decide +kernel) ?_
        refine mb_ge (pc := 13) (tgt := 61) C0 (by omega) (by omega) d_SU_growUntilKeptBy_13 (by decide) (fun hc => ?_) (fun hc => ?_)
        · exact absurd hc (by omega)
        · refine lv_iconst (pc := 16) (v := nI (0)) C0.1 C0.2.1 d_SU_growUntilKeptBy_16 (by decide +kernel) ?_
          refine lv_istore_n (pc := 17) (lv' := [(3, .int (nI (0))), (0, .ref (ad (10 + 3 * i))), (1, .ref (ad (10 + 3 * o))), (2, .int (nI (a)))]) C0.1 C0.2.1 d_SU_growUntilKeptBy_17 rfl hl (by decide) rfl (fun ls hl => ?_)
          have inner : ∀ (d : Nat) (u : Nat) (S1 : Nat → Bool) (G1 : Nat → Nat) (k1 : Nat) (ws : va_W) (H : Heap) (locs : List Loc) (ls : Array Slot), kG - u = d → (sy_ok ca ad n ws) → (li_ok ca ad n ws) → (su_ok ca ad n i ws S1 G1 k1) → (su_ok ca ad n o ws SG GG kG) → (∀ x, S x = true → S1 x = true) → (∀ U, gp_sg (pm_fc n) (pm_mu n) (pm_iv n) U → (∀ x, S x = true → U x) → (∀ x s, U x → s < kG → U (ga_cj (pm_mu n) (pm_iv n) x (GG s))) → ∀ x, S1 x = true → U x) → (∀ j s, j < a → s < kG → S1 (ga_cj (pm_mu n) (pm_iv n) (G1 j) (GG s)) = true) → (∀ s, s < u → S1 (ga_cj (pm_mu n) (pm_iv n) (G1 a) (GG s)) = true) → (a < k1) → (u ≤ kG) → (∀ j, j ≠ 3 ∧ j ≠ 8 ∧ j ≠ 10 + 3 * i ∧ j ≠ 11 + 3 * i ∧ j ≠ 12 + 3 * i → ws[j]? = ws0[j]?) → lv_has ls 4 [(0, .ref (ad (10 + 3 * i))), (1, .ref (ad (10 + 3 * o))), (2, .int (nI (a))), (3, .int (nI (u)))] → va_P D classes ws H → va_D A ws → va_S A s.heap H locs → W p l e (mg_rm 6) s m args below meth c H locs 0 0 Q (F0 m 18 ls []) := by
            intro d
            induction d using Nat.strongRecOn with
            | _ d ih_inner =>
              intro u S1 G1 k1 ws H locs ls hd hsy hli hsu hso hmo hmi hpr hin hak1 hu hfm hl hP hD hS
              have f1 := (hfm (1) (by omega)).trans z1
              have hsu0 := hsu
              have hso0 := hso
              obtain ⟨f, g, ⟨fo, fm, fg⟩, hwI, hgI, hgenI, h2I⟩ := hsu0
              obtain ⟨fo2, go2, ⟨fp, fq, fr⟩, hwO, hgO, hgenO, h2O⟩ := hso0
              have hk9 := su_k9 h6 h2I (ma_cn_le _ (pm_fc n))
              have hkO := su_k9 h6 h2O (ma_cn_le _ (pm_fc n))
              have hcI := ma_cn_le S1 (pm_fc n)
              refine lv_iload_n (pc := 18) C0.1 C0.2.1 d_SU_growUntilKeptBy_18 rfl (lv_at hl 3 rfl) ?_
              refine lv_aload_n (pc := 19) C0.1 C0.2.1 d_SU_growUntilKeptBy_19 rfl (lv_at hl 1 rfl) ?_
              refine mg_get (pc := 20) C0 in_SU hK hP (10 + 3 * o) fp rfl 4 (by decide) fl_SU_38 rfl d_SU_growUntilKeptBy_20 ?_
              refine mb_ge (pc := 23) (tgt := 55) C0 (by omega) (by omega) d_SU_growUntilKeptBy_23 (by decide) (fun hc => ?_) (fun hc => ?_)
              · refine lv_iinc (pc := 55) (k := 2) (v := nI (a + 1)) (lv' := [(2, .int (nI (a + 1))), (0, .ref (ad (10 + 3 * i))), (1, .ref (ad (10 + 3 * o))), (3, .int (nI (u)))]) C0.1 C0.2.1 d_SU_growUntilKeptBy_55 hl rfl (nb_p1 _) (by decide) rfl (fun ls hl => ?_)
                refine lv_goto (pc := 58) (tgt := 2) C0.1 C0.2.1 d_SU_growUntilKeptBy_58 (by decide) ?_
                exact ih_outer _ (by omega) (a + 1) S1 G1 k1 _ _ _ _ rfl hsy hli hsu hso hmo hmi (by omega) (fun j s hj hs => by
                  by_cases e : j = a
                  · subst e; exact hin s (by omega)
                  · exact hpr j s (by omega) hs) hfm (lv_sub hl [1, 2, 0] rfl) hP hD hS
              · have huk := hc
                have hGa := gp_gen_lt hgenI hak1
                have hGu := gp_gen_lt hgenO huk
                have hcj := gp_cjl g0 hGa hGu
                refine lv_aload_n (pc := 26) C0.1 C0.2.1 d_SU_growUntilKeptBy_26 rfl (lv_at hl 0 rfl) ?_
                refine lv_aload_n (pc := 27) C0.1 C0.2.1 d_SU_growUntilKeptBy_27 rfl (lv_at hl 0 rfl) ?_
                refine mg_get (pc := 28) C0 in_SU hK hP (10 + 3 * i) fo rfl 1 (by decide) fl_SU_7 rfl d_SU_growUntilKeptBy_28 ?_
                refine lv_aload_n (pc := 31) C0.1 C0.2.1 d_SU_growUntilKeptBy_31 rfl (lv_at hl 0 rfl) ?_
                refine mg_get (pc := 32) C0 in_SU hK hP (10 + 3 * i) fo rfl 3 (by decide) fl_SU_27 rfl d_SU_growUntilKeptBy_32 ?_
                refine lv_iload_n (pc := 35) C0.1 C0.2.1 d_SU_growUntilKeptBy_35 rfl (lv_at hl 2 rfl) ?_
                refine mg_ild (pc := 36) C0 hK hP (12 + 3 * i) 1 fg rfl (j := a) (by omega) (by omega) d_SU_growUntilKeptBy_36 ?_
                refine mg_top (show g (a) = nI (G1 a) from hgI a hak1) ?_
                refine lv_aload_n (pc := 37) C0.1 C0.2.1 d_SU_growUntilKeptBy_37 rfl (lv_at hl 1 rfl) ?_
                refine mg_get (pc := 38) C0 in_SU hK hP (10 + 3 * o) fp rfl 3 (by decide) fl_SU_27 rfl d_SU_growUntilKeptBy_38 ?_
                refine lv_iload_n (pc := 41) C0.1 C0.2.1 d_SU_growUntilKeptBy_41 rfl (lv_at hl 3 rfl) ?_
                refine mg_ild (pc := 42) C0 hK hP (12 + 3 * o) 1 fr rfl (j := u) (by omega) (by omega) d_SU_growUntilKeptBy_42 ?_
                refine mg_top (show go2 (u) = nI (GG u) from hgO u huk) ?_
                refine mg_ci (pc := 43) (As := [.int (nI (G1 a)), .int (nI (GG u))]) (rest := [.ref (ad (10 + 3 * i))]) C0 (c_SY_conjugate l D ca ad h2 h6 hGa hGu ws hsy) lk_SU_66 (by decide) f1 rfl hK hP hD hS hA rfl hl.1 rfl (Nat.le_of_ble_eq_true rfl) d_SU_growUntilKeptBy_43 (fun rv ws H locs hpost hP hD hS => ?_)
                obtain ⟨hr1, hfr, hsy⟩ := hpost
                have f1 := (hfr (1) (by omega)).trans f1
                have fo := (hfr (10 + 3 * i) (by omega)).trans fo
                have fm := (hfr (11 + 3 * i) (by omega)).trans fm
                have fg := (hfr (12 + 3 * i) (by omega)).trans fg
                have fp := (hfr (10 + 3 * o) (by omega)).trans fp
                have fq := (hfr (11 + 3 * o) (by omega)).trans fq
                have fr := (hfr (12 + 3 * o) (by omega)).trans fr
                have hli := li_fr (hfr (8) (by omega)) hli
                have hsu := su_fr (hfr (10 + 3 * i) (by omega)) (hfr (11 + 3 * i) (by omega)) (hfr (12 + 3 * i) (by omega)) hsu
                have hso := su_fr (hfr (10 + 3 * o) (by omega)) (hfr (11 + 3 * o) (by omega)) (hfr (12 + 3 * o) (by omega)) hso
                have hfm : ∀ j, j ≠ 3 ∧ j ≠ 8 ∧ j ≠ 10 + 3 * i ∧ j ≠ 11 + 3 * i ∧ j ≠ 12 + 3 * i → ws[j]? = ws0[j]? := fun j hj => (hfr j (by omega)).trans (hfm j hj)
                refine mg_top (show rv = nI (ga_cj (pm_mu n) (pm_iv n) (G1 a) (GG u)) from hr1) ?_
                refine mg_cv (pc := 46) (As := [.int (nI (ga_cj (pm_mu n) (pm_iv n) (G1 a) (GG u)))]) (rest := []) C0 (c_SU_add l D ca ad h2 h6 hcj ws hsy hli hsu) lk_SU_55 (by decide) fo rfl hK hP hD hS hA rfl hl.1 rfl (Nat.le_of_ble_eq_true rfl) d_SU_growUntilKeptBy_46 (fun ws H locs hpost hP hD hS => ?_)
                obtain ⟨hfr, hsy, hli, S2, G2, k2, hsu, hext, hkk, hG2⟩ := hpost
                have f1 := (hfr (1) (by omega)).trans f1
                have fp := (hfr (10 + 3 * o) (by omega)).trans fp
                have fq := (hfr (11 + 3 * o) (by omega)).trans fq
                have fr := (hfr (12 + 3 * o) (by omega)).trans fr
                have hso := su_fr (hfr (10 + 3 * o) (by omega)) (hfr (11 + 3 * o) (by omega)) (hfr (12 + 3 * o) (by omega)) hso
                have hfm : ∀ j, j ≠ 3 ∧ j ≠ 8 ∧ j ≠ 10 + 3 * i ∧ j ≠ 11 + 3 * i ∧ j ≠ 12 + 3 * i → ws[j]? = ws0[j]? := fun j hj => (hfr j (by omega)).trans (hfm j hj)
                refine lv_iinc (pc := 49) (k := 3) (v := nI (u + 1)) (lv' := [(3, .int (nI (u + 1))), (0, .ref (ad (10 + 3 * i))), (1, .ref (ad (10 + 3 * o))), (2, .int (nI (a)))]) C0.1 C0.2.1 d_SU_growUntilKeptBy_49 hl rfl (nb_p1 _) (by decide) rfl (fun ls hl => ?_)
                refine lv_goto (pc := 52) (tgt := 18) C0.1 C0.2.1 d_SU_growUntilKeptBy_52 (by decide) ?_
                exact ih_inner _ (by omega) (u + 1) S2 G2 k2 _ _ _ _ rfl hsy hli hsu hso (fun x hx => hext.2.1 x (hmo x hx)) (fun U hU hS hv => hext.2.2.2 U hU (hmi U hU hS hv) (hv _ u (hmi U hU hS hv _ (hgenI.2.1 a hak1)) huk)) (fun j s hj hs => by
                  rw [hG2 j (by omega)]; exact hext.2.1 _ (hpr j s hj hs)) (fun s hs => by
                  rw [hG2 a hak1]
                  by_cases e : s = u
                  · subst e; exact hext.2.2.1
                  · exact hext.2.1 _ (hin s (by omega))) (by omega) (by omega) hfm (lv_sub hl [1, 2, 3, 0] rfl) hP hD hS
          exact inner _ 0 S1 G1 k1 _ _ _ _ rfl hsy hli hsu hso hmo hmi hpr (fun s hs => absurd hs (by omega)) hak1 (by omega) hfm (lv_sub hl [1, 2, 3, 0] rfl) hP hD hS
  exact outer _ 0 S G k _ _ _ _ rfl hsy hli hsu hso (fun _ h => h) (fun U _ h _ => h) (by omega) (fun j s hj => absurd hj (by omega)) hfm (lv_sub hl [1, 2, 0] rfl) hP hD hS
set_option maxHeartbeats 4000000 in
set_option maxRecDepth 100000 in
theorem c_SU_becomeDerivedOf (l : Launch) (D : va_G) (ca : Nat → ClassId) (ad : Nat → Nat) {n : Nat} (h2 : 2 ≤ n) (h6 : n ≤ 6) {i o kG : Nat} {SG : Nat → Bool} {GG : Nat → Nat} {sz kc : Int32} {f : Nat → Int64} {g : Nat → Int32} (hio : i ≠ o) (ws0 : va_W) (hsy : sy_ok ca ad n ws0) (hli : li_ok ca ad n ws0) (hso : su_ok ca ad n o ws0 SG GG kG) (zo : ws0[10 + 3 * i]? = some (ad (10 + 3 * i), .inr (2, [.int (sz), .ref (ad 1), .ref (ad (11 + 3 * i)), .ref (ad (12 + 3 * i)), .int (kc), .ref (ad 8)]))) (zm : ws0[11 + 3 * i]? = some (ad (11 + 3 * i), .inl (ca 2, (pm_fc n + 63) / 64, .inr (.inl (f))))) (zg : ws0[12 + 3 * i]? = some (ad (12 + 3 * i), .inl (ca 1, 10, .inl (g)))) : mg_V l y_SU_becomeDerivedOf b_SU_becomeDerivedOf 4 7 D classes (tys_ ca) [.ref (ad (10 + 3 * i)), .ref (ad (10 + 3 * o))] ws0 (fun w => (∀ j, j ≠ 3 ∧ j ≠ 8 ∧ j ≠ 10 + 3 * i ∧ j ≠ 11 + 3 * i ∧ j ≠ 12 + 3 * i → w[j]? = ws0[j]?) ∧ sy_ok ca ad n w ∧ li_ok ca ad n w ∧ ∃ (S1 : Nat → Bool) (G1 : Nat → Nat) (k1 : Nat), su_ok ca ad n i w S1 G1 k1 ∧ gp_der (pm_fc n) (pm_mu n) (pm_iv n) (fun x => SG x = true) (fun x => S1 x = true)) := by
  have z1 := hsy.1
  have hN := pm_fc_le h6
  have g0 := pm_gp h2 h6
  have hN0 := pm_fc_pos n
  refine mg_openV (own := R_SU) rfl (by decide) (Nat.le_of_ble_eq_true rfl) ?_
  intro p e s m args below meth c A Q ls C0 hK hA hP hD hS hl hret
  have hl : lv_has ls 4 [(0, .ref (ad (10 + 3 * i))), (1, .ref (ad (10 + 3 * o)))] := hl
  have f1 := z1
  have fo := zo
  have fm := zm
  have fg := zg
  have hfm : ∀ j, j ≠ 3 ∧ j ≠ 8 ∧ j ≠ 10 + 3 * i ∧ j ≠ 11 + 3 * i ∧ j ≠ 12 + 3 * i → ws0[j]? = ws0[j]? := fun _ _ => rfl
  refine lv_aload_n (pc := 0) C0.1 C0.2.1 d_SU_becomeDerivedOf_0 rfl (lv_at hl 0 rfl) ?_
  refine mg_cv (pc := 1) (As := []) (rest := []) C0 (c_SU_becomeTrivial l D ca ad h2 h6 (fun _ => 0) ws0 fo fm fg) lk_SU_30 (by decide) fo rfl hK hP hD hS hA rfl hl.1 rfl (Nat.le_of_ble_eq_true rfl) d_SU_becomeDerivedOf_1 (fun ws H locs hpost hP hD hS => ?_)
  obtain ⟨hfr, hsu⟩ := hpost
  have f1 := (hfr (1) (by omega)).trans f1
  have fg := (hfr (12 + 3 * i) (by omega)).trans fg
  have hsy := sy_fr (hfr (1) (by omega)) (hfr (2) (by omega)) (hfr (3) (by omega)) hsy
  have hli := li_fr (hfr (8) (by omega)) hli
  have hso := su_fr (hfr (10 + 3 * o) (by omega)) (hfr (11 + 3 * o) (by omega)) (hfr (12 + 3 * o) (by omega)) hso
  have hfm : ∀ j, j ≠ 3 ∧ j ≠ 8 ∧ j ≠ 10 + 3 * i ∧ j ≠ 11 + 3 * i ∧ j ≠ 12 + 3 * i → ws[j]? = ws0[j]? := fun j hj => (hfr j (by omega)).trans (hfm j hj)
  refine lv_iconst (pc := 4) (v := nI (1)) C0.1 C0.2.1 d_SU_becomeDerivedOf_4 (by decide +kernel) ?_
  refine lv_istore_n (pc := 5) (lv' := [(2, .int (nI (1))), (0, .ref (ad (10 + 3 * i))), (1, .ref (ad (10 + 3 * o)))]) C0.1 C0.2.1 d_SU_becomeDerivedOf_5 rfl hl (by decide) rfl (fun ls hl => ?_)
  have outer : ∀ (d : Nat) (a : Nat) (S1 : Nat → Bool) (G1 : Nat → Nat) (k1 : Nat) (ws : va_W) (H : Heap) (locs : List Loc) (ls : Array Slot), kG - a = d → (sy_ok ca ad n ws) → (li_ok ca ad n ws) → (su_ok ca ad n i ws S1 G1 k1) → (su_ok ca ad n o ws SG GG kG) → (∀ U, gp_sg (pm_fc n) (pm_mu n) (pm_iv n) U → (∀ j s, j < kG → s < j → U (ga_cm (pm_mu n) (pm_iv n) (GG j) (GG s))) → ∀ x, S1 x = true → U x) → (1 ≤ a) → (a ≤ 9 ∨ a ≤ kG) → (∀ j s, j < a → s < j → S1 (ga_cm (pm_mu n) (pm_iv n) (GG j) (GG s)) = true) → (∀ j, j ≠ 3 ∧ j ≠ 8 ∧ j ≠ 10 + 3 * i ∧ j ≠ 11 + 3 * i ∧ j ≠ 12 + 3 * i → ws[j]? = ws0[j]?) → lv_has ls 4 [(0, .ref (ad (10 + 3 * i))), (1, .ref (ad (10 + 3 * o))), (2, .int (nI (a)))] → va_P D classes ws H → va_D A ws → va_S A s.heap H locs → W p l e (mg_rm 7) s m args below meth c H locs 0 0 Q (F0 m 6 ls []) := by
    intro d
    induction d using Nat.strongRecOn with
    | _ d ih_outer =>
      intro a S1 G1 k1 ws H locs ls hd hsy hli hsu hso hmi ha ha9 hpr hfm hl hP hD hS
      have f1 := (hfm (1) (by omega)).trans z1
      have hsu0 := hsu
      have hso0 := hso
      obtain ⟨f, g, ⟨fo, fm, fg⟩, hwI, hgI, hgenI, h2I⟩ := hsu0
      obtain ⟨fo2, go2, ⟨fp, fq, fr⟩, hwO, hgO, hgenO, h2O⟩ := hso0
      have hk9 := su_k9 h6 h2I (ma_cn_le _ (pm_fc n))
      have hkO := su_k9 h6 h2O (ma_cn_le _ (pm_fc n))
      have hcI := ma_cn_le S1 (pm_fc n)
      refine lv_iload_n (pc := 6) C0.1 C0.2.1 d_SU_becomeDerivedOf_6 rfl (lv_at hl 2 rfl) ?_
      refine lv_aload_n (pc := 7) C0.1 C0.2.1 d_SU_becomeDerivedOf_7 rfl (lv_at hl 1 rfl) ?_
      refine mg_get (pc := 8) C0 in_SU hK hP (10 + 3 * o) fp rfl 4 (by decide) fl_SU_38 rfl d_SU_becomeDerivedOf_8 ?_
      refine mb_ge (pc := 11) (tgt := 56) C0 (by omega) (by omega) d_SU_becomeDerivedOf_11 (by decide) (fun hc => ?_) (fun hc => ?_)
      · refine lv_aload_n (pc := 56) C0.1 C0.2.1 d_SU_becomeDerivedOf_56 rfl (lv_at hl 0 rfl) ?_
        refine lv_aload_n (pc := 57) C0.1 C0.2.1 d_SU_becomeDerivedOf_57 rfl (lv_at hl 1 rfl) ?_
        refine mg_cv (pc := 58) (As := [.ref (ad (10 + 3 * o))]) (rest := []) C0 (c_SU_growUntilKeptBy l D ca ad h2 h6 hio ws hsy hli hsu hso) lk_SU_62 (by decide) fo rfl hK hP hD hS hA rfl hl.1 rfl (Nat.le_of_ble_eq_true rfl) d_SU_becomeDerivedOf_58 (fun ws H locs hpost hP hD hS => ?_)
        obtain ⟨hfr, hsy, hli, S2, G2, k2, hsu, hmo, hcl, hm2⟩ := hpost
        have f1 := (hfr (1) (by omega)).trans f1
        have fp := (hfr (10 + 3 * o) (by omega)).trans fp
        have fq := (hfr (11 + 3 * o) (by omega)).trans fq
        have fr := (hfr (12 + 3 * o) (by omega)).trans fr
        have hso := su_fr (hfr (10 + 3 * o) (by omega)) (hfr (11 + 3 * o) (by omega)) (hfr (12 + 3 * o) (by omega)) hso
        have hfm : ∀ j, j ≠ 3 ∧ j ≠ 8 ∧ j ≠ 10 + 3 * i ∧ j ≠ 11 + 3 * i ∧ j ≠ 12 + 3 * i → ws[j]? = ws0[j]? := fun j hj => (hfr j (by omega)).trans (hfm j hj)
        have hsu1 := hsu
        obtain ⟨-, -, -, -, -, hgen2, -⟩ := hsu1
        exact hret _ _ _ 61 _ (⟨hfm, hsy, hli, S2, G2, k2, hsu, gp_derC g0 hgen2 hgenO (fun j s hj hs => hmo _ (hpr j s (by omega) hs)) hcl (fun U hU _ hcm hv => hm2 U hU (hmi U hU hcm) hv)⟩) hP hD hS d_SU_becomeDerivedOf_61
      · have hak := hc
        refine lv_iconst (pc := 14) (v := nI (0)) C0.1 C0.2.1 d_SU_becomeDerivedOf_14 (by decide +kernel) ?_
        refine lv_istore_n (pc := 15) (lv' := [(3, .int (nI (0))), (0, .ref (ad (10 + 3 * i))), (1, .ref (ad (10 + 3 * o))), (2, .int (nI (a)))]) C0.1 C0.2.1 d_SU_becomeDerivedOf_15 rfl hl (by decide) rfl (fun ls hl => ?_)
        have inner : ∀ (d : Nat) (u : Nat) (S1 : Nat → Bool) (G1 : Nat → Nat) (k1 : Nat) (ws : va_W) (H : Heap) (locs : List Loc) (ls : Array Slot), a - u = d → (sy_ok ca ad n ws) → (li_ok ca ad n ws) → (su_ok ca ad n i ws S1 G1 k1) → (su_ok ca ad n o ws SG GG kG) → (∀ U, gp_sg (pm_fc n) (pm_mu n) (pm_iv n) U → (∀ j s, j < kG → s < j → U (ga_cm (pm_mu n) (pm_iv n) (GG j) (GG s))) → ∀ x, S1 x = true → U x) → (∀ j s, j < a → s < j → S1 (ga_cm (pm_mu n) (pm_iv n) (GG j) (GG s)) = true) → (∀ s, s < u → S1 (ga_cm (pm_mu n) (pm_iv n) (GG a) (GG s)) = true) → (u ≤ a) → (∀ j, j ≠ 3 ∧ j ≠ 8 ∧ j ≠ 10 + 3 * i ∧ j ≠ 11 + 3 * i ∧ j ≠ 12 + 3 * i → ws[j]? = ws0[j]?) → lv_has ls 4 [(0, .ref (ad (10 + 3 * i))), (1, .ref (ad (10 + 3 * o))), (2, .int (nI (a))), (3, .int (nI (u)))] → va_P D classes ws H → va_D A ws → va_S A s.heap H locs → W p l e (mg_rm 7) s m args below meth c H locs 0 0 Q (F0 m 16 ls []) := by
          intro d
          induction d using Nat.strongRecOn with
          | _ d ih_inner =>
            intro u S1 G1 k1 ws H locs ls hd hsy hli hsu hso hmi hpr hin hua hfm hl hP hD hS
            have f1 := (hfm (1) (by omega)).trans z1
            have hsu0 := hsu
            have hso0 := hso
            obtain ⟨f, g, ⟨fo, fm, fg⟩, hwI, hgI, hgenI, h2I⟩ := hsu0
            obtain ⟨fo2, go2, ⟨fp, fq, fr⟩, hwO, hgO, hgenO, h2O⟩ := hso0
            have hk9 := su_k9 h6 h2I (ma_cn_le _ (pm_fc n))
            have hkO := su_k9 h6 h2O (ma_cn_le _ (pm_fc n))
            have hcI := ma_cn_le S1 (pm_fc n)
            refine lv_iload_n (pc := 16) C0.1 C0.2.1 d_SU_becomeDerivedOf_16 rfl (lv_at hl 3 rfl) ?_
            refine lv_iload_n (pc := 17) C0.1 C0.2.1 d_SU_becomeDerivedOf_17 rfl (lv_at hl 2 rfl) ?_
            refine mb_ge (pc := 18) (tgt := 50) C0 (by omega) (by omega) d_SU_becomeDerivedOf_18 (by decide) (fun hc => ?_) (fun hc => ?_)
            · refine lv_iinc (pc := 50) (k := 2) (v := nI (a + 1)) (lv' := [(2, .int (nI (a + 1))), (0, .ref (ad (10 + 3 * i))), (1, .ref (ad (10 + 3 * o))), (3, .int (nI (u)))]) C0.1 C0.2.1 d_SU_becomeDerivedOf_50 hl rfl (nb_p1 _) (by decide) rfl (fun ls hl => ?_)
              refine lv_goto (pc := 53) (tgt := 6) C0.1 C0.2.1 d_SU_becomeDerivedOf_53 (by decide) ?_
              exact ih_outer _ (by omega) (a + 1) S1 G1 k1 _ _ _ _ rfl hsy hli hsu hso hmi (by omega) (by omega) (fun j s hj hs => by
                by_cases e : j = a
                · subst e; exact hin s (by omega)
                · exact hpr j s (by omega) hs) hfm (lv_sub hl [1, 2, 0] rfl) hP hD hS
            · have huk := hc
              have hGa := gp_gen_lt hgenO hak
              have hGu := gp_gen_lt hgenO (show u < kG by omega)
              have hcj := gp_cml g0 hGa hGu
              refine lv_aload_n (pc := 21) C0.1 C0.2.1 d_SU_becomeDerivedOf_21 rfl (lv_at hl 0 rfl) ?_
              refine lv_aload_n (pc := 22) C0.1 C0.2.1 d_SU_becomeDerivedOf_22 rfl (lv_at hl 0 rfl) ?_
              refine mg_get (pc := 23) C0 in_SU hK hP (10 + 3 * i) fo rfl 1 (by decide) fl_SU_7 rfl d_SU_becomeDerivedOf_23 ?_
              refine lv_aload_n (pc := 26) C0.1 C0.2.1 d_SU_becomeDerivedOf_26 rfl (lv_at hl 1 rfl) ?_
              refine mg_get (pc := 27) C0 in_SU hK hP (10 + 3 * o) fp rfl 3 (by decide) fl_SU_27 rfl d_SU_becomeDerivedOf_27 ?_
              refine lv_iload_n (pc := 30) C0.1 C0.2.1 d_SU_becomeDerivedOf_30 rfl (lv_at hl 2 rfl) ?_
              refine mg_ild (pc := 31) C0 hK hP (12 + 3 * o) 1 fr rfl (j := a) (by omega) (by omega) d_SU_becomeDerivedOf_31 ?_
              refine mg_top (show go2 (a) = nI (GG a) from hgO a hak) ?_
              refine lv_aload_n (pc := 32) C0.1 C0.2.1 d_SU_becomeDerivedOf_32 rfl (lv_at hl 1 rfl) ?_
              refine mg_get (pc := 33) C0 in_SU hK hP (10 + 3 * o) fp rfl 3 (by decide) fl_SU_27 rfl d_SU_becomeDerivedOf_33 ?_
              refine lv_iload_n (pc := 36) C0.1 C0.2.1 d_SU_becomeDerivedOf_36 rfl (lv_at hl 3 rfl) ?_
              refine mg_ild (pc := 37) C0 hK hP (12 + 3 * o) 1 fr rfl (j := u) (by omega) (by omega) d_SU_becomeDerivedOf_37 ?_
              refine mg_top (show go2 (u) = nI (GG u) from hgO u (by omega)) ?_
              refine mg_ci (pc := 38) (As := [.int (nI (GG a)), .int (nI (GG u))]) (rest := [.ref (ad (10 + 3 * i))]) C0 (c_SY_commutator l D ca ad h2 h6 hGa hGu ws hsy) lk_SU_58 (by decide) f1 rfl hK hP hD hS hA rfl hl.1 rfl (Nat.le_of_ble_eq_true rfl) d_SU_becomeDerivedOf_38 (fun rv ws H locs hpost hP hD hS => ?_)
              obtain ⟨hr1, hfr, hsy⟩ := hpost
              have f1 := (hfr (1) (by omega)).trans f1
              have fo := (hfr (10 + 3 * i) (by omega)).trans fo
              have fm := (hfr (11 + 3 * i) (by omega)).trans fm
              have fg := (hfr (12 + 3 * i) (by omega)).trans fg
              have fp := (hfr (10 + 3 * o) (by omega)).trans fp
              have fq := (hfr (11 + 3 * o) (by omega)).trans fq
              have fr := (hfr (12 + 3 * o) (by omega)).trans fr
              have hli := li_fr (hfr (8) (by omega)) hli
              have hsu := su_fr (hfr (10 + 3 * i) (by omega)) (hfr (11 + 3 * i) (by omega)) (hfr (12 + 3 * i) (by omega)) hsu
              have hso := su_fr (hfr (10 + 3 * o) (by omega)) (hfr (11 + 3 * o) (by omega)) (hfr (12 + 3 * o) (by omega)) hso
              have hfm : ∀ j, j ≠ 3 ∧ j ≠ 8 ∧ j ≠ 10 + 3 * i ∧ j ≠ 11 + 3 * i ∧ j ≠ 12 + 3 * i → ws[j]? = ws0[j]? := fun j hj => (hfr j (by omega)).trans (hfm j hj)
              refine mg_top (show rv = nI (ga_cm (pm_mu n) (pm_iv n) (GG a) (GG u)) from hr1) ?_
              refine mg_cv (pc := 41) (As := [.int (nI (ga_cm (pm_mu n) (pm_iv n) (GG a) (GG u)))]) (rest := []) C0 (c_SU_add l D ca ad h2 h6 hcj ws hsy hli hsu) lk_SU_55 (by decide) fo rfl hK hP hD hS hA rfl hl.1 rfl (Nat.le_of_ble_eq_true rfl) d_SU_becomeDerivedOf_41 (fun ws H locs hpost hP hD hS => ?_)
              obtain ⟨hfr, hsy, hli, S2, G2, k2, hsu, hext, hkk, hG2⟩ := hpost
              have f1 := (hfr (1) (by omega)).trans f1
              have fp := (hfr (10 + 3 * o) (by omega)).trans fp
              have fq := (hfr (11 + 3 * o) (by omega)).trans fq
              have fr := (hfr (12 + 3 * o) (by omega)).trans fr
              have hso := su_fr (hfr (10 + 3 * o) (by omega)) (hfr (11 + 3 * o) (by omega)) (hfr (12 + 3 * o) (by omega)) hso
              have hfm : ∀ j, j ≠ 3 ∧ j ≠ 8 ∧ j ≠ 10 + 3 * i ∧ j ≠ 11 + 3 * i ∧ j ≠ 12 + 3 * i → ws[j]? = ws0[j]? := fun j hj => (hfr j (by omega)).trans (hfm j hj)
              refine lv_iinc (pc := 44) (k := 3) (v := nI (u + 1)) (lv' := [(3, .int (nI (u + 1))), (0, .ref (ad (10 + 3 * i))), (1, .ref (ad (10 + 3 * o))), (2, .int (nI (a)))]) C0.1 C0.2.1 d_SU_becomeDerivedOf_44 hl rfl (nb_p1 _) (by decide) rfl (fun ls hl => ?_)
              refine lv_goto (pc := 47) (tgt := 16) C0.1 C0.2.1 d_SU_becomeDerivedOf_47 (by decide) ?_
              exact ih_inner _ (by omega) (u + 1) S2 G2 k2 _ _ _ _ rfl hsy hli hsu hso (fun U hU hv => hext.2.2.2 U hU (hmi U hU hv) (hv a u hak huk)) (fun j s hj hs => hext.2.1 _ (hpr j s hj hs)) (fun s hs => by
                by_cases e : s = u
                · subst e; exact hext.2.2.1
                · exact hext.2.1 _ (hin s (by omega))) (by omega) hfm (lv_sub hl [1, 2, 3, 0] rfl) hP hD hS
        exact inner _ 0 S1 G1 k1 _ _ _ _ rfl hsy hli hsu hso hmi hpr (fun s hs => absurd hs (by omega)) (by omega) hfm (lv_sub hl [1, 2, 3, 0] rfl) hP hD hS
  exact outer _ 1 su_one (fun _ => 0) 0 _ _ _ _ rfl hsy hli hsu hso (fun U hU _ x hx => by
    rw [(su_one_iff x).mp hx]; exact hU.1) (by omega) (by omega) (fun j s hj hs => absurd hs (by omega)) hfm (lv_sub hl [1, 2, 0] rfl) hP hD hS
set_option maxHeartbeats 4000000 in
set_option maxRecDepth 100000 in
theorem c_SU_becomeHolderOf (l : Launch) (D : va_G) (ca : Nat → ClassId) (ad : Nat → Nat) {n : Nat} (h2 : 2 ≤ n) (h6 : n ≤ 6) {i o kG pts : Nat} {SG : Nat → Bool} {GG : Nat → Nat} {sz kc : Int32} {f : Nat → Int64} {g : Nat → Int32} (hio : i ≠ o) (hp : pts < 64) (ws0 : va_W) (hsy : sy_ok ca ad n ws0) (hli : li_ok ca ad n ws0) (hso : su_ok ca ad n o ws0 SG GG kG) (zo : ws0[10 + 3 * i]? = some (ad (10 + 3 * i), .inr (2, [.int (sz), .ref (ad 1), .ref (ad (11 + 3 * i)), .ref (ad (12 + 3 * i)), .int (kc), .ref (ad 8)]))) (zm : ws0[11 + 3 * i]? = some (ad (11 + 3 * i), .inl (ca 2, (pm_fc n + 63) / 64, .inr (.inl (f))))) (zg : ws0[12 + 3 * i]? = some (ad (12 + 3 * i), .inl (ca 1, 10, .inl (g)))) : mg_V l y_SU_becomeHolderOf b_SU_becomeHolderOf 4 6 D classes (tys_ ca) [.ref (ad (10 + 3 * i)), .int (nI (pts)), .ref (ad (10 + 3 * o))] ws0 (fun w => (∀ j, j ≠ 3 ∧ j ≠ 8 ∧ j ≠ 10 + 3 * i ∧ j ≠ 11 + 3 * i ∧ j ≠ 12 + 3 * i → w[j]? = ws0[j]?) ∧ sy_ok ca ad n w ∧ li_ok ca ad n w ∧ ∃ (G1 : Nat → Nat) (k1 : Nat), su_ok ca ad n i w (su_hd n SG pts) G1 k1) := by
  have z1 := hsy.1
  have hN := pm_fc_le h6
  have g0 := pm_gp h2 h6
  have hN0 := pm_fc_pos n
  refine mg_openV (own := R_SU) rfl (by decide) (Nat.le_of_ble_eq_true rfl) ?_
  intro p e s m args below meth c A Q ls C0 hK hA hP hD hS hl hret
  have hl : lv_has ls 4 [(0, .ref (ad (10 + 3 * i))), (1, .int (nI (pts))), (2, .ref (ad (10 + 3 * o)))] := hl
  have f1 := z1
  have fo := zo
  have fm := zm
  have fg := zg
  have hfm : ∀ j, j ≠ 3 ∧ j ≠ 8 ∧ j ≠ 10 + 3 * i ∧ j ≠ 11 + 3 * i ∧ j ≠ 12 + 3 * i → ws0[j]? = ws0[j]? := fun _ _ => rfl
  refine lv_aload_n (pc := 0) C0.1 C0.2.1 d_SU_becomeHolderOf_0 rfl (lv_at hl 0 rfl) ?_
  refine mg_cv (pc := 1) (As := []) (rest := []) C0 (c_SU_becomeTrivial l D ca ad h2 h6 (fun _ => 0) ws0 fo fm fg) lk_SU_30 (by decide) fo rfl hK hP hD hS hA rfl hl.1 rfl (Nat.le_of_ble_eq_true rfl) d_SU_becomeHolderOf_1 (fun ws H locs hpost hP hD hS => ?_)
  obtain ⟨hfr, hsu⟩ := hpost
  have f1 := (hfr (1) (by omega)).trans f1
  have fg := (hfr (12 + 3 * i) (by omega)).trans fg
  have hsy := sy_fr (hfr (1) (by omega)) (hfr (2) (by omega)) (hfr (3) (by omega)) hsy
  have hli := li_fr (hfr (8) (by omega)) hli
  have hso := su_fr (hfr (10 + 3 * o) (by omega)) (hfr (11 + 3 * o) (by omega)) (hfr (12 + 3 * o) (by omega)) hso
  have hfm : ∀ j, j ≠ 3 ∧ j ≠ 8 ∧ j ≠ 10 + 3 * i ∧ j ≠ 11 + 3 * i ∧ j ≠ 12 + 3 * i → ws[j]? = ws0[j]? := fun j hj => (hfr j (by omega)).trans (hfm j hj)
  have hgS : gp_sg (pm_fc n) (pm_mu n) (pm_iv n) (fun x => SG x = true) := by
    obtain ⟨-, -, -, -, -, h9, -⟩ := hso
    exact h9.1
  have hHd := su_hd_sg (pts := pts) h2 h6 hgS
  refine lv_iconst (pc := 4) (v := nI (0)) C0.1 C0.2.1 d_SU_becomeHolderOf_4 (by decide +kernel) ?_
  refine lv_istore_n (pc := 5) (lv' := [(3, .int (nI (0))), (0, .ref (ad (10 + 3 * i))), (1, .int (nI (pts))), (2, .ref (ad (10 + 3 * o)))]) C0.1 C0.2.1 d_SU_becomeHolderOf_5 rfl hl (by decide) rfl (fun ls hl => ?_)
  have loop : ∀ (d : Nat) (r : Nat) (S1 : Nat → Bool) (G1 : Nat → Nat) (k1 : Nat) (ws : va_W) (H : Heap) (locs : List Loc) (ls : Array Slot), pm_fc n - r = d → (sy_ok ca ad n ws) → (li_ok ca ad n ws) → (su_ok ca ad n i ws S1 G1 k1) → (su_ok ca ad n o ws SG GG kG) → (r ≤ pm_fc n) → (∀ x, x < r → su_hd n SG pts x = true → S1 x = true) → (∀ x, S1 x = true → su_hd n SG pts x = true) → (∀ j, j ≠ 3 ∧ j ≠ 8 ∧ j ≠ 10 + 3 * i ∧ j ≠ 11 + 3 * i ∧ j ≠ 12 + 3 * i → ws[j]? = ws0[j]?) → lv_has ls 4 [(0, .ref (ad (10 + 3 * i))), (1, .int (nI (pts))), (2, .ref (ad (10 + 3 * o))), (3, .int (nI (r)))] → va_P D classes ws H → va_D A ws → va_S A s.heap H locs → W p l e (mg_rm 6) s m args below meth c H locs 0 0 Q (F0 m 6 ls []) := by
    intro d
    induction d using Nat.strongRecOn with
    | _ d ih_loop =>
      intro r S1 G1 k1 ws H locs ls hd hsy hli hsu hso hr hlo hup hfm hl hP hD hS
      have f1 := (hfm (1) (by omega)).trans z1
      have hsu0 := hsu
      have hso0 := hso
      obtain ⟨f, g, ⟨fo, fm, fg⟩, hwI, hgI, hgenI, h2I⟩ := hsu0
      obtain ⟨fo2, go2, ⟨fp, fq, fr⟩, hwO, hgO, hgenO, h2O⟩ := hso0
      have hk9 := su_k9 h6 h2I (ma_cn_le _ (pm_fc n))
      have hkO := su_k9 h6 h2O (ma_cn_le _ (pm_fc n))
      have hcI := ma_cn_le S1 (pm_fc n)
      refine lv_iload_n (pc := 6) C0.1 C0.2.1 d_SU_becomeHolderOf_6 rfl (lv_at hl 3 rfl) ?_
      refine lv_aload_n (pc := 7) C0.1 C0.2.1 d_SU_becomeHolderOf_7 rfl (lv_at hl 0 rfl) ?_
      refine mg_get (pc := 8) C0 in_SU hK hP (10 + 3 * i) fo rfl 1 (by decide) fl_SU_7 rfl d_SU_becomeHolderOf_8 ?_
      refine mg_get (pc := 11) C0 in_SY hK hP (1) f1 rfl 1 (by decide) fl_SU_17 rfl d_SU_becomeHolderOf_11 ?_
      refine mb_ge (pc := 14) (tgt := 48) C0 (by omega) (by omega) d_SU_becomeHolderOf_14 (by decide) (fun hc => ?_) (fun hc => ?_)
      · have hSe : S1 = su_hd n SG pts := by
          funext x
          have h8 : S1 x = true ↔ su_hd n SG pts x = true := ⟨hup x, fun h => hlo x (by have := hHd.2.1 x h; omega) h⟩
          cases h9 : S1 x with
          | true => exact (h8.mp h9).symm
          | false =>
            cases h10 : su_hd n SG pts x with
            | false => rfl
            | true => rw [h8.mpr h10] at h9; exact absurd h9 (by decide)
        rw [hSe] at hsu
        exact hret _ _ _ 48 _ (⟨hfm, hsy, hli, G1, k1, hsu⟩) hP hD hS d_SU_becomeHolderOf_48
      · have hrN := hc
        refine lv_aload_n (pc := 17) C0.1 C0.2.1 d_SU_becomeHolderOf_17 rfl (lv_at hl 2 rfl) ?_
        refine lv_iload_n (pc := 18) C0.1 C0.2.1 d_SU_becomeHolderOf_18 rfl (lv_at hl 3 rfl) ?_
        refine mg_ci (pc := 19) (As := [.int (nI (r))]) (rest := []) C0 (c_SU_has l D ca ad h2 h6 hrN ws fp fq) lk_SU_47 (by decide) fp rfl hK hP hD hS hA rfl hl.1 rfl (Nat.le_of_ble_eq_true rfl) d_SU_becomeHolderOf_19 (fun rv ws1 H locs hpost hP hD hS => ?_)
        obtain ⟨hr1, hw⟩ := hpost
        rw [hw] at hP hD
        rw [su_wd_lt hwO hrN] at hr1
        cases hs : SG r with
        | true =>
            rw [hs, if_pos rfl] at hr1
            refine mg_top (show rv = nI (1) from hr1) ?_
            refine mz_eq (pc := 22) (tgt := 42) C0 (by decide) d_SU_becomeHolderOf_22 (by decide) (fun h9 => absurd h9 (by decide)) (fun _ => ?_)
            refine lv_aload_n (pc := 25) C0.1 C0.2.1 d_SU_becomeHolderOf_25 rfl (lv_at hl 0 rfl) ?_
            refine mg_get (pc := 26) C0 in_SU hK hP (10 + 3 * i) fo rfl 1 (by decide) fl_SU_7 rfl d_SU_becomeHolderOf_26 ?_
            refine lv_iload_n (pc := 29) C0.1 C0.2.1 d_SU_becomeHolderOf_29 rfl (lv_at hl 3 rfl) ?_
            refine lv_iload_n (pc := 30) C0.1 C0.2.1 d_SU_becomeHolderOf_30 rfl (lv_at hl 1 rfl) ?_
            refine mg_ci (pc := 31) (As := [.int (nI (r)), .int (nI (pts))]) (rest := []) C0 (c_SY_holds l D ca ad h2 h6 hrN hp ws hsy) lk_SU_51 (by decide) f1 rfl hK hP hD hS hA rfl hl.1 rfl (Nat.le_of_ble_eq_true rfl) d_SU_becomeHolderOf_31 (fun rv ws1 H locs hpost hP hD hS => ?_)
            obtain ⟨hr1, hw⟩ := hpost
            rw [hw] at hP hD
            cases hh : pm_hd n r pts with
            | true =>
                rw [hh, if_pos rfl] at hr1
                refine mg_top (show rv = nI (1) from hr1) ?_
                refine mz_eq (pc := 34) (tgt := 42) C0 (by decide) d_SU_becomeHolderOf_34 (by decide) (fun h9 => absurd h9 (by decide)) (fun _ => ?_)
                have hHr : su_hd n SG pts r = true := by unfold su_hd; rw [hs, hh]; rfl
                refine lv_aload_n (pc := 37) C0.1 C0.2.1 d_SU_becomeHolderOf_37 rfl (lv_at hl 0 rfl) ?_
                refine lv_iload_n (pc := 38) C0.1 C0.2.1 d_SU_becomeHolderOf_38 rfl (lv_at hl 3 rfl) ?_
                refine mg_cv (pc := 39) (As := [.int (nI (r))]) (rest := []) C0 (c_SU_add l D ca ad h2 h6 hrN ws hsy hli hsu) lk_SU_55 (by decide) fo rfl hK hP hD hS hA rfl hl.1 rfl (Nat.le_of_ble_eq_true rfl) d_SU_becomeHolderOf_39 (fun ws H locs hpost hP hD hS => ?_)
                obtain ⟨hfr, hsy, hli, S2, G2, k2, hsu, hext, hkk, hG2⟩ := hpost
                have f1 := (hfr (1) (by omega)).trans f1
                have fp := (hfr (10 + 3 * o) (by omega)).trans fp
                have fq := (hfr (11 + 3 * o) (by omega)).trans fq
                have fr := (hfr (12 + 3 * o) (by omega)).trans fr
                have hso := su_fr (hfr (10 + 3 * o) (by omega)) (hfr (11 + 3 * o) (by omega)) (hfr (12 + 3 * o) (by omega)) hso
                have hfm : ∀ j, j ≠ 3 ∧ j ≠ 8 ∧ j ≠ 10 + 3 * i ∧ j ≠ 11 + 3 * i ∧ j ≠ 12 + 3 * i → ws[j]? = ws0[j]? := fun j hj => (hfr j (by omega)).trans (hfm j hj)
                refine lv_iinc (pc := 42) (k := 3) (v := nI (r + 1)) (lv' := [(3, .int (nI (r + 1))), (0, .ref (ad (10 + 3 * i))), (1, .int (nI (pts))), (2, .ref (ad (10 + 3 * o)))]) C0.1 C0.2.1 d_SU_becomeHolderOf_42 hl rfl (nb_p1 _) (by decide) rfl (fun ls hl => ?_)
                refine lv_goto (pc := 45) (tgt := 6) C0.1 C0.2.1 d_SU_becomeHolderOf_45 (by decide) ?_
                exact ih_loop _ (by omega) (r + 1) S2 G2 k2 _ _ _ _ rfl hsy hli hsu hso (by omega) (fun x hx h => by
                  by_cases e : x = r
                  · subst e; exact hext.2.2.1
                  · exact hext.2.1 x (hlo x (by omega) h)) (hext.2.2.2 _ hHd hup hHr) hfm (lv_sub hl [1, 2, 3, 0] rfl) hP hD hS
            | false =>
                rw [hh, if_neg (by decide)] at hr1
                refine mg_top (show rv = nI (0) from hr1) ?_
                refine mz_eq (pc := 34) (tgt := 42) C0 (by decide) d_SU_becomeHolderOf_34 (by decide) (fun _ => ?_) (fun h9 => absurd rfl h9)
                refine lv_iinc (pc := 42) (k := 3) (v := nI (r + 1)) (lv' := [(3, .int (nI (r + 1))), (0, .ref (ad (10 + 3 * i))), (1, .int (nI (pts))), (2, .ref (ad (10 + 3 * o)))]) C0.1 C0.2.1 d_SU_becomeHolderOf_42 hl rfl (nb_p1 _) (by decide) rfl (fun ls hl => ?_)
                refine lv_goto (pc := 45) (tgt := 6) C0.1 C0.2.1 d_SU_becomeHolderOf_45 (by decide) ?_
                exact ih_loop _ (by omega) (r + 1) S1 G1 k1 _ _ _ _ rfl hsy hli hsu hso (by omega) (fun x hx h => by
                  by_cases e : x = r
                  · subst e; exfalso; unfold su_hd at h; rw [hh] at h; exact absurd h (by simp)
                  · exact hlo x (by omega) h) hup hfm (lv_sub hl [1, 2, 3, 0] rfl) hP hD hS
        | false =>
            rw [hs, if_neg (by decide)] at hr1
            refine mg_top (show rv = nI (0) from hr1) ?_
            refine mz_eq (pc := 22) (tgt := 42) C0 (by decide) d_SU_becomeHolderOf_22 (by decide) (fun _ => ?_) (fun h9 => absurd rfl h9)
            refine lv_iinc (pc := 42) (k := 3) (v := nI (r + 1)) (lv' := [(3, .int (nI (r + 1))), (0, .ref (ad (10 + 3 * i))), (1, .int (nI (pts))), (2, .ref (ad (10 + 3 * o)))]) C0.1 C0.2.1 d_SU_becomeHolderOf_42 hl rfl (nb_p1 _) (by decide) rfl (fun ls hl => ?_)
            refine lv_goto (pc := 45) (tgt := 6) C0.1 C0.2.1 d_SU_becomeHolderOf_45 (by decide) ?_
            exact ih_loop _ (by omega) (r + 1) S1 G1 k1 _ _ _ _ rfl hsy hli hsu hso (by omega) (fun x hx h => by
              by_cases e : x = r
              · subst e; exfalso; unfold su_hd at h; rw [hs] at h; exact absurd h (by simp)
              · exact hlo x (by omega) h) hup hfm (lv_sub hl [1, 2, 3, 0] rfl) hP hD hS
  exact loop _ 0 su_one (fun _ => 0) 0 _ _ _ _ rfl hsy hli hsu hso (by omega) (fun x hx => absurd hx (by omega)) (fun x hx => by
    rw [(su_one_iff x).mp hx]; exact hHd.1) hfm (lv_sub hl [1, 2, 3, 0] rfl) hP hD hS
