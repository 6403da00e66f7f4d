/-! Subgroup: copies and questions -/
set_option maxHeartbeats 4000000 in
set_option maxRecDepth 100000 in
theorem c_SU_becomeCopyOf (l : Launch) (D : va_G) (ca : Nat → ClassId) (ad : Nat → Nat) {n : Nat} (h2 : 2 ≤ n) (h6 : n ≤ 6) {i o kG : Nat} {SG : Nat → Bool} {GG : Nat → Nat} {sz kc : Int32} {f : Nat → Int64} {g : Nat → Int32} (hio : i ≠ o) (ws0 : va_W) (hso : su_ok ca ad n o ws0 SG GG kG) (zo : ws0[10 + 3 * i]? = some (ad (10 + 3 * i), .inr (2, [.int (sz), .ref (ad 1), .ref (ad (11 + 3 * i)), .ref (ad (12 + 3 * i)), .int (kc), .ref (ad 8)]))) (zm : ws0[11 + 3 * i]? = some (ad (11 + 3 * i), .inl (ca 2, (pm_fc n + 63) / 64, .inr (.inl (f))))) (zg : ws0[12 + 3 * i]? = some (ad (12 + 3 * i), .inl (ca 1, 10, .inl (g)))) : mg_V l y_SU_becomeCopyOf b_SU_becomeCopyOf 2 3 D classes (tys_ ca) [.ref (ad (10 + 3 * i)), .ref (ad (10 + 3 * o))] ws0 (fun w => (∀ j, j ≠ 10 + 3 * i ∧ j ≠ 11 + 3 * i ∧ j ≠ 12 + 3 * i → w[j]? = ws0[j]?) ∧ su_ok ca ad n i w SG GG kG) := by
  obtain ⟨fo2, go2, ⟨zp, zq, zr⟩, hwO, hgO, hgenO, h2O⟩ := hso
  have hkO := su_k9 h6 h2O (ma_cn_le _ (pm_fc n))
  have hN := pm_fc_le h6
  refine mg_openV (own := R_SU) rfl (by decide) (Nat.le_of_ble_eq_true rfl) ?_
  intro p e s m args below meth c A Q ls C0 hK hA hP hD hS hl hret
  have hl : lv_has ls 2 [(0, .ref (ad (10 + 3 * i))), (1, .ref (ad (10 + 3 * o)))] := hl
  have fo := zo
  have fm := zm
  have fg := zg
  have fp := zp
  have fq := zq
  have fr := zr
  have hfm : ∀ j, j ≠ 10 + 3 * i ∧ j ≠ 11 + 3 * i ∧ j ≠ 12 + 3 * i → ws0[j]? = ws0[j]? := fun _ _ => rfl
  refine lv_aload_n (pc := 0) C0.1 C0.2.1 d_SU_becomeCopyOf_0 rfl (lv_at hl 1 rfl) ?_
  refine mg_get (pc := 1) C0 in_SU hK hP (10 + 3 * o) fp rfl 2 (by decide) fl_SU_23 rfl d_SU_becomeCopyOf_1 ?_
  refine lv_iconst (pc := 4) (v := nI (0)) C0.1 C0.2.1 d_SU_becomeCopyOf_4 (by decide +kernel) ?_
  refine lv_aload_n (pc := 5) C0.1 C0.2.1 d_SU_becomeCopyOf_5 rfl (lv_at hl 0 rfl) ?_
  refine mg_get (pc := 6) C0 in_SU hK hP (10 + 3 * i) fo rfl 2 (by decide) fl_SU_23 rfl d_SU_becomeCopyOf_6 ?_
  refine lv_iconst (pc := 9) (v := nI (0)) C0.1 C0.2.1 d_SU_becomeCopyOf_9 (by decide +kernel) ?_
  refine lv_aload_n (pc := 10) C0.1 C0.2.1 d_SU_becomeCopyOf_10 rfl (lv_at hl 0 rfl) ?_
  refine mg_get (pc := 11) C0 in_SU hK hP (10 + 3 * i) fo rfl 2 (by decide) fl_SU_23 rfl d_SU_becomeCopyOf_11 ?_
  refine va_alen (pc := 14) C0.1 C0.2.1 hK hP (11 + 3 * i) 2 fm rfl (v := nI ((pm_fc n + 63) / 64)) rfl d_SU_becomeCopyOf_14 ?_
  refine mg_cpl (pc := 15) C0 hl.1 ac_SU_41 hK hP hD hS (11 + 3 * o) (11 + 3 * i) 2 2 fq fm rfl rfl (by omega) (by omega) (by omega) (by decide) (Nat.le_of_ble_eq_true rfl) d_SU_becomeCopyOf_15 (fun ws H locs hfr fm hP hD hS => ?_)
  have fo := (hfr (10 + 3 * i) (by omega)).trans fo
  have fg := (hfr (12 + 3 * i) (by omega)).trans fg
  have fp := (hfr (10 + 3 * o) (by omega)).trans fp
  have fq := (hfr (11 + 3 * o) (by omega)).trans fq
  have fr := (hfr (12 + 3 * o) (by omega)).trans fr
  have hfm : ∀ j, j ≠ 10 + 3 * i ∧ j ≠ 11 + 3 * i ∧ j ≠ 12 + 3 * i → ws[j]? = ws0[j]? := fun j hj => (hfr j (by omega)).trans (hfm j hj)
  refine lv_aload_n (pc := 18) C0.1 C0.2.1 d_SU_becomeCopyOf_18 rfl (lv_at hl 1 rfl) ?_
  refine mg_get (pc := 19) C0 in_SU hK hP (10 + 3 * o) fp rfl 3 (by decide) fl_SU_27 rfl d_SU_becomeCopyOf_19 ?_
  refine lv_iconst (pc := 22) (v := nI (0)) C0.1 C0.2.1 d_SU_becomeCopyOf_22 (by decide +kernel) ?_
  refine lv_aload_n (pc := 23) C0.1 C0.2.1 d_SU_becomeCopyOf_23 rfl (lv_at hl 0 rfl) ?_
  refine mg_get (pc := 24) C0 in_SU hK hP (10 + 3 * i) fo rfl 3 (by decide) fl_SU_27 rfl d_SU_becomeCopyOf_24 ?_
  refine lv_iconst (pc := 27) (v := nI (0)) C0.1 C0.2.1 d_SU_becomeCopyOf_27 (by decide +kernel) ?_
  refine lv_aload_n (pc := 28) C0.1 C0.2.1 d_SU_becomeCopyOf_28 rfl (lv_at hl 0 rfl) ?_
  refine mg_get (pc := 29) C0 in_SU hK hP (10 + 3 * i) fo rfl 3 (by decide) fl_SU_27 rfl d_SU_becomeCopyOf_29 ?_
  refine va_alen (pc := 32) C0.1 C0.2.1 hK hP (12 + 3 * i) 1 fg rfl (v := nI (10)) rfl d_SU_becomeCopyOf_32 ?_
  refine mg_cpi (pc := 33) C0 hl.1 ac_SU_41 hK hP hD hS (12 + 3 * o) (12 + 3 * i) 1 1 fr fg rfl rfl (by omega) (by omega) (by omega) (by decide) (Nat.le_of_ble_eq_true rfl) d_SU_becomeCopyOf_33 (fun ws H locs hfr fg hP hD hS => ?_)
  have fo := (hfr (10 + 3 * i) (by omega)).trans fo
  have fm := (hfr (11 + 3 * i) (by omega)).trans fm
  have fp := (hfr (10 + 3 * o) (by omega)).trans fp
  have fq := (hfr (11 + 3 * o) (by omega)).trans fq
  have fr := (hfr (12 + 3 * o) (by omega)).trans fr
  have hfm : ∀ j, j ≠ 10 + 3 * i ∧ j ≠ 11 + 3 * i ∧ j ≠ 12 + 3 * i → ws[j]? = ws0[j]? := fun j hj => (hfr j (by omega)).trans (hfm j hj)
  refine lv_aload_n (pc := 36) C0.1 C0.2.1 d_SU_becomeCopyOf_36 rfl (lv_at hl 0 rfl) ?_
  refine lv_aload_n (pc := 37) C0.1 C0.2.1 d_SU_becomeCopyOf_37 rfl (lv_at hl 1 rfl) ?_
  refine mg_get (pc := 38) C0 in_SU hK hP (10 + 3 * o) fp rfl 0 (by decide) fl_SU_37 rfl d_SU_becomeCopyOf_38 ?_
  refine mg_put (pc := 41) C0 in_SU t_SU_ok n_SU hK hP hD hS (10 + 3 * i) fo rfl 0 (by decide) fl_SU_37 rfl (ty := .int) (by decide +kernel) rfl rfl (Nat.le_of_ble_eq_true rfl) (fs' := [.int (nI (ma_cn SG (pm_fc n))), .ref (ad 1), .ref (ad (11 + 3 * i)), .ref (ad (12 + 3 * i)), .int (kc), .ref (ad 8)]) rfl d_SU_becomeCopyOf_41 (fun ws H locs hfr fo hP hD hS => ?_)
  have fm := (hfr (11 + 3 * i) (by omega)).trans fm
  have fg := (hfr (12 + 3 * i) (by omega)).trans fg
  have fp := (hfr (10 + 3 * o) (by omega)).trans fp
  have fq := (hfr (11 + 3 * o) (by omega)).trans fq
  have fr := (hfr (12 + 3 * o) (by omega)).trans fr
  have hfm : ∀ j, j ≠ 10 + 3 * i ∧ j ≠ 11 + 3 * i ∧ j ≠ 12 + 3 * i → ws[j]? = ws0[j]? := fun j hj => (hfr j (by omega)).trans (hfm j hj)
  refine lv_aload_n (pc := 44) C0.1 C0.2.1 d_SU_becomeCopyOf_44 rfl (lv_at hl 0 rfl) ?_
  refine lv_aload_n (pc := 45) C0.1 C0.2.1 d_SU_becomeCopyOf_45 rfl (lv_at hl 1 rfl) ?_
  refine mg_get (pc := 46) C0 in_SU hK hP (10 + 3 * o) fp rfl 4 (by decide) fl_SU_38 rfl d_SU_becomeCopyOf_46 ?_
  refine mg_put (pc := 49) C0 in_SU t_SU_ok n_SU hK hP hD hS (10 + 3 * i) fo rfl 4 (by decide) fl_SU_38 rfl (ty := .int) (by decide +kernel) rfl rfl (Nat.le_of_ble_eq_true rfl) (fs' := [.int (nI (ma_cn SG (pm_fc n))), .ref (ad 1), .ref (ad (11 + 3 * i)), .ref (ad (12 + 3 * i)), .int (nI (kG)), .ref (ad 8)]) rfl d_SU_becomeCopyOf_49 (fun ws H locs hfr fo hP hD hS => ?_)
  have fm := (hfr (11 + 3 * i) (by omega)).trans fm
  have fg := (hfr (12 + 3 * i) (by omega)).trans fg
  have fp := (hfr (10 + 3 * o) (by omega)).trans fp
  have fq := (hfr (11 + 3 * o) (by omega)).trans fq
  have fr := (hfr (12 + 3 * o) (by omega)).trans fr
  have hfm : ∀ j, j ≠ 10 + 3 * i ∧ j ≠ 11 + 3 * i ∧ j ≠ 12 + 3 * i → ws[j]? = ws0[j]? := fun j hj => (hfr j (by omega)).trans (hfm j hj)
  exact hret _ _ _ 52 _ (⟨hfm, va_cpy fo2 f 0 0 ((pm_fc n + 63) / 64), va_cpy go2 g 0 0 10, ⟨fo, fm, fg⟩, fun r hr => by
      rw [← hwO r hr]
      unfold bw_t
      rw [pk_cpy_in (by omega) (by omega)]
      congr 3
      omega, fun j hj => by
      rw [pk_cpy_in (by omega) (by omega), ← hgO j hj]
      congr 1
      omega, hgenO, h2O⟩) hP hD hS d_SU_becomeCopyOf_52
set_option maxHeartbeats 4000000 in
set_option maxRecDepth 100000 in
theorem c_SU_isKeptBy (l : Launch) (D : va_G) (ca : Nat → ClassId) (ad : Nat → Nat) {n : Nat} (h2 : 2 ≤ n) (h6 : n ≤ 6) {i o k kG : Nat} {S SG : Nat → Bool} {G GG : Nat → Nat} (ws0 : va_W) (hsy : sy_ok ca ad n ws0) (hsu : su_ok ca ad n i ws0 S G k) (hso : su_ok ca ad n o ws0 SG GG kG) : mg_I l y_SU_isKeptBy b_SU_isKeptBy 4 (.boolean) 5 D classes (tys_ ca) [.ref (ad (10 + 3 * i)), .ref (ad (10 + 3 * o))] ws0 (fun v w => ((v = nI 1 ∧ ∀ j s, j < k → s < kG → S (ga_cj (pm_mu n) (pm_iv n) (G j) (GG s)) = true) ∨ (v = nI 0 ∧ ∃ j s, j < k ∧ s < kG ∧ S (ga_cj (pm_mu n) (pm_iv n) (G j) (GG s)) = false)) ∧ (∀ j, j ≠ 3 → w[j]? = ws0[j]?) ∧ sy_ok ca ad n w) := by
  have z1 := hsy.1
  have g0 := pm_gp h2 h6
  have hN := pm_fc_le h6
  have hsu0 := hsu
  obtain ⟨f, g, ⟨zo, zm, zg⟩, hwI, hgI, hgenI, h2I⟩ := hsu
  have hk9 := su_k9 h6 h2I (ma_cn_le _ (pm_fc n))
  have hcI := ma_cn_le S (pm_fc n)
  obtain ⟨fo2, go2, ⟨zp, zq, zr⟩, hwO, hgO, hgenO, h2O⟩ := hso
  have hkO := su_k9 h6 h2O (ma_cn_le _ (pm_fc n))
  refine mg_openI (own := R_SU) rfl (by decide) (Nat.le_of_ble_eq_true rfl) ?_
  intro p e s m args below meth c A Q ls C0 hK hA hP hD hS hl hret
  have hl : lv_has ls 4 [(0, .ref (ad (10 + 3 * i))), (1, .ref (ad (10 + 3 * o)))] := hl
  have f1 := z1
  have fo := zo
  have fm := zm
  have fg := zg
  have fp := zp
  have fq := zq
  have fr := zr
  have hfm : ∀ j, j ≠ 3 → ws0[j]? = ws0[j]? := fun _ _ => rfl
  refine lv_iconst (pc := 0) (v := nI (0)) C0.1 C0.2.1 d_SU_isKeptBy_0 (by decide +kernel) ?_
  refine lv_istore_n (pc := 1) (lv' := [(2, .int (nI (0))), (0, .ref (ad (10 + 3 * i))), (1, .ref (ad (10 + 3 * o)))]) C0.1 C0.2.1 d_SU_isKeptBy_1 rfl hl (by decide) rfl (fun ls hl => ?_)
  have outer : ∀ (d : Nat) (a : Nat) (ws : va_W) (H : Heap) (locs : List Loc) (ls : Array Slot), k - a = d → (sy_ok ca ad n ws) → (a ≤ k) → (∀ j s, j < a → s < kG → S (ga_cj (pm_mu n) (pm_iv n) (G j) (GG s)) = true) → (∀ j, j ≠ 3 → ws[j]? = ws0[j]?) → lv_has ls 4 [(0, .ref (ad (10 + 3 * i))), (1, .ref (ad (10 + 3 * o))), (2, .int (nI (a)))] → va_P D classes ws H → va_D A ws → va_S A s.heap H locs → W p l e (mg_rm 5) s m args below meth c H locs 0 0 Q (F0 m 2 ls []) := by
    intro d
    induction d using Nat.strongRecOn with
    | _ d ih_outer =>
      intro a ws H locs ls hd hsy ha hpr hfm hl hP hD hS
      have f1 := (hfm (1) (by omega)).trans z1
      have fo := (hfm (10 + 3 * i) (by omega)).trans zo
      have fm := (hfm (11 + 3 * i) (by omega)).trans zm
      have fg := (hfm (12 + 3 * i) (by omega)).trans zg
      have fp := (hfm (10 + 3 * o) (by omega)).trans zp
      have fq := (hfm (11 + 3 * o) (by omega)).trans zq
      have fr := (hfm (12 + 3 * o) (by omega)).trans zr
      refine lv_iload_n (pc := 2) C0.1 C0.2.1 d_SU_isKeptBy_2 rfl (lv_at hl 2 rfl) ?_
      refine lv_aload_n (pc := 3) C0.1 C0.2.1 d_SU_isKeptBy_3 rfl (lv_at hl 0 rfl) ?_
      refine mg_get (pc := 4) C0 in_SU hK hP (10 + 3 * i) fo rfl 4 (by decide) fl_SU_38 rfl d_SU_isKeptBy_4 ?_
      refine mb_ge (pc := 7) (tgt := 60) C0 (by omega) (by omega) d_SU_isKeptBy_7 (by decide) (fun hc => ?_) (fun hc => ?_)
      · refine lv_iconst (pc := 60) (v := nI (1)) C0.1 C0.2.1 d_SU_isKeptBy_60 (by decide +kernel) ?_
        exact hret _ _ _ _ 61 _ (rfl) (⟨Or.inl ⟨rfl, fun j s hj hs => hpr j s (by omega) hs⟩, hfm, hsy⟩) hP hD hS d_SU_isKeptBy_61
      · have hak := hc
        refine lv_iconst (pc := 10) (v := nI (0)) C0.1 C0.2.1 d_SU_isKeptBy_10 (by decide +kernel) ?_
        refine lv_istore_n (pc := 11) (lv' := [(3, .int (nI (0))), (0, .ref (ad (10 + 3 * i))), (1, .ref (ad (10 + 3 * o))), (2, .int (nI (a)))]) C0.1 C0.2.1 d_SU_isKeptBy_11 rfl hl (by decide) rfl (fun ls hl => ?_)
        have inner : ∀ (d : Nat) (u : Nat) (ws : va_W) (H : Heap) (locs : List Loc) (ls : Array Slot), kG - u = d → (sy_ok ca ad n ws) → (u ≤ kG) → (∀ s, s < u → S (ga_cj (pm_mu n) (pm_iv n) (G a) (GG s)) = true) → (∀ j, j ≠ 3 → ws[j]? = ws0[j]?) → lv_has ls 4 [(0, .ref (ad (10 + 3 * i))), (1, .ref (ad (10 + 3 * o))), (2, .int (nI (a))), (3, .int (nI (u)))] → va_P D classes ws H → va_D A ws → va_S A s.heap H locs → W p l e (mg_rm 5) s m args below meth c H locs 0 0 Q (F0 m 12 ls []) := by
          intro d
          induction d using Nat.strongRecOn with
          | _ d ih_inner =>
            intro u ws H locs ls hd hsy hu hin hfm hl hP hD hS
            have f1 := (hfm (1) (by omega)).trans z1
            have fo := (hfm (10 + 3 * i) (by omega)).trans zo
            have fm := (hfm (11 + 3 * i) (by omega)).trans zm
            have fg := (hfm (12 + 3 * i) (by omega)).trans zg
            have fp := (hfm (10 + 3 * o) (by omega)).trans zp
            have fq := (hfm (11 + 3 * o) (by omega)).trans zq
            have fr := (hfm (12 + 3 * o) (by omega)).trans zr
            refine lv_iload_n (pc := 12) C0.1 C0.2.1 d_SU_isKeptBy_12 rfl (lv_at hl 3 rfl) ?_
            refine lv_aload_n (pc := 13) C0.1 C0.2.1 d_SU_isKeptBy_13 rfl (lv_at hl 1 rfl) ?_
            refine mg_get (pc := 14) C0 in_SU hK hP (10 + 3 * o) fp rfl 4 (by decide) fl_SU_38 rfl d_SU_isKeptBy_14 ?_
            refine mb_ge (pc := 17) (tgt := 54) C0 (by omega) (by omega) d_SU_isKeptBy_17 (by decide) (fun hc => ?_) (fun hc => ?_)
            · refine lv_iinc (pc := 54) (k := 2) (v := nI (a + 1)) (lv' := [(2, .int (nI (a + 1))), (0, .ref (ad (10 + 3 * i))), (1, .ref (ad (10 + 3 * o))), (3, .int (nI (u)))]) C0.1 C0.2.1 d_SU_isKeptBy_54 hl rfl (nb_p1 _) (by decide) rfl (fun ls hl => ?_)
              refine lv_goto (pc := 57) (tgt := 2) C0.1 C0.2.1 d_SU_isKeptBy_57 (by decide) ?_
              exact ih_outer _ (by omega) (a + 1) _ _ _ _ rfl hsy (by omega) (fun j s hj hs => by
                by_cases e : j = a
                · subst e; exact hin s (by omega)
                · exact hpr j s (by omega) hs) hfm (lv_sub hl [1, 2, 0] rfl) hP hD hS
            · have huk := hc
              have hGa := gp_gen_lt hgenI hak
              have hGu := gp_gen_lt hgenO huk
              have hcj := gp_cjl g0 hGa hGu
              refine lv_aload_n (pc := 20) C0.1 C0.2.1 d_SU_isKeptBy_20 rfl (lv_at hl 0 rfl) ?_
              refine lv_aload_n (pc := 21) C0.1 C0.2.1 d_SU_isKeptBy_21 rfl (lv_at hl 0 rfl) ?_
              refine mg_get (pc := 22) C0 in_SU hK hP (10 + 3 * i) fo rfl 1 (by decide) fl_SU_7 rfl d_SU_isKeptBy_22 ?_
              refine lv_aload_n (pc := 25) C0.1 C0.2.1 d_SU_isKeptBy_25 rfl (lv_at hl 0 rfl) ?_
              refine mg_get (pc := 26) C0 in_SU hK hP (10 + 3 * i) fo rfl 3 (by decide) fl_SU_27 rfl d_SU_isKeptBy_26 ?_
              refine lv_iload_n (pc := 29) C0.1 C0.2.1 d_SU_isKeptBy_29 rfl (lv_at hl 2 rfl) ?_
              refine mg_ild (pc := 30) C0 hK hP (12 + 3 * i) 1 fg rfl (j := a) (by omega) (by omega) d_SU_isKeptBy_30 ?_
              refine mg_top (show g (a) = nI (G a) from hgI a hak) ?_
              refine lv_aload_n (pc := 31) C0.1 C0.2.1 d_SU_isKeptBy_31 rfl (lv_at hl 1 rfl) ?_
              refine mg_get (pc := 32) C0 in_SU hK hP (10 + 3 * o) fp rfl 3 (by decide) fl_SU_27 rfl d_SU_isKeptBy_32 ?_
              refine lv_iload_n (pc := 35) C0.1 C0.2.1 d_SU_isKeptBy_35 rfl (lv_at hl 3 rfl) ?_
              refine mg_ild (pc := 36) C0 hK hP (12 + 3 * o) 1 fr rfl (j := u) (by omega) (by omega) d_SU_isKeptBy_36 ?_
              refine mg_top (show go2 (u) = nI (GG u) from hgO u huk) ?_
              refine mg_ci (pc := 37) (As := [.int (nI (G a)), .int (nI (GG u))]) (rest := [.ref (ad (10 + 3 * i))]) C0 (c_SY_conjugate l D ca ad h2 h6 hGa hGu ws hsy) lk_SU_66 (by decide) f1 rfl hK hP hD hS hA rfl hl.1 rfl (Nat.le_of_ble_eq_true rfl) d_SU_isKeptBy_37 (fun rv ws H locs hpost hP hD hS => ?_)
              obtain ⟨hr1, hfr, hsy⟩ := hpost
              have f1 := (hfr (1) (by omega)).trans f1
              have fo := (hfr (10 + 3 * i) (by omega)).trans fo
              have fm := (hfr (11 + 3 * i) (by omega)).trans fm
              have fg := (hfr (12 + 3 * i) (by omega)).trans fg
              have fp := (hfr (10 + 3 * o) (by omega)).trans fp
              have fq := (hfr (11 + 3 * o) (by omega)).trans fq
              have fr := (hfr (12 + 3 * o) (by omega)).trans fr
              have hfm : ∀ j, j ≠ 3 → ws[j]? = ws0[j]? := fun j hj => (hfr j (by omega)).trans (hfm j hj)
              refine mg_top (show rv = nI (ga_cj (pm_mu n) (pm_iv n) (G a) (GG u)) from hr1) ?_
              refine mg_ci (pc := 40) (As := [.int (nI (ga_cj (pm_mu n) (pm_iv n) (G a) (GG u)))]) (rest := []) C0 (c_SU_has l D ca ad h2 h6 hcj ws fo fm) lk_SU_47 (by decide) fo rfl hK hP hD hS hA rfl hl.1 rfl (Nat.le_of_ble_eq_true rfl) d_SU_isKeptBy_40 (fun rv ws1 H locs hpost hP hD hS => ?_)
              obtain ⟨hr1, hw⟩ := hpost
              rw [hw] at hP hD
              rw [su_wd_lt hwI hcj] at hr1
              cases hx : S (ga_cj (pm_mu n) (pm_iv n) (G a) (GG u)) with
              | true =>
                  rw [hx, if_pos rfl] at hr1
                  refine mg_top (show rv = nI (1) from hr1) ?_
                  refine mz_ne (pc := 43) (tgt := 48) C0 (by decide) d_SU_isKeptBy_43 (by decide) (fun _ => ?_) (fun h9 => absurd h9 (by decide))
                  refine lv_iinc (pc := 48) (k := 3) (v := nI (u + 1)) (lv' := [(3, .int (nI (u + 1))), (0, .ref (ad (10 + 3 * i))), (1, .ref (ad (10 + 3 * o))), (2, .int (nI (a)))]) C0.1 C0.2.1 d_SU_isKeptBy_48 hl rfl (nb_p1 _) (by decide) rfl (fun ls hl => ?_)
                  refine lv_goto (pc := 51) (tgt := 12) C0.1 C0.2.1 d_SU_isKeptBy_51 (by decide) ?_
                  exact ih_inner _ (by omega) (u + 1) _ _ _ _ rfl hsy (by omega) (fun s hs => by
                    by_cases e : s = u
                    · subst e; exact hx
                    · exact hin s (by omega)) hfm (lv_sub hl [1, 2, 3, 0] rfl) hP hD hS
              | false =>
                  rw [hx, if_neg (by decide)] at hr1
                  refine mg_top (show rv = nI (0) from hr1) ?_
                  refine mz_ne (pc := 43) (tgt := 48) C0 (by decide) d_SU_isKeptBy_43 (by decide) (fun h9 => absurd rfl h9) (fun _ => ?_)
                  refine lv_iconst (pc := 46) (v := nI (0)) C0.1 C0.2.1 d_SU_isKeptBy_46 (by decide +kernel) ?_
                  exact hret _ _ _ _ 47 _ (rfl) (⟨Or.inr ⟨rfl, a, u, hak, huk, hx⟩, hfm, hsy⟩) hP hD hS d_SU_isKeptBy_47
        exact inner _ 0 _ _ _ _ rfl hsy (by omega) (fun s hs => absurd hs (by omega)) hfm (lv_sub hl [1, 2, 3, 0] rfl) hP hD hS
  exact outer _ 0 _ _ _ _ rfl hsy (by omega) (fun j s hj => absurd hj (by omega)) hfm (lv_sub hl [1, 2, 0] rfl) hP hD hS
set_option maxHeartbeats 4000000 in
set_option maxRecDepth 100000 in
theorem c_SU_member (l : Launch) (D : va_G) (ca : Nat → ClassId) (ad : Nat → Nat) {n : Nat} (h2 : 2 ≤ n) (h6 : n ≤ 6) {i k : Nat} {S : Nat → Bool} {G : Nat → Nat} {q : Nat} (hq : q < ma_cn S (pm_fc n)) (ws0 : va_W) (hsy : sy_ok ca ad n ws0) (hsu : su_ok ca ad n i ws0 S G k) : mg_I l y_SU_member b_SU_member 4 (.int) 2 D classes (tys_ ca) [.ref (ad (10 + 3 * i)), .int (nI (q))] ws0 (fun v w => v = nI (ma_el S q (pm_fc n)) ∧ w = ws0) := by
  have z1 := hsy.1
  have hN := pm_fc_le h6
  have hsu0 := hsu
  obtain ⟨f, g, ⟨zo, zm, zg⟩, hwI, hgI, hgenI, h2I⟩ := hsu
  have hk9 := su_k9 h6 h2I (ma_cn_le _ (pm_fc n))
  have hcI := ma_cn_le S (pm_fc n)
  refine mg_openI (own := R_SU) rfl (by decide) (Nat.le_of_ble_eq_true rfl) ?_
  intro p e s m args below meth c A Q ls C0 hK hA hP hD hS hl hret
  have hl : lv_has ls 4 [(0, .ref (ad (10 + 3 * i))), (1, .int (nI (q)))] := hl
  have f1 := z1
  have fo := zo
  have fm := zm
  have fg := zg
  refine lv_iload_n (pc := 0) C0.1 C0.2.1 d_SU_member_0 rfl (lv_at hl 1 rfl) ?_
  refine lv_istore_n (pc := 1) (lv' := [(2, .int (nI (q))), (0, .ref (ad (10 + 3 * i))), (1, .int (nI (q)))]) C0.1 C0.2.1 d_SU_member_1 rfl hl (by decide) rfl (fun ls hl => ?_)
  refine lv_iconst (pc := 2) (v := nI (0)) C0.1 C0.2.1 d_SU_member_2 (by decide +kernel) ?_
  refine lv_istore_n (pc := 3) (lv' := [(3, .int (nI (0))), (2, .int (nI (q))), (0, .ref (ad (10 + 3 * i))), (1, .int (nI (q)))]) C0.1 C0.2.1 d_SU_member_3 rfl hl (by decide) rfl (fun ls hl => ?_)
  have loop : ∀ (d : Nat) (r : Nat) (H : Heap) (locs : List Loc) (ls : Array Slot), pm_fc n - r = d → (r ≤ pm_fc n) → (ma_cn S r ≤ q) → lv_has ls 4 [(0, .ref (ad (10 + 3 * i))), (2, .int (nI (q - ma_cn S r))), (3, .int (nI (r)))] → va_P D classes ws0 H → va_D A ws0 → va_S A s.heap H locs → W p l e (mg_rm 2) s m args below meth c H locs 0 0 Q (F0 m 4 ls []) := by
    intro d
    induction d using Nat.strongRecOn with
    | _ d ih_loop =>
      intro r H locs ls hd hr hle hl hP hD hS
      refine lv_iload_n (pc := 4) C0.1 C0.2.1 d_SU_member_4 rfl (lv_at hl 2 rfl) ?_
      refine lv_aload_n (pc := 5) C0.1 C0.2.1 d_SU_member_5 rfl (lv_at hl 0 rfl) ?_
      refine mg_get (pc := 6) C0 in_SU hK hP (10 + 3 * i) fo rfl 1 (by decide) fl_SU_7 rfl d_SU_member_6 ?_
      refine mg_get (pc := 9) C0 in_SY hK hP (1) f1 rfl 1 (by decide) fl_SU_17 rfl d_SU_member_9 ?_
      refine mb_ge (pc := 12) (tgt := 38) C0 (by omega) (by omega) d_SU_member_12 (by decide) (fun hc => ?_) (fun hc => ?_)
      · exfalso
        have hrr : r = pm_fc n := by omega
        subst hrr
        omega
      · have hrN := hc
        refine lv_aload_n (pc := 15) C0.1 C0.2.1 d_SU_member_15 rfl (lv_at hl 0 rfl) ?_
        refine lv_iload_n (pc := 16) C0.1 C0.2.1 d_SU_member_16 rfl (lv_at hl 2 rfl) ?_
        refine mg_ci (pc := 17) (As := [.int (nI (r))]) (rest := []) C0 (c_SU_has l D ca ad h2 h6 hrN ws0 fo fm) lk_SU_47 (by decide) fo rfl hK hP hD hS hA rfl hl.1 rfl (Nat.le_of_ble_eq_true rfl) d_SU_member_17 (fun rv ws1 H locs hpost hP hD hS => ?_)
        obtain ⟨hr1, hw⟩ := hpost
        rw [hw] at hP hD
        rw [su_wd_lt hwI hrN] at hr1
        cases hs : S r with
        | true =>
            rw [hs, if_pos rfl] at hr1
            refine mg_top (show rv = nI (1) from hr1) ?_
            refine mz_eq (pc := 20) (tgt := 32) C0 (by decide) d_SU_member_20 (by decide) (fun h9 => absurd h9 (by decide)) (fun _ => ?_)
            refine lv_iload_n (pc := 23) C0.1 C0.2.1 d_SU_member_23 rfl (lv_at hl 1 rfl) ?_
            refine mz_ne (pc := 24) (tgt := 29) C0 (by omega) d_SU_member_24 (by decide) (fun hc => ?_) (fun hc => ?_)
            · have e1 : ma_cn S (r + 1) = ma_cn S r + 1 := by show ma_cn S r + (if S r = true then 1 else 0) = _; rw [if_pos hs]
              refine lv_iinc (pc := 29) (k := 1) (v := nI (q - ma_cn S r - 1)) (lv' := [(2, .int (nI (q - ma_cn S r - 1))), (0, .ref (ad (10 + 3 * i))), (3, .int (nI (r)))]) C0.1 C0.2.1 d_SU_member_29 hl rfl (nb_m1 (by omega)) (by decide) rfl (fun ls hl => ?_)
              refine lv_iinc (pc := 32) (k := 2) (v := nI (r + 1)) (lv' := [(3, .int (nI (r + 1))), (2, .int (nI (q - ma_cn S r - 1))), (0, .ref (ad (10 + 3 * i)))]) C0.1 C0.2.1 d_SU_member_32 hl rfl (nb_p1 _) (by decide) rfl (fun ls hl => ?_)
              refine lv_goto (pc := 35) (tgt := 4) C0.1 C0.2.1 d_SU_member_35 (by decide) ?_
              rw [show q - ma_cn S r - 1 = q - ma_cn S (r + 1) by omega] at hl
              exact ih_loop _ (by omega) (r + 1) _ _ _ rfl (by omega) (by omega) (lv_sub hl [2, 1, 0] rfl) hP hD hS
            · refine lv_iload_n (pc := 27) C0.1 C0.2.1 d_SU_member_27 rfl (lv_at hl 2 rfl) ?_
              exact hret _ _ _ _ 28 _ (rfl) (⟨by rw [ma_el_eq hs (by omega) hrN], rfl⟩) hP hD hS d_SU_member_28
        | false =>
            rw [hs, if_neg (by decide)] at hr1
            refine mg_top (show rv = nI (0) from hr1) ?_
            refine mz_eq (pc := 20) (tgt := 32) C0 (by decide) d_SU_member_20 (by decide) (fun _ => ?_) (fun h9 => absurd rfl h9)
            refine lv_iinc (pc := 32) (k := 2) (v := nI (r + 1)) (lv' := [(3, .int (nI (r + 1))), (0, .ref (ad (10 + 3 * i))), (2, .int (nI (q - ma_cn S r)))]) C0.1 C0.2.1 d_SU_member_32 hl rfl (nb_p1 _) (by decide) rfl (fun ls hl => ?_)
            refine lv_goto (pc := 35) (tgt := 4) C0.1 C0.2.1 d_SU_member_35 (by decide) ?_
            have e1 : ma_cn S (r + 1) = ma_cn S r := by show ma_cn S r + (if S r = true then 1 else 0) = _; rw [hs, if_neg (by decide)]; exact Nat.add_zero _
            rw [← e1] at hl hle
            exact ih_loop _ (by omega) (r + 1) _ _ _ rfl (by omega) hle (lv_sub hl [1, 2, 0] rfl) hP hD hS
  exact loop _ 0 _ _ _ rfl (by omega) (Nat.zero_le _) (lv_sub hl [2, 1, 0] rfl) hP hD hS
set_option maxHeartbeats 4000000 in
set_option maxRecDepth 100000 in
theorem c_SU_leastOfCoset (l : Launch) (D : va_G) (ca : Nat → ClassId) (ad : Nat → Nat) {n : Nat} (h2 : 2 ≤ n) (h6 : n ≤ 6) {i k : Nat} {S : Nat → Bool} {G : Nat → Nat} {a : Nat} (ha : a < pm_fc n) (ws0 : va_W) (hsy : sy_ok ca ad n ws0) (hsu : su_ok ca ad n i ws0 S G k) : mg_I l y_SU_leastOfCoset b_SU_leastOfCoset 4 (.int) 4 D classes (tys_ ca) [.ref (ad (10 + 3 * i)), .int (nI (a))] ws0 (fun v w => v = nI (su_lf n S a (pm_fc n)) ∧ (∀ j, j ≠ 3 → w[j]? = ws0[j]?) ∧ sy_ok ca ad n w) := by
  have z1 := hsy.1
  have hN := pm_fc_le h6
  have g0 := pm_gp h2 h6
  have hsu0 := hsu
  obtain ⟨f, g, ⟨zo, zm, zg⟩, hwI, hgI, hgenI, h2I⟩ := hsu
  have hk9 := su_k9 h6 h2I (ma_cn_le _ (pm_fc n))
  have hcI := ma_cn_le S (pm_fc n)
  refine mg_openI (own := R_SU) rfl (by decide) (Nat.le_of_ble_eq_true rfl) ?_
  intro p e s m args below meth c A Q ls C0 hK hA hP hD hS hl hret
  have hl : lv_has ls 4 [(0, .ref (ad (10 + 3 * i))), (1, .int (nI (a)))] := hl
  have f1 := z1
  have fo := zo
  have fm := zm
  have fg := zg
  have hfm : ∀ j, j ≠ 3 → ws0[j]? = ws0[j]? := fun _ _ => rfl
  refine lv_iload_n (pc := 0) C0.1 C0.2.1 d_SU_leastOfCoset_0 rfl (lv_at hl 1 rfl) ?_
  refine lv_istore_n (pc := 1) (lv' := [(2, .int (nI (a))), (0, .ref (ad (10 + 3 * i))), (1, .int (nI (a)))]) C0.1 C0.2.1 d_SU_leastOfCoset_1 rfl hl (by decide) rfl (fun ls hl => ?_)
  refine lv_iconst (pc := 2) (v := nI (0)) C0.1 C0.2.1 d_SU_leastOfCoset_2 (by decide +kernel) ?_
  refine lv_istore_n (pc := 3) (lv' := [(3, .int (nI (0))), (2, .int (nI (a))), (0, .ref (ad (10 + 3 * i))), (1, .int (nI (a)))]) C0.1 C0.2.1 d_SU_leastOfCoset_3 rfl hl (by decide) rfl (fun ls hl => ?_)
  have loop : ∀ (d : Nat) (r : Nat) (ws : va_W) (H : Heap) (locs : List Loc) (ls : Array Slot), pm_fc n - r = d → (sy_ok ca ad n ws) → (r ≤ pm_fc n) → (∀ j, j ≠ 3 → ws[j]? = ws0[j]?) → lv_has ls 4 [(0, .ref (ad (10 + 3 * i))), (1, .int (nI (a))), (2, .int (nI (su_lf n S a r))), (3, .int (nI (r)))] → va_P D classes ws H → va_D A ws → va_S A s.heap H locs → W p l e (mg_rm 4) s m args below meth c H locs 0 0 Q (F0 m 4 ls []) := by
    intro d
    induction d using Nat.strongRecOn with
    | _ d ih_loop =>
      intro r ws H locs ls hd hsy hr hfm hl hP hD hS
      have f1 := (hfm (1) (by omega)).trans z1
      have fo := (hfm (10 + 3 * i) (by omega)).trans zo
      have fm := (hfm (11 + 3 * i) (by omega)).trans zm
      have fg := (hfm (12 + 3 * i) (by omega)).trans zg
      refine lv_iload_n (pc := 4) C0.1 C0.2.1 d_SU_leastOfCoset_4 rfl (lv_at hl 3 rfl) ?_
      refine lv_aload_n (pc := 5) C0.1 C0.2.1 d_SU_leastOfCoset_5 rfl (lv_at hl 0 rfl) ?_
      refine mg_get (pc := 6) C0 in_SU hK hP (10 + 3 * i) fo rfl 1 (by decide) fl_SU_7 rfl d_SU_leastOfCoset_6 ?_
      refine mg_get (pc := 9) C0 in_SY hK hP (1) f1 rfl 1 (by decide) fl_SU_17 rfl d_SU_leastOfCoset_9 ?_
      refine mb_ge (pc := 12) (tgt := 43) C0 (by omega) (by omega) d_SU_leastOfCoset_12 (by decide) (fun hc => ?_) (fun hc => ?_)
      · have hrr : r = pm_fc n := by omega
        rw [hrr] at hl
        refine lv_iload_n (pc := 43) C0.1 C0.2.1 d_SU_leastOfCoset_43 rfl (lv_at hl 2 rfl) ?_
        exact hret _ _ _ _ 44 _ (rfl) (⟨rfl, hfm, hsy⟩) hP hD hS d_SU_leastOfCoset_44
      · have hrN := hc
        refine lv_aload_n (pc := 15) C0.1 C0.2.1 d_SU_leastOfCoset_15 rfl (lv_at hl 0 rfl) ?_
        refine lv_iload_n (pc := 16) C0.1 C0.2.1 d_SU_leastOfCoset_16 rfl (lv_at hl 3 rfl) ?_
        refine mg_ci (pc := 17) (As := [.int (nI (r))]) (rest := []) C0 (c_SU_has l D ca ad h2 h6 hrN ws fo fm) lk_SU_47 (by decide) fo rfl hK hP hD hS hA rfl hl.1 rfl (Nat.le_of_ble_eq_true rfl) d_SU_leastOfCoset_17 (fun rv ws1 H locs hpost hP hD hS => ?_)
        obtain ⟨hr1, hw⟩ := hpost
        rw [hw] at hP hD
        rw [su_wd_lt hwI hrN] at hr1
        cases hs : S r with
        | true =>
            rw [hs, if_pos rfl] at hr1
            refine mg_top (show rv = nI (1) from hr1) ?_
            refine mz_eq (pc := 20) (tgt := 37) C0 (by decide) d_SU_leastOfCoset_20 (by decide) (fun h9 => absurd h9 (by decide)) (fun _ => ?_)
            have hmu := gp_m g0 ha hrN
            have hlf := su_lf_le n S a r
            refine lv_iload_n (pc := 23) C0.1 C0.2.1 d_SU_leastOfCoset_23 rfl (lv_at hl 2 rfl) ?_
            refine lv_aload_n (pc := 24) C0.1 C0.2.1 d_SU_leastOfCoset_24 rfl (lv_at hl 0 rfl) ?_
            refine mg_get (pc := 25) C0 in_SU hK hP (10 + 3 * i) fo rfl 1 (by decide) fl_SU_7 rfl d_SU_leastOfCoset_25 ?_
            refine lv_iload_n (pc := 28) C0.1 C0.2.1 d_SU_leastOfCoset_28 rfl (lv_at hl 1 rfl) ?_
            refine lv_iload_n (pc := 29) C0.1 C0.2.1 d_SU_leastOfCoset_29 rfl (lv_at hl 3 rfl) ?_
            refine mg_ci (pc := 30) (As := [.int (nI (a)), .int (nI (r))]) (rest := [.int (nI (su_lf n S a r))]) C0 (c_SY_multiply l D ca ad h2 h6 ha hrN ws hsy) lk_SU_76 (by decide) f1 rfl hK hP hD hS hA rfl hl.1 rfl (Nat.le_of_ble_eq_true rfl) d_SU_leastOfCoset_30 (fun rv ws H locs hpost hP hD hS => ?_)
            obtain ⟨hr1, hfr, hsy⟩ := hpost
            have f1 := (hfr (1) (by omega)).trans f1
            have fo := (hfr (10 + 3 * i) (by omega)).trans fo
            have fm := (hfr (11 + 3 * i) (by omega)).trans fm
            have fg := (hfr (12 + 3 * i) (by omega)).trans fg
            have hfm : ∀ j, j ≠ 3 → ws[j]? = ws0[j]? := fun j hj => (hfr j (by omega)).trans (hfm j hj)
            refine mg_top (show rv = nI (pm_mu n a r) from hr1) ?_
            refine mg_min (pc := 33) C0 hl.1 mm_SU_79 (by omega) (by omega) (by decide) (Nat.le_of_ble_eq_true rfl) d_SU_leastOfCoset_33 ?_
            refine mg_top (show nI (min (su_lf n S a r) (pm_mu n a r)) = nI (su_lf n S a (r + 1)) from by show _ = nI (if S r = true then _ else _); rw [if_pos hs]) ?_
            refine lv_istore_n (pc := 36) (lv' := [(2, .int (nI (su_lf n S a (r + 1)))), (0, .ref (ad (10 + 3 * i))), (1, .int (nI (a))), (3, .int (nI (r)))]) C0.1 C0.2.1 d_SU_leastOfCoset_36 rfl hl (by decide) rfl (fun ls hl => ?_)
            refine lv_iinc (pc := 37) (k := 3) (v := nI (r + 1)) (lv' := [(3, .int (nI (r + 1))), (2, .int (nI (su_lf n S a (r + 1)))), (0, .ref (ad (10 + 3 * i))), (1, .int (nI (a)))]) C0.1 C0.2.1 d_SU_leastOfCoset_37 hl rfl (nb_p1 _) (by decide) rfl (fun ls hl => ?_)
            refine lv_goto (pc := 40) (tgt := 4) C0.1 C0.2.1 d_SU_leastOfCoset_40 (by decide) ?_
            exact ih_loop _ (by omega) (r + 1) _ _ _ _ rfl hsy (by omega) hfm (lv_sub hl [2, 3, 1, 0] rfl) hP hD hS
        | false =>
            rw [hs, if_neg (by decide)] at hr1
            refine mg_top (show rv = nI (0) from hr1) ?_
            refine mz_eq (pc := 20) (tgt := 37) C0 (by decide) d_SU_leastOfCoset_20 (by decide) (fun _ => ?_) (fun h9 => absurd rfl h9)
            refine lv_iinc (pc := 37) (k := 3) (v := nI (r + 1)) (lv' := [(3, .int (nI (r + 1))), (0, .ref (ad (10 + 3 * i))), (1, .int (nI (a))), (2, .int (nI (su_lf n S a r)))]) C0.1 C0.2.1 d_SU_leastOfCoset_37 hl rfl (nb_p1 _) (by decide) rfl (fun ls hl => ?_)
            refine lv_goto (pc := 40) (tgt := 4) C0.1 C0.2.1 d_SU_leastOfCoset_40 (by decide) ?_
            have e1 : su_lf n S a (r + 1) = su_lf n S a r := by show (if S r = true then _ else _) = _; rw [hs, if_neg (by decide)]
            rw [← e1] at hl
            exact ih_loop _ (by omega) (r + 1) _ _ _ _ rfl hsy (by omega) hfm (lv_sub hl [1, 2, 3, 0] rfl) hP hD hS
  exact loop _ 0 _ _ _ _ rfl hsy (by omega) hfm (lv_sub hl [2, 3, 1, 0] rfl) hP hD hS
set_option maxHeartbeats 4000000 in
set_option maxRecDepth 100000 in
theorem c_SU_pointsReachedFrom (l : Launch) (D : va_G) (ca : Nat → ClassId) (ad : Nat → Nat) {n : Nat} (h2 : 2 ≤ n) (h6 : n ≤ 6) {i k : Nat} {S : Nat → Bool} {G : Nat → Nat} {x0 : Nat} (hx0 : x0 < n) (ws0 : va_W) (hsy : sy_ok ca ad n ws0) (hsu : su_ok ca ad n i ws0 S G k) : mg_I l y_SU_pointsReachedFrom b_SU_pointsReachedFrom 4 (.int) 2 D classes (tys_ ca) [.ref (ad (10 + 3 * i)), .int (nI (x0))] ws0 (fun v w => v = nI (su_ob n S x0 (pm_fc n)) ∧ w = ws0) := by
  have z1 := hsy.1
  have hN := pm_fc_le h6
  have g0 := pm_gp h2 h6
  have hsu0 := hsu
  obtain ⟨f, g, ⟨zo, zm, zg⟩, hwI, hgI, hgenI, h2I⟩ := hsu
  have hk9 := su_k9 h6 h2I (ma_cn_le _ (pm_fc n))
  have hcI := ma_cn_le S (pm_fc n)
  refine mg_openI (own := R_SU) rfl (by decide) (Nat.le_of_ble_eq_true rfl) ?_
  intro p e s m args below meth c A Q ls C0 hK hA hP hD hS hl hret
  have hl : lv_has ls 4 [(0, .ref (ad (10 + 3 * i))), (1, .int (nI (x0)))] := hl
  have f1 := z1
  have fo := zo
  have fm := zm
  have fg := zg
  refine lv_iconst (pc := 0) (v := nI (0)) C0.1 C0.2.1 d_SU_pointsReachedFrom_0 (by decide +kernel) ?_
  refine lv_istore_n (pc := 1) (lv' := [(2, .int (nI (0))), (0, .ref (ad (10 + 3 * i))), (1, .int (nI (x0)))]) C0.1 C0.2.1 d_SU_pointsReachedFrom_1 rfl hl (by decide) rfl (fun ls hl => ?_)
  refine lv_iconst (pc := 2) (v := nI (0)) C0.1 C0.2.1 d_SU_pointsReachedFrom_2 (by decide +kernel) ?_
  refine lv_istore_n (pc := 3) (lv' := [(3, .int (nI (0))), (2, .int (nI (0))), (0, .ref (ad (10 + 3 * i))), (1, .int (nI (x0)))]) C0.1 C0.2.1 d_SU_pointsReachedFrom_3 rfl hl (by decide) rfl (fun ls hl => ?_)
  have loop : ∀ (d : Nat) (r : Nat) (H : Heap) (locs : List Loc) (ls : Array Slot), pm_fc n - r = d → (r ≤ pm_fc n) → lv_has ls 4 [(0, .ref (ad (10 + 3 * i))), (1, .int (nI (x0))), (2, .int (nI (su_ob n S x0 r))), (3, .int (nI (r)))] → va_P D classes ws0 H → va_D A ws0 → va_S A s.heap H locs → W p l e (mg_rm 2) s m args below meth c H locs 0 0 Q (F0 m 4 ls []) := by
    intro d
    induction d using Nat.strongRecOn with
    | _ d ih_loop =>
      intro r H locs ls hd hr hl hP hD hS
      refine lv_iload_n (pc := 4) C0.1 C0.2.1 d_SU_pointsReachedFrom_4 rfl (lv_at hl 3 rfl) ?_
      refine lv_aload_n (pc := 5) C0.1 C0.2.1 d_SU_pointsReachedFrom_5 rfl (lv_at hl 0 rfl) ?_
      refine mg_get (pc := 6) C0 in_SU hK hP (10 + 3 * i) fo rfl 1 (by decide) fl_SU_7 rfl d_SU_pointsReachedFrom_6 ?_
      refine mg_get (pc := 9) C0 in_SY hK hP (1) f1 rfl 1 (by decide) fl_SU_17 rfl d_SU_pointsReachedFrom_9 ?_
      refine mb_ge (pc := 12) (tgt := 43) C0 (by omega) (by omega) d_SU_pointsReachedFrom_12 (by decide) (fun hc => ?_) (fun hc => ?_)
      · have hrr : r = pm_fc n := by omega
        rw [hrr] at hl
        refine lv_iload_n (pc := 43) C0.1 C0.2.1 d_SU_pointsReachedFrom_43 rfl (lv_at hl 2 rfl) ?_
        exact hret _ _ _ _ 44 _ (rfl) (⟨rfl, rfl⟩) hP hD hS d_SU_pointsReachedFrom_44
      · have hrN := hc
        refine lv_aload_n (pc := 15) C0.1 C0.2.1 d_SU_pointsReachedFrom_15 rfl (lv_at hl 0 rfl) ?_
        refine lv_iload_n (pc := 16) C0.1 C0.2.1 d_SU_pointsReachedFrom_16 rfl (lv_at hl 3 rfl) ?_
        refine mg_ci (pc := 17) (As := [.int (nI (r))]) (rest := []) C0 (c_SU_has l D ca ad h2 h6 hrN ws0 fo fm) lk_SU_47 (by decide) fo rfl hK hP hD hS hA rfl hl.1 rfl (Nat.le_of_ble_eq_true rfl) d_SU_pointsReachedFrom_17 (fun rv ws1 H locs hpost hP hD hS => ?_)
        obtain ⟨hr1, hw⟩ := hpost
        rw [hw] at hP hD
        rw [su_wd_lt hwI hrN] at hr1
        cases hs : S r with
        | true =>
            rw [hs, if_pos rfl] at hr1
            refine mg_top (show rv = nI (1) from hr1) ?_
            refine mz_eq (pc := 20) (tgt := 37) C0 (by decide) d_SU_pointsReachedFrom_20 (by decide) (fun h9 => absurd h9 (by decide)) (fun _ => ?_)
            have hlt := pm_lt h2 h6 hrN hx0
            refine lv_iload_n (pc := 23) C0.1 C0.2.1 d_SU_pointsReachedFrom_23 rfl (lv_at hl 2 rfl) ?_
            refine lv_iconst (pc := 24) (v := nI (1)) C0.1 C0.2.1 d_SU_pointsReachedFrom_24 (by decide +kernel) ?_
            refine lv_aload_n (pc := 25) C0.1 C0.2.1 d_SU_pointsReachedFrom_25 rfl (lv_at hl 0 rfl) ?_
            refine mg_get (pc := 26) C0 in_SU hK hP (10 + 3 * i) fo rfl 1 (by decide) fl_SU_7 rfl d_SU_pointsReachedFrom_26 ?_
            refine lv_iload_n (pc := 29) C0.1 C0.2.1 d_SU_pointsReachedFrom_29 rfl (lv_at hl 3 rfl) ?_
            refine lv_iload_n (pc := 30) C0.1 C0.2.1 d_SU_pointsReachedFrom_30 rfl (lv_at hl 1 rfl) ?_
            refine mg_ci (pc := 31) (As := [.int (nI (r)), .int (nI (x0))]) (rest := [.int (nI (1)), .int (nI (su_ob n S x0 r))]) C0 (c_SY_image l D ca ad h2 h6 hrN hx0 ws0 hsy) lk_SU_84 (by decide) f1 rfl hK hP hD hS hA rfl hl.1 rfl (Nat.le_of_ble_eq_true rfl) d_SU_pointsReachedFrom_31 (fun rv ws1 H locs hpost hP hD hS => ?_)
            obtain ⟨hr1, hw⟩ := hpost
            rw [hw] at hP hD
            refine mg_top (show rv = nI (pm_im n r x0) from hr1) ?_
            refine mn_shl1 (pc := 34) C0 (by omega) d_SU_pointsReachedFrom_34 ?_
            refine mn_or (pc := 35) C0 d_SU_pointsReachedFrom_35 ?_
            refine mg_top (show nI ((su_ob n S x0 r) ||| (2 ^ (pm_im n r x0))) = nI (su_ob n S x0 (r + 1)) from by show _ = nI (if S r = true then _ else _); rw [if_pos hs]) ?_
            refine lv_istore_n (pc := 36) (lv' := [(2, .int (nI (su_ob n S x0 (r + 1)))), (0, .ref (ad (10 + 3 * i))), (1, .int (nI (x0))), (3, .int (nI (r)))]) C0.1 C0.2.1 d_SU_pointsReachedFrom_36 rfl hl (by decide) rfl (fun ls hl => ?_)
            refine lv_iinc (pc := 37) (k := 3) (v := nI (r + 1)) (lv' := [(3, .int (nI (r + 1))), (2, .int (nI (su_ob n S x0 (r + 1)))), (0, .ref (ad (10 + 3 * i))), (1, .int (nI (x0)))]) C0.1 C0.2.1 d_SU_pointsReachedFrom_37 hl rfl (nb_p1 _) (by decide) rfl (fun ls hl => ?_)
            refine lv_goto (pc := 40) (tgt := 4) C0.1 C0.2.1 d_SU_pointsReachedFrom_40 (by decide) ?_
            exact ih_loop _ (by omega) (r + 1) _ _ _ rfl (by omega) (lv_sub hl [2, 3, 1, 0] rfl) hP hD hS
        | false =>
            rw [hs, if_neg (by decide)] at hr1
            refine mg_top (show rv = nI (0) from hr1) ?_
            refine mz_eq (pc := 20) (tgt := 37) C0 (by decide) d_SU_pointsReachedFrom_20 (by decide) (fun _ => ?_) (fun h9 => absurd rfl h9)
            refine lv_iinc (pc := 37) (k := 3) (v := nI (r + 1)) (lv' := [(3, .int (nI (r + 1))), (0, .ref (ad (10 + 3 * i))), (1, .int (nI (x0))), (2, .int (nI (su_ob n S x0 r)))]) C0.1 C0.2.1 d_SU_pointsReachedFrom_37 hl rfl (nb_p1 _) (by decide) rfl (fun ls hl => ?_)
            refine lv_goto (pc := 40) (tgt := 4) C0.1 C0.2.1 d_SU_pointsReachedFrom_40 (by decide) ?_
            have e1 : su_ob n S x0 (r + 1) = su_ob n S x0 r := by show (if S r = true then _ else _) = _; rw [hs, if_neg (by decide)]
            rw [← e1] at hl
            exact ih_loop _ (by omega) (r + 1) _ _ _ rfl (by omega) (lv_sub hl [1, 2, 3, 0] rfl) hP hD hS
  exact loop _ 0 _ _ _ rfl (by omega) (lv_sub hl [2, 3, 1, 0] rfl) hP hD hS
set_option maxHeartbeats 4000000 in
set_option maxRecDepth 100000 in
theorem c_SU_liesIn (l : Launch) (D : va_G) (ca : Nat → ClassId) (ad : Nat → Nat) {n : Nat} (h2 : 2 ≤ n) (h6 : n ≤ 6) {i o k kG : Nat} {S SG : Nat → Bool} {G GG : Nat → Nat} (ws0 : va_W) (hsu : su_ok ca ad n i ws0 S G k) (hso : su_ok ca ad n o ws0 SG GG kG) : mg_I l y_SU_liesIn b_SU_liesIn 3 (.boolean) 1 D classes (tys_ ca) [.ref (ad (10 + 3 * i)), .ref (ad (10 + 3 * o))] ws0 (fun v w => ((v = nI 1 ∧ ∀ x, S x = true → SG x = true) ∨ (v = nI 0 ∧ ∃ x, S x = true ∧ SG x = false)) ∧ w = ws0) := by
  have hN := pm_fc_le h6
  have hsu0 := hsu
  obtain ⟨f, g, ⟨zo, zm, zg⟩, hwI, hgI, hgenI, h2I⟩ := hsu
  have hk9 := su_k9 h6 h2I (ma_cn_le _ (pm_fc n))
  have hcI := ma_cn_le S (pm_fc n)
  obtain ⟨fo2, go2, ⟨zp, zq, zr⟩, hwO, hgO, hgenO, h2O⟩ := hso
  refine mg_openI (own := R_SU) rfl (by decide) (Nat.le_of_ble_eq_true rfl) ?_
  intro p e s m args below meth c A Q ls C0 hK hA hP hD hS hl hret
  have hl : lv_has ls 3 [(0, .ref (ad (10 + 3 * i))), (1, .ref (ad (10 + 3 * o)))] := hl
  have fo := zo
  have fm := zm
  have fg := zg
  have fp := zp
  have fq := zq
  have fr := zr
  refine lv_iconst (pc := 0) (v := nI (0)) C0.1 C0.2.1 d_SU_liesIn_0 (by decide +kernel) ?_
  refine lv_istore_n (pc := 1) (lv' := [(2, .int (nI (0))), (0, .ref (ad (10 + 3 * i))), (1, .ref (ad (10 + 3 * o)))]) C0.1 C0.2.1 d_SU_liesIn_1 rfl hl (by decide) rfl (fun ls hl => ?_)
  have loop : ∀ (d : Nat) (a : Nat) (H : Heap) (locs : List Loc) (ls : Array Slot), (pm_fc n + 63) / 64 - a = d → (a ≤ (pm_fc n + 63) / 64) → (∀ x, x < 64 * a → S x = true → SG x = true) → lv_has ls 3 [(0, .ref (ad (10 + 3 * i))), (1, .ref (ad (10 + 3 * o))), (2, .int (nI (a)))] → va_P D classes ws0 H → va_D A ws0 → va_S A s.heap H locs → W p l e (mg_rm 1) s m args below meth c H locs 0 0 Q (F0 m 2 ls []) := by
    intro d
    induction d using Nat.strongRecOn with
    | _ d ih_loop =>
      intro a H locs ls hd ha hpr hl hP hD hS
      refine lv_iload_n (pc := 2) C0.1 C0.2.1 d_SU_liesIn_2 rfl (lv_at hl 2 rfl) ?_
      refine lv_aload_n (pc := 3) C0.1 C0.2.1 d_SU_liesIn_3 rfl (lv_at hl 0 rfl) ?_
      refine mg_get (pc := 4) C0 in_SU hK hP (10 + 3 * i) fo rfl 2 (by decide) fl_SU_23 rfl d_SU_liesIn_4 ?_
      refine va_alen (pc := 7) C0.1 C0.2.1 hK hP (11 + 3 * i) 2 fm rfl (v := nI ((pm_fc n + 63) / 64)) rfl d_SU_liesIn_7 ?_
      refine mb_ge (pc := 8) (tgt := 41) C0 (by omega) (by omega) d_SU_liesIn_8 (by decide) (fun hc => ?_) (fun hc => ?_)
      · refine lv_iconst (pc := 41) (v := nI (1)) C0.1 C0.2.1 d_SU_liesIn_41 (by decide +kernel) ?_
        exact hret _ _ _ _ 42 _ (rfl) (⟨Or.inl ⟨rfl, fun x hx => hpr x (by have := hgenI.1.2.1 x hx; omega) hx⟩, rfl⟩) hP hD hS d_SU_liesIn_42
      · have haW := hc
        refine lv_aload_n (pc := 11) C0.1 C0.2.1 d_SU_liesIn_11 rfl (lv_at hl 0 rfl) ?_
        refine mg_get (pc := 12) C0 in_SU hK hP (10 + 3 * i) fo rfl 2 (by decide) fl_SU_23 rfl d_SU_liesIn_12 ?_
        refine lv_iload_n (pc := 15) C0.1 C0.2.1 d_SU_liesIn_15 rfl (lv_at hl 2 rfl) ?_
        refine mg_lld (pc := 16) C0 hK hP (11 + 3 * i) 2 fm rfl (j := a) (by omega) (by omega) d_SU_liesIn_16 ?_
        refine lv_aload_n (pc := 17) C0.1 C0.2.1 d_SU_liesIn_17 rfl (lv_at hl 1 rfl) ?_
        refine mg_get (pc := 18) C0 in_SU hK hP (10 + 3 * o) fp rfl 2 (by decide) fl_SU_23 rfl d_SU_liesIn_18 ?_
        refine lv_iload_n (pc := 21) C0.1 C0.2.1 d_SU_liesIn_21 rfl (lv_at hl 2 rfl) ?_
        refine mg_lld (pc := 22) C0 hK hP (11 + 3 * o) 2 fq rfl (j := a) (by omega) (by omega) d_SU_liesIn_22 ?_
        refine lv_ldc2 (pc := 23) (v := (-1)) C0.1 C0.2.1 C0.2.2.2.1 (C0.2.2.2.2 _ (List.mem_cons_of_mem _ cn_SU_87)) d_SU_liesIn_23 ?_
        refine lv_lxor (pc := 26) C0.1 C0.2.1 d_SU_liesIn_26 ?_
        refine lv_land (pc := 27) C0.1 C0.2.1 d_SU_liesIn_27 ?_
        refine lv_lconst (pc := 28) (v := 0) C0.1 C0.2.1 d_SU_liesIn_28 (by decide +kernel) ?_
        refine W.lcmp (pc := 29) C0.1 C0.2.1 d_SU_liesIn_29 ?_
        refine lv_if_eq (pc := 30) (tgt := 35) C0.1 C0.2.1 d_SU_liesIn_30 (by decide) (fun hc => ?_) (fun hc => ?_)
        · have hb := bw_sub.mp ((nb_cmp0 _).mp hc)
          refine lv_iinc (pc := 35) (k := 2) (v := nI (a + 1)) (lv' := [(2, .int (nI (a + 1))), (0, .ref (ad (10 + 3 * i))), (1, .ref (ad (10 + 3 * o)))]) C0.1 C0.2.1 d_SU_liesIn_35 hl rfl (nb_p1 _) (by decide) rfl (fun ls hl => ?_)
          refine lv_goto (pc := 38) (tgt := 2) C0.1 C0.2.1 d_SU_liesIn_38 (by decide) ?_
          exact ih_loop _ (by omega) (a + 1) _ _ _ rfl (by omega) (fun x hx h => by
            by_cases e : x < 64 * a
            · exact hpr x e h
            · have e2 : x / 64 = a := by omega
              rw [← hwI x (by omega)] at h
              rw [← hwO x (by omega)]
              unfold bw_t at h ⊢
              rw [e2] at h ⊢
              exact hb (x % 64) (by omega) h) (lv_sub hl [1, 2, 0] rfl) hP hD hS
        · have hb : ∃ j, j < 64 ∧ (f a).toBitVec.getLsbD j = true ∧ (fo2 a).toBitVec.getLsbD j = false := by
            apply Classical.byContradiction
            intro hn
            apply hc
            refine (nb_cmp0 _).mpr (bw_sub.mpr (fun j hj h => ?_))
            cases h3 : (fo2 a).toBitVec.getLsbD j with
            | true => rfl
            | false => exact absurd ⟨j, hj, h, h3⟩ hn
          obtain ⟨j, hj, h3, h4⟩ := hb
          have e2 : (64 * a + j) / 64 = a := by omega
          have e3 : (64 * a + j) % 64 = j := by omega
          refine lv_iconst (pc := 33) (v := nI (0)) C0.1 C0.2.1 d_SU_liesIn_33 (by decide +kernel) ?_
          exact hret _ _ _ _ 34 _ (rfl) (⟨Or.inr ⟨rfl, 64 * a + j, by
              rw [← hwI _ (by omega)]
              unfold bw_t
              rw [e2, e3]; exact h3, by
              rw [← hwO _ (by omega)]
              unfold bw_t
              rw [e2, e3]; exact h4⟩, rfl⟩) hP hD hS d_SU_liesIn_34
  exact loop _ 0 _ _ _ rfl (by omega) (fun x hx => absurd hx (by omega)) (lv_sub hl [1, 2, 0] rfl) hP hD hS
