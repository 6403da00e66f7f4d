/-! The loop of the law -/
theorem nb_p3 (k : Nat) : nI k + Int32.ofInt 3 = nI (k + 3) := by
  have e : Int32.ofInt 3 = nI 3 := by decide
  rw [e, nI_add]
section LWA
variable {p : Program} {l : Launch} {e : Env} {s : State} {m : MethodId} {below : List Frame} {meth : Method} {c : Code} {Q : State → Prop}
variable {b L : Nat} {xs : Nat → Int32} {D : va_G} {ca : Nat → ClassId} {ad : Nat → Nat} {n : Nat} {cd : Cond}
set_option maxHeartbeats 4000000 in
set_option maxRecDepth 100000 in
theorem lw_loop (C0 : CallFix p m c code 4 s #[Value.ref b] (cd :: gw_) R_LW) (hX : va_X b L xs s s.heap) (hbl : b < s.heap.size) (hL : L ≤ 1537) (h2 : 2 ≤ n) (h6 : n ≤ 6) (hK : va_K D classes (tys_ ca) s) (hret : ∀ (H : Heap) (locs : List Loc) (ls : Array Slot), va_S (lw_A s) s.heap H locs → W p l e room_1 s m #[Value.ref b] below meth c H locs 600000 7302250 Q (F0 m 655 ls [])) : ∀ (d i : Nat) (σ : sp_S) (ws : va_W) (H : Heap) (locs : List Loc) (ls : Array Slot), L + 3 - i = d → i ≤ L + 3 → MGW ca ad n σ ws → MOW ca ad n σ ws → va_P D classes ws H → va_D (lw_A s) ws → va_S (lw_A s) s.heap H locs → lv_has ls 4 [(3, .int (nI (i))), (2, .ref (ad 52)), (1, .ref (ad 0)), (0, .ref (b))] → W p l e room_1 s m #[Value.ref b] below meth c H locs 600000 7302250 Q (F0 m 28 ls []) := by
  intro d
  induction d using Nat.strongRecOn with
  | _ d ih =>
    intro i σ ws H locs ls hd hi0 hg ho hP hD hS hl
    refine lv_iload_n (pc := 28) C0.1 C0.2.1 d_LW_law_28 rfl (lv_at hl 0 rfl) ?_
    refine lv_aload_n (pc := 29) C0.1 C0.2.1 d_LW_law_29 rfl (lv_at hl 3 rfl) ?_
    refine lw_slen (pc := 30) C0 hX hbl hS d_LW_law_30 ?_
    refine lv_iconst (pc := 31) (v := nI (3)) C0.1 C0.2.1 d_LW_law_31 (by decide +kernel) ?_
    refine lv_isub (pc := 32) C0.1 C0.2.1 d_LW_law_32 ?_
    refine lv_icmp_gt (pc := 33) (tgt := 655) C0.1 C0.2.1 d_LW_law_33 (by decide) (fun _ => hret _ _ _ hS) (fun hc => ?_)
    have hi := lw_more (by omega) (by omega) hc
    have hnext : ∀ (σ : sp_S) (ws : va_W) (H : Heap) (locs : List Loc), MGW ca ad n σ ws → MOW ca ad n σ ws → va_P D classes ws H → va_D (lw_A s) ws → va_S (lw_A s) s.heap H locs → W p l e room_1 s m #[Value.ref b] below meth c H locs 600000 7302250 Q (F0 m 649 ls []) := by
      intro σ ws H locs hg ho hP hD hS
      refine lv_iinc (pc := 649) (k := 0) (v := nI (i + 3)) (lv' := [(3, .int (nI (i + 3))), (2, .ref (ad 52)), (1, .ref (ad 0)), (0, .ref (b))]) C0.1 C0.2.1 d_LW_law_649 hl rfl (nb_p3 _) (by decide) rfl (fun ls hl => ?_)
      refine lv_goto (pc := 652) (tgt := 28) C0.1 C0.2.1 d_LW_law_652 (by decide) ?_
      exact ih _ (by omega) _ _ _ _ _ _ rfl (by omega) hg ho hP hD hS hl
    refine lv_aload_n (pc := 36) C0.1 C0.2.1 d_LW_law_36 rfl (lv_at hl 3 rfl) ?_
    refine lv_iload_n (pc := 37) C0.1 C0.2.1 d_LW_law_37 rfl (lv_at hl 0 rfl) ?_
    refine lw_sld (pc := 38) C0 hX hbl hS (j := i) (by omega) (by omega) d_LW_law_38 ?_
    refine lv_bipush (pc := 39) (v := nI (31)) C0.1 C0.2.1 d_LW_law_39 (by decide +kernel) ?_
    refine lv_iand (pc := 41) C0.1 C0.2.1 d_LW_law_41 ?_
    generalize (xs (i)) &&& (nI (31)) = x
    by_cases e0 : x = nI 0
    · subst e0
      refine lv_tableIn (pc := 42) (tgt := 132) (x := nI 0) C0.1 C0.2.1 d_LW_law_42 (by decide) (by decide) rfl (by decide) ?_
      exact lw_arm0 C0 hX hbl hL h2 h6 hK hi hg ho hP hD hS hl hnext
    by_cases e1 : x = nI 1
    · subst e1
      refine lv_tableIn (pc := 42) (tgt := 165) (x := nI 1) C0.1 C0.2.1 d_LW_law_42 (by decide) (by decide) rfl (by decide) ?_
      exact lw_arm1 C0 hX hbl hL h2 h6 hK hi hg ho hP hD hS hl hnext
    by_cases e2 : x = nI 2
    · subst e2
      refine lv_tableIn (pc := 42) (tgt := 178) (x := nI 2) C0.1 C0.2.1 d_LW_law_42 (by decide) (by decide) rfl (by decide) ?_
      exact lw_arm2 C0 hX hbl hL h2 h6 hK hi hg ho hP hD hS hl hnext
    by_cases e3 : x = nI 3
    · subst e3
      refine lv_tableIn (pc := 42) (tgt := 211) (x := nI 3) C0.1 C0.2.1 d_LW_law_42 (by decide) (by decide) rfl (by decide) ?_
      exact lw_arm3 C0 hX hbl hL h2 h6 hK hi hg ho hP hD hS hl hnext
    by_cases e4 : x = nI 4
    · subst e4
      refine lv_tableIn (pc := 42) (tgt := 234) (x := nI 4) C0.1 C0.2.1 d_LW_law_42 (by decide) (by decide) rfl (by decide) ?_
      exact lw_arm4 C0 hX hbl hL h2 h6 hK hi hg ho hP hD hS hl hnext
    by_cases e5 : x = nI 5
    · subst e5
      refine lv_tableIn (pc := 42) (tgt := 257) (x := nI 5) C0.1 C0.2.1 d_LW_law_42 (by decide) (by decide) rfl (by decide) ?_
      exact lw_arm5 C0 hX hbl hL h2 h6 hK hi hg ho hP hD hS hl hnext
    by_cases e6 : x = nI 6
    · subst e6
      refine lv_tableIn (pc := 42) (tgt := 270) (x := nI 6) C0.1 C0.2.1 d_LW_law_42 (by decide) (by decide) rfl (by decide) ?_
      exact lw_arm6 C0 hX hbl hL h2 h6 hK hi hg ho hP hD hS hl hnext
    by_cases e7 : x = nI 7
    · subst e7
      refine lv_tableIn (pc := 42) (tgt := 303) (x := nI 7) C0.1 C0.2.1 d_LW_law_42 (by decide) (by decide) rfl (by decide) ?_
      exact lw_arm7 C0 hX hbl hL h2 h6 hK hi hg ho hP hD hS hl hnext
    by_cases e8 : x = nI 8
    · subst e8
      refine lv_tableIn (pc := 42) (tgt := 326) (x := nI 8) C0.1 C0.2.1 d_LW_law_42 (by decide) (by decide) rfl (by decide) ?_
      exact lw_arm8 C0 hX hbl hL h2 h6 hK hi hg ho hP hD hS hl hnext
    by_cases e9 : x = nI 9
    · subst e9
      refine lv_tableIn (pc := 42) (tgt := 359) (x := nI 9) C0.1 C0.2.1 d_LW_law_42 (by decide) (by decide) rfl (by decide) ?_
      exact lw_arm9 C0 hX hbl hL h2 h6 hK hi hg ho hP hD hS hl hnext
    by_cases e10 : x = nI 10
    · subst e10
      refine lv_tableIn (pc := 42) (tgt := 392) (x := nI 10) C0.1 C0.2.1 d_LW_law_42 (by decide) (by decide) rfl (by decide) ?_
      exact lw_arm10 C0 hX hbl hL h2 h6 hK hi hg ho hP hD hS hl hnext
    by_cases e11 : x = nI 11
    · subst e11
      refine lv_tableIn (pc := 42) (tgt := 425) (x := nI 11) C0.1 C0.2.1 d_LW_law_42 (by decide) (by decide) rfl (by decide) ?_
      exact lw_arm11 C0 hX hbl hL h2 h6 hK hi hg ho hP hD hS hl hnext
    by_cases e12 : x = nI 12
    · subst e12
      refine lv_tableIn (pc := 42) (tgt := 458) (x := nI 12) C0.1 C0.2.1 d_LW_law_42 (by decide) (by decide) rfl (by decide) ?_
      exact lw_arm12 C0 hX hbl hL h2 h6 hK hi hg ho hP hD hS hl hnext
    by_cases e13 : x = nI 13
    · subst e13
      refine lv_tableIn (pc := 42) (tgt := 491) (x := nI 13) C0.1 C0.2.1 d_LW_law_42 (by decide) (by decide) rfl (by decide) ?_
      exact lw_arm13 C0 hX hbl hL h2 h6 hK hi hg ho hP hD hS hl hnext
    by_cases e14 : x = nI 14
    · subst e14
      refine lv_tableIn (pc := 42) (tgt := 524) (x := nI 14) C0.1 C0.2.1 d_LW_law_42 (by decide) (by decide) rfl (by decide) ?_
      exact lw_arm14 C0 hX hbl hL h2 h6 hK hi hg ho hP hD hS hl hnext
    by_cases e15 : x = nI 15
    · subst e15
      refine lv_tableIn (pc := 42) (tgt := 557) (x := nI 15) C0.1 C0.2.1 d_LW_law_42 (by decide) (by decide) rfl (by decide) ?_
      exact lw_arm15 C0 hX hbl hL h2 h6 hK hi hg ho hP hD hS hl hnext
    by_cases e16 : x = nI 16
    · subst e16
      refine lv_tableIn (pc := 42) (tgt := 590) (x := nI 16) C0.1 C0.2.1 d_LW_law_42 (by decide) (by decide) rfl (by decide) ?_
      exact lw_arm16 C0 hX hbl hL h2 h6 hK hi hg ho hP hD hS hl hnext
    by_cases e17 : x = nI 17
    · subst e17
      refine lv_tableIn (pc := 42) (tgt := 613) (x := nI 17) C0.1 C0.2.1 d_LW_law_42 (by decide) (by decide) rfl (by decide) ?_
      exact lw_arm17 C0 hX hbl hL h2 h6 hK hi hg ho hP hD hS hl hnext
    by_cases e18 : x = nI 18
    · subst e18
      refine lv_tableIn (pc := 42) (tgt := 636) (x := nI 18) C0.1 C0.2.1 d_LW_law_42 (by decide) (by decide) rfl (by decide) ?_
      exact lw_arm18 C0 hX hbl hL h2 h6 hK hi hg ho hP hD hS hl hnext
    refine lv_tableOut (pc := 42) (tgt := 649) C0.1 C0.2.1 d_LW_law_42 ?_ (by decide) (hnext _ _ _ _ hg ho hP hD hS)
    have e0 := lv_neT e0 (show (nI 0).toInt = 0 by decide)
    have e1 := lv_neT e1 (show (nI 1).toInt = 1 by decide)
    have e2 := lv_neT e2 (show (nI 2).toInt = 2 by decide)
    have e3 := lv_neT e3 (show (nI 3).toInt = 3 by decide)
    have e4 := lv_neT e4 (show (nI 4).toInt = 4 by decide)
    have e5 := lv_neT e5 (show (nI 5).toInt = 5 by decide)
    have e6 := lv_neT e6 (show (nI 6).toInt = 6 by decide)
    have e7 := lv_neT e7 (show (nI 7).toInt = 7 by decide)
    have e8 := lv_neT e8 (show (nI 8).toInt = 8 by decide)
    have e9 := lv_neT e9 (show (nI 9).toInt = 9 by decide)
    have e10 := lv_neT e10 (show (nI 10).toInt = 10 by decide)
    have e11 := lv_neT e11 (show (nI 11).toInt = 11 by decide)
    have e12 := lv_neT e12 (show (nI 12).toInt = 12 by decide)
    have e13 := lv_neT e13 (show (nI 13).toInt = 13 by decide)
    have e14 := lv_neT e14 (show (nI 14).toInt = 14 by decide)
    have e15 := lv_neT e15 (show (nI 15).toInt = 15 by decide)
    have e16 := lv_neT e16 (show (nI 16).toInt = 16 by decide)
    have e17 := lv_neT e17 (show (nI 17).toInt = 17 by decide)
    have e18 := lv_neT e18 (show (nI 18).toInt = 18 by decide)
    omega
end LWA
