/-! Rows for the law: its script, its helper, what is known at its start -/
abbrev lw_A (s : State) : Nat → Prop := fun q => s.heap.size ≤ q
def lw_x (L : Nat) (xs : Nat → Int32) : Int32 := if 0 < L then xs 0 else nI 0
set_option maxHeartbeats 4000000 in
/-- the helper of the law: the first number of the script, or 0 -/
theorem c_LW_cell (l : Launch) {b L : Nat} {xs : Nat → Int32} (hL : L < 2 ^ 31) (sz : Nat) : Met l y_LW_cell (Cond.code y_LW_cell b_LW_cell 2 (some .int) :: gw_) (mg_rm 0) (va_Pc [.ref b, .int (nI 0)] (fun U => U.heap.size = sz ∧ b < sz ∧ va_X b L xs U U.heap)) (va_Qi (fun (r : Int32) (_ : Unit) => r = lw_x L xs) (fun _ _ => True) (fun q => sz ≤ q)) 0 0 (fun q => sz ≤ q) := by
  refine Met.ofW (cc := b_LW_cell) (maxL := 2) (ret := some .int) (by decide) rfl ?_
  intro p e s m args below meth c s₁ B hml hv
  obtain ⟨rfl, hsz, hbl, hX⟩ := hv
  have hx := B.exec
  have hb := B.bytes
  have hr := B.returns
  have hlk := B.notSynchronized
  subst hsz
  have hl := lv_entry [.ref b, .int (nI 0)] (n := 2) (Nat.le_of_ble_eq_true rfl)
  rw [lg_entry_eq]
  generalize (lg_sl [.ref b, .int (nI 0)] ++ List.replicate (2 - (lg_sl [.ref b, .int (nI 0)]).length) Slot.unset).toArray = ls at hl ⊢
  have hl : lv_has ls 2 [(0, .ref b), (1, .int (nI 0))] := hl
  have hS : va_S (lw_A s) s.heap s.heap [] := va_S.rf
  have hbA : ¬ lw_A s b := fun h => absurd hbl (Nat.not_lt.mpr h)
  refine lv_iload_n (pc := 0) hx hb d_LW_cell_0 rfl (lv_at hl 1 rfl) ?_
  refine lv_aload_n (pc := 1) hx hb d_LW_cell_1 rfl (lv_at hl 0 rfl) ?_
  refine va_slen (pc := 2) hx hb hX hbl hbA hS d_LW_cell_2 ?_
  refine lv_icmp_ge (pc := 3) (tgt := 12) hx hb d_LW_cell_3 (by decide) (fun hc => ?_) (fun hc => ?_)
  · refine lv_iconst (pc := 12) (v := nI 0) hx hb d_LW_cell_12 (by decide +kernel) ?_
    have h0 : ¬ 0 < L := fun h => absurd hc (nI_ge h hL)
    exact W.zret hx hb hr rfl (fun t ht hW => ⟨⟨nI 0, (), rfl, (if_neg h0).symm, trivial⟩, hS.F ht⟩) hS.2.2 d_LW_cell_13 hlk
  · have h0 : 0 < L := Nat.pos_of_ne_zero fun h => hc (by subst h; exact nI_le (Nat.le_refl 0) (by decide))
    refine lv_aload_n (pc := 6) hx hb d_LW_cell_6 rfl (lv_at hl 0 rfl) ?_
    refine lv_iload_n (pc := 7) hx hb d_LW_cell_7 rfl (lv_at hl 1 rfl) ?_
    refine va_sld (pc := 8) hx hb hX hbl hbA hS (vp_in_nI h0 hL) d_LW_cell_8 ?_
    rw [nI_clamp (by decide)]
    refine lv_goto (pc := 9) (tgt := 13) hx hb d_LW_cell_9 (by decide) ?_
    exact W.zret hx hb hr rfl (fun t ht hW => ⟨⟨xs 0, (), rfl, (if_pos h0).symm, trivial⟩, hS.F ht⟩) hS.2.2 d_LW_cell_13 hlk
section LWR
variable {p : Program} {l : Launch} {e : Env} {R : Room} {s : State} {m : MethodId} {args : Array Value} {below : List Frame} {meth : Method} {c : Code} {H : Heap} {locs : List Loc} {cells slots : Nat} {Q : State → Prop}
variable {cc : ByteArray} {pc nL : Nat} {ls : Array Slot} {rest : List Value} {D : va_G} {cl : List vw_C} {ws : va_W} {cd : Cond} {own : String} {b L : Nat} {xs : Nat → Int32}
theorem lw_sld (C0 : CallFix p m c cc nL s args (cd :: gw_) own) (hX : va_X b L xs s s.heap) (hbl : b < s.heap.size) (hS : va_S (lw_A s) s.heap H locs) {j : Nat} (hj : j < L) (hL : L < 2 ^ 31) (hdg : decode cc pc = .ok (.iaload, 1)) (kk : W p l e R s m args below meth c H locs cells slots Q (F0 m (pc + 1) ls (.int (xs j) :: rest))) : W p l e R s m args below meth c H locs cells slots Q (F0 m pc ls (.int (nI j) :: .ref b :: rest)) := by
  refine va_sld C0.1 C0.2.1 hX hbl (fun h => absurd hbl (Nat.not_lt.mpr h)) hS (vp_in_nI hj hL) hdg ?_
  rw [nI_clamp (by omega)]
  exact kk
theorem lw_slen (C0 : CallFix p m c cc nL s args (cd :: gw_) own) (hX : va_X b L xs s s.heap) (hbl : b < s.heap.size) (hS : va_S (lw_A s) s.heap H locs) (hdg : decode cc pc = .ok (.arraylength, 1)) (kk : W p l e R s m args below meth c H locs cells slots Q (F0 m (pc + 1) ls (.int (nI L) :: rest))) : W p l e R s m args below meth c H locs cells slots Q (F0 m pc ls (.ref b :: rest)) :=
  va_slen C0.1 C0.2.1 hX hbl (fun h => absurd hbl (Nat.not_lt.mpr h)) hS hdg kk
/-- the call of the helper -/
theorem lw_cell (C0 : CallFix p m c cc nL s args (cd :: gw_) R_LW) (hX : va_X b L xs s s.heap) (hbl : b < s.heap.size) (hL : L < 2 ^ 31) (hd : 0 + 1 ≤ R.frames ∧ 8 + (2 + 11) + 40 * 0 ≤ R.locals) (hf : cells ≤ R.cells ∧ slots ≤ R.slots) (hP : va_P D cl ws H) (hS : va_S (lw_A s) s.heap H locs) (hls : ls.size = nL) (hcat : (rest.map fun v => v.category).sum ≤ 8) (hdg : decode cc pc = .ok (.invokestatic 9, 3))
    (kk : ∀ (H1 : Heap) (locs1 : List Loc), va_P D cl ws H1 → va_S (lw_A s) s.heap H1 locs1 → W p l e R s m args below meth c H1 locs1 cells slots Q (F0 m (pc + 3) ls (.int (lw_x L xs) :: rest))) : W p l e R s m args below meth c H locs cells slots Q (F0 m pc ls (.int (nI 0) :: .ref b :: rest)) := by
  have hXH : va_X b L xs s H := hX.kept (hS.2.1 b hbl (fun h => absurd hbl (Nat.not_lt.mpr h)))
  refine va_calli (va_runS (As := [.ref b, .int (nI 0)]) (rest := rest) C0 (c_LW_cell l (xs := xs) hL H.size) (va_cwS 2 C0.2.2.2.2 (mg_gs lk_LW_9 cd) rfl rfl rfl lk_LW_9.2.2.2.2 hd) ⟨fun x U g mk q => by
    obtain ⟨q0, q1, qb, qX⟩ := q
    exact ⟨q0, q1, qb, va_X.moved (u := U) (U := U.calling g mk x) (Vm.Alike.refl U.vm) qX⟩, fun U hU hW => ⟨rfl, by rw [hU], Nat.lt_of_lt_of_le hbl hS.1, by rw [hU]; exact va_X.moved hW.alike hXH⟩⟩ rfl rfl hls rfl (lv_room hcat) hdg hf) hS (fun q h1 h2 => absurd h1 (Nat.not_lt.mpr h2)) (fun q h => Nat.le_trans hS.1 h) (fun r u t H1 locs1 ht hvm hp hB hz hk hS1 => ?_)
  subst hp
  exact kk H1 locs1 (hP.kept (fun k x hx => hk x.1 ((hP k x hx).lt) (Nat.not_le.mpr ((hP k x hx).lt)))) hS1
end LWR
theorem lw_arr {args : Array Value} {s : State} {ty : FieldType} (h : (Cond.arrayClass ty).before args s = true) (hne : ∀ C, ty ≠ .object C) : ∃ cA, ArrOfT s cA ty ∧ va_RA s cA ty := by
  obtain ⟨cA, kA, comp, h1, h2, h3⟩ := Cond.arrayClass_spec h
  refine ⟨cA, fun n z => ⟨fun k h => (by cases h), kA, h2, comp, h3⟩, ?_⟩
  cases ty with
  | object C => exact absurd rfl (hne C)
  | _ => exact h1
theorem lw_arrO {s : State} {C : String} (h : va_AO C s) : ∃ cA, ArrOfT s cA (.object C) ∧ va_RA s cA (.object C) := by
  obtain ⟨comp, cA, kA, h1, h2, h3, h4, h5⟩ := Cond.arrayOver_spec h
  exact ⟨cA, fun n z => ⟨fun k h => (by cases h), kA, h3, comp, h4⟩, kA, comp, h3, h4, h1, h5⟩
/-- what is known at the start: the classes, their fields, the arrays -/
theorem lw_known {args : Array Value} {s : State} (hw : ∀ w ∈ gw_, w.before args s = true) (hao : va_AO R_SU s) : ∃ (D : va_G) (ca : Nat → ClassId), va_K D classes (tys_ ca) s := by
  obtain ⟨c0, i0, k0⟩ := u_known hw in_MG (hw _ (gw_t1 10 rfl rfl : Cond.instantiable R_MG 8 ∈ gw_))
  obtain ⟨c1, i1, k1⟩ := u_known hw in_SY (hw _ (gw_t1 18 rfl rfl : Cond.instantiable R_SY 4 ∈ gw_))
  obtain ⟨c2, i2, k2⟩ := u_known hw in_SU (hw _ (gw_t1 87 rfl rfl : Cond.instantiable R_SU 6 ∈ gw_))
  obtain ⟨c3, i3, k3⟩ := u_known hw in_CT (hw _ (gw_t1 53 rfl rfl : Cond.instantiable R_CT 8 ∈ gw_))
  obtain ⟨c4, i4, k4⟩ := u_known hw in_MO (hw _ (gw_t2 136 rfl rfl : Cond.instantiable R_MO 12 ∈ gw_))
  obtain ⟨a0, x0, y0⟩ := lw_arr (hw _ (gw_t1 50 rfl rfl : Cond.arrayClass .byte ∈ gw_)) (fun _ h => by cases h)
  obtain ⟨a1, x1, y1⟩ := lw_arr (hw _ (gw_t1 51 rfl rfl : Cond.arrayClass .int ∈ gw_)) (fun _ h => by cases h)
  obtain ⟨a2, x2, y2⟩ := lw_arr (hw _ (gw_t1 120 rfl rfl : Cond.arrayClass .long ∈ gw_)) (fun _ h => by cases h)
  obtain ⟨a3, x3, y3⟩ := lw_arr (hw _ (gw_t1 84 rfl rfl : Cond.arrayClass .char ∈ gw_)) (fun _ h => by cases h)
  obtain ⟨a4, x4, y4⟩ := lw_arrO hao
  refine ⟨((fun k => match k with | 0 => c0 | 1 => c1 | 2 => c2 | 3 => c3 | _ => c4), (fun k => match k with | 0 => i0 | 1 => i1 | 2 => i2 | 3 => i3 | _ => i4)), (fun k => match k with | 0 => a0 | 1 => a1 | 2 => a2 | 3 => a3 | _ => a4), ?_, ?_⟩
  · intro c q h
    match c, h with
    | 0, h => cases h; exact k0
    | 1, h => cases h; exact k1
    | 2, h => cases h; exact k2
    | 3, h => cases h; exact k3
    | 4, h => cases h; exact k4
    | (k + 5), h => cases h
  · intro c q h
    match c, h with
    | 0, h => cases h; exact ⟨x0, y0⟩
    | 1, h => cases h; exact ⟨x1, y1⟩
    | 2, h => cases h; exact ⟨x2, y2⟩
    | 3, h => cases h; exact ⟨x3, y3⟩
    | 4, h => cases h; exact ⟨x4, y4⟩
    | (k + 5), h => cases h
/-- how many points there are -/
theorem lw_n (x : Int32) : (x < 2 ∨ 6 < x) ∨ ∃ n, 2 ≤ n ∧ n ≤ 6 ∧ x = nI n := by
  by_cases h : x < 2 ∨ 6 < x
  · exact Or.inl h
  · refine Or.inr ?_
    have h1 : ¬ x.toInt < 2 := fun q => h (Or.inl (Int32.lt_iff_toInt_lt.mpr q))
    have h2 : ¬ 6 < x.toInt := fun q => h (Or.inr (Int32.lt_iff_toInt_lt.mpr q))
    refine ⟨x.toInt.toNat, by omega, by omega, Int32.toInt_inj.mp ?_⟩
    rw [nI_toInt (by omega)]
    omega
theorem lw_more {L i : Nat} (hL : L < 2 ^ 30) (hi : i < 2 ^ 31) (h : ¬ nI L - nI 3 < nI i) : i + 3 ≤ L := by
  rw [Int32.lt_iff_toInt_lt, pk_sub_toInt hL (by decide), nI_toInt hi] at h
  omega
section LWF
variable {ca : Nat → ClassId} {ad : Nat → Nat} {n : Nat} {ws w : va_W}
theorem lw_gfr {σ : sp_S} (hf : ∀ j, j < 52 → w[j]? = ws[j]?) (h : MGW ca ad n σ ws) : MGW ca ad n σ w := by
  obtain ⟨len, tx, pc, rk, gc, gs⟩ := σ
  exact mgw_fr hf h
theorem lw_ofr {σ : sp_S} (hf : ∀ j, 52 ≤ j → w[j]? = ws[j]?) (h : MOW ca ad n σ ws) : MOW ca ad n σ w := by
  obtain ⟨len, tx, pc, rk, gc, gs⟩ := σ
  exact mow_fr hf h
end LWF
/-- what both constructors make of a number -/
theorem lw_init (l : Launch) (D : va_G) (ca : Nat → ClassId) (x : Int32) (tx : Nat → Nat) (gs : Nat → Nat → Bool) : ∃ n, 2 ≤ n ∧ n ≤ 6 ∧ (∀ (q0 : Nat) (ws0 : va_W), ws0[0]? = some (q0, .inr (0, [.null, .null, .null, .int (nI 0), .null, .int (nI 0), .null, .null])) → (∀ j, 1 ≤ j → ws0[j]? = none) → mg_NA R_SU l y_MG_init b_MG_init 5 4 51 (5548) D classes (tys_ ca) [.ref (q0), .int (x)] ws0 (fun w => (∀ j, 52 ≤ j → w[j]? = none) ∧ ∃ ad : Nat → Nat, ad 0 = q0 ∧ MGW ca ad n (0, tx, 1, fun _ => 0, 0, gs) w)) ∧ (∀ (q52 : Nat) (ws0 : va_W), ws0[52]? = some (q52, .inr (4, [.int (nI 0), .int (nI 0), .null, .int (nI 0), .null, .int (nI 0), .null, .null, .null, .null, .null, .int (nI 0)])) → (∀ j, 53 ≤ j → ws0[j]? = none) → mg_N l y_MO_init b_MO_init 4 2 7 (2015) D classes (tys_ ca) [.ref (q52), .int (x)] ws0 (fun w => (∀ j, j ≠ 52 ∧ j ≠ 53 ∧ j ≠ 54 ∧ j ≠ 55 ∧ j ≠ 56 ∧ j ≠ 57 ∧ j ≠ 58 ∧ j ≠ 59 → w[j]? = ws0[j]?) ∧ ∃ q53 q54 q55 q56 q57 q58 q59 : Nat, MOW ca (mg_ad8 q52 q53 q54 q55 q56 q57 q58 q59) n (0, tx, 1, fun _ => 0, 0, gs) w)) := by
  rcases lw_n x with hx | ⟨n, h2, h6, rfl⟩
  · exact ⟨4, by decide, by decide, fun q0 ws0 z0 hz => c_MG_init0 l D ca (by decide) (by decide) hx rfl ws0 z0 hz, fun q52 ws0 z52 hz => c_MO_init0 l D ca (by decide) (by decide) hx rfl ws0 z52 (hz 53 (by decide)) (hz 54 (by decide)) (hz 55 (by decide)) (hz 56 (by decide)) (hz 57 (by decide)) (hz 58 (by decide)) (hz 59 (by decide))⟩
  · exact ⟨n, h2, h6, fun q0 ws0 z0 hz => c_MG_init1 l D ca h2 h6 ws0 z0 hz, fun q52 ws0 z52 hz => c_MO_init1 l D ca h2 h6 ws0 z52 (hz 53 (by decide)) (hz 54 (by decide)) (hz 55 (by decide)) (hz 56 (by decide)) (hz 57 (by decide)) (hz 58 (by decide)) (hz 59 (by decide))⟩
