/-! arraycopy from the start, and Math.min, over naturals -/
section MGC
variable {p : Program} {l : Launch} {e : Env} {s : State} {m : MethodId} {args : Array Value} {below : List Frame} {meth : Method} {c : Code} {H : Heap} {locs : List Loc} {Q : State → Prop}
variable {cc : ByteArray} {pc nL d : Nat} {ls : Array Slot} {rest : List Value} {D : va_G} {cl : List vw_C} {A : Nat → Prop} {a : Nat} {tys : List (ClassId × FieldType)} {ws : va_W} {cd : Cond} {own : String}
theorem mg_cpl (C0 : CallFix p m c cc nL s args (cd :: gw_) own) (hls : ls.size = nL) {index : Nat} (hlk : Cond.methodLink own index arraycopyName ∈ gw_) (hK : va_K D cl tys s) (hP : va_P D cl ws H) (hD : va_D A ws) (hS : va_S A s.heap H locs) (q0 q1 t0 t1 : Nat) {a0 : Nat} {c0 c1 : ClassId} {n0 n1 n : Nat} {f g : Nat → Int64} (ha0 : ws[q0]? = some (a0, .inl (c0, n0, .inr (.inl f)))) (ha1 : ws[q1]? = some (a, .inl (c1, n1, .inr (.inl g)))) (ht0 : tys[t0]? = some (c0, .long)) (ht1 : tys[t1]? = some (c1, .long)) (hn : n < 2 ^ 31) (h0 : n ≤ n0) (h1 : n ≤ n1) (hd : 2 ≤ d) (hr : (rest.map fun v => v.category).sum ≤ 8) (hdg : decode cc pc = .ok (.invokestatic index, 3))
    (kk : ∀ (ws' : va_W) (H1 : Heap) (locs1 : List Loc), (∀ i, i ≠ q1 → ws'[i]? = ws[i]?) → ws'[q1]? = some (a, .inl (c1, n1, .inr (.inl (va_cpy f g 0 0 n)))) → va_P D cl ws' H1 → va_D A ws' → va_S A s.heap H1 locs1 → W p l e (mg_rm d) s m args below meth c H1 locs1 0 0 Q (F0 m (pc + 3) ls rest)) : W p l e (mg_rm d) s m args below meth c H locs 0 0 Q (F0 m pc ls (.int (nI n) :: .int (nI 0) :: .ref a :: .int (nI 0) :: .ref a0 :: rest)) := by
  have z : ¬ nI 0 < 0 := nI_pos (by decide)
  have zc : (nI 0).toNatClampNeg = 0 := nI_clamp (by decide)
  have nc : (nI n).toNatClampNeg = n := nI_clamp hn
  have hw : nativeFrameWords "java/lang/System" "arraycopy" 5 ≤ 10 := by decide +kernel
  refine va_copyl (ty := .long) C0.1 C0.2.1 (C0.2.2.1.trans hls.symm) C0.2.2.2.1 (C0.2.2.2.2 _ (List.mem_cons_of_mem _ hlk)) (C0.2.2.2.2 _ (List.mem_cons_of_mem _ ac_nat)) (C0.2.2.2.2 _ (List.mem_cons_of_mem _ ac_stat)) (C0.2.2.2.2 _ (List.mem_cons_of_mem _ ac_init)) hK hP hD hS q0 q1 t0 t1 ha0 ha1 ht0 ht1 rfl z z (nI_pos hn) (by rw [zc, nc]; omega) (by rw [zc, nc]; omega) (fun _ _ => rfl) (by show 1 ≤ d; omega) (by show _ ≤ 40 * d; omega) hdg ?_
  rw [zc, nc]
  exact fun H1 locs1 hP1 hD1 hS1 => kk _ H1 locs1 (fun i hi => List.getElem?_set_ne (Ne.symm hi)) (List.getElem?_set_self (List.getElem?_eq_some_iff.mp ha1).1) hP1 hD1 hS1
theorem mg_cpi (C0 : CallFix p m c cc nL s args (cd :: gw_) own) (hls : ls.size = nL) {index : Nat} (hlk : Cond.methodLink own index arraycopyName ∈ gw_) (hK : va_K D cl tys s) (hP : va_P D cl ws H) (hD : va_D A ws) (hS : va_S A s.heap H locs) (q0 q1 t0 t1 : Nat) {a0 : Nat} {c0 c1 : ClassId} {n0 n1 n : Nat} {f g : Nat → Int32} (ha0 : ws[q0]? = some (a0, .inl (c0, n0, .inl f))) (ha1 : ws[q1]? = some (a, .inl (c1, n1, .inl g))) (ht0 : tys[t0]? = some (c0, .int)) (ht1 : tys[t1]? = some (c1, .int)) (hn : n < 2 ^ 31) (h0 : n ≤ n0) (h1 : n ≤ n1) (hd : 2 ≤ d) (hr : (rest.map fun v => v.category).sum ≤ 8) (hdg : decode cc pc = .ok (.invokestatic index, 3))
    (kk : ∀ (ws' : va_W) (H1 : Heap) (locs1 : List Loc), (∀ i, i ≠ q1 → ws'[i]? = ws[i]?) → ws'[q1]? = some (a, .inl (c1, n1, .inl (va_cpy f g 0 0 n))) → va_P D cl ws' H1 → va_D A ws' → va_S A s.heap H1 locs1 → W p l e (mg_rm d) s m args below meth c H1 locs1 0 0 Q (F0 m (pc + 3) ls rest)) : W p l e (mg_rm d) s m args below meth c H locs 0 0 Q (F0 m pc ls (.int (nI n) :: .int (nI 0) :: .ref a :: .int (nI 0) :: .ref a0 :: rest)) := by
  have z : ¬ nI 0 < 0 := nI_pos (by decide)
  have zc : (nI 0).toNatClampNeg = 0 := nI_clamp (by decide)
  have nc : (nI n).toNatClampNeg = n := nI_clamp hn
  have hw : nativeFrameWords "java/lang/System" "arraycopy" 5 ≤ 10 := by decide +kernel
  refine va_copyi (ty := .int) C0.1 C0.2.1 (C0.2.2.1.trans hls.symm) C0.2.2.2.1 (C0.2.2.2.2 _ (List.mem_cons_of_mem _ hlk)) (C0.2.2.2.2 _ (List.mem_cons_of_mem _ ac_nat)) (C0.2.2.2.2 _ (List.mem_cons_of_mem _ ac_stat)) (C0.2.2.2.2 _ (List.mem_cons_of_mem _ ac_init)) hK hP hD hS q0 q1 t0 t1 ha0 ha1 ht0 ht1 rfl z z (nI_pos hn) (by rw [zc, nc]; omega) (by rw [zc, nc]; omega) (fun _ _ => rfl) (by show 1 ≤ d; omega) (by show _ ≤ 40 * d; omega) hdg ?_
  rw [zc, nc]
  exact fun H1 locs1 hP1 hD1 hS1 => kk _ H1 locs1 (fun i hi => List.getElem?_set_ne (Ne.symm hi)) (List.getElem?_set_self (List.getElem?_eq_some_iff.mp ha1).1) hP1 hD1 hS1
theorem mg_min (C0 : CallFix p m c cc nL s args (cd :: gw_) own) (hls : ls.size = nL) {index u v : Nat} (hlk : Cond.methodLink own index Lib.Math.min.name ∈ gw_) (hu : u < 2 ^ 31) (hv : v < 2 ^ 31) (hd : 2 ≤ d) (hr : (rest.map fun v => v.category).sum ≤ 8) (hdg : decode cc pc = .ok (.invokestatic index, 3)) (kk : W p l e (mg_rm d) s m args below meth c H locs 0 0 Q (F0 m (pc + 3) ls (.int (nI (min u v)) :: rest))) : W p l e (mg_rm d) s m args below meth c H locs 0 0 Q (F0 m pc ls (.int (nI v) :: .int (nI u) :: rest)) := by
  refine va_mmin C0.1 C0.2.1 (C0.2.2.1.trans hls.symm) C0.2.2.2.1 (C0.2.2.2.2 _ (List.mem_cons_of_mem _ hlk)) (C0.2.2.2.2 _ (List.mem_cons_of_mem _ mm_stat)) (C0.2.2.2.2 _ (List.mem_cons_of_mem _ mm_init)) (C0.2.2.2.2 _ (List.mem_cons_of_mem _ mm_code)) (by show 1 ≤ d; omega) (by show _ ≤ 40 * d; omega) (Nat.zero_le _) (Nat.zero_le _) hdg ?_
  rw [nb_min hu hv]
  exact kk
end MGC
