/-! an int of the script as an argument, in one step. Own rows. -/
section LWA
variable {p : Program} {l : Launch} {e : Env} {R : Room} {s : State} {m : MethodId} {args : Array Value} {below : List Frame} {meth : Method} {c : Code} {H : Heap} {locs : List Loc} {cells slots : Nat} {Q : State → Prop} {cc : ByteArray} {pc : Nat} {ls : Array Slot} {rest : List Value} {b L r1 r2 : Nat} {xs : Nat → Int32} {yi : Int32}
theorem lw_argC (hx : p.tables.exec = Jvm.exec) (hb : c.code = cc) (hX : va_X b L xs s H) (hl : lv_has ls 4 [(3, .int yi), (2, .ref r2), (1, .ref r1), (0, .ref b)]) (hy0 : 0 ≤ yi.toInt) (hy8 : yi.toInt + 8 ≤ (L : Int)) (hL : L ≤ 4096) (n : Int) (hn : 0 ≤ n ∧ n ≤ 7) (hk : (Int32.ofInt n).toInt = n)
    (d1 : decode cc pc = .ok (.aload_n 0, 1)) (d2 : decode cc (pc + 1) = .ok (.iload_n 3, 1)) (d3 : decode cc (pc + 1 + 1) = .ok (.iconst n, 1)) (d4 : decode cc (pc + 1 + 1 + 1) = .ok (.iadd, 1)) (d5 : decode cc (pc + 1 + 1 + 1 + 1) = .ok (.iaload, 1))
    (kk : W p l e R s m args below meth c H locs cells slots Q (F0 m (pc + 5) ls (.int (xs (yi.toInt + n).toNat) :: rest))) : W p l e R s m args below meth c H locs cells slots Q (F0 m pc ls rest) := by
  refine lv_aload_n hx hb d1 rfl (lv_at hl 3 rfl) ?_
  refine lv_iload_n hx hb d2 rfl (lv_at hl 0 rfl) ?_
  refine lv_iconst hx hb d3 rfl ?_
  refine lv_iadd hx hb d4 ?_
  have hs : (yi + Int32.ofInt n).toInt = yi.toInt + n := by rw [q_add (by rw [hk]; omega) (by rw [hk]; omega), hk]
  refine ty_sld hx hb hX (i := yi + Int32.ofInt n) (q_in (by omega) (by omega)) d5 ?_
  refine lv_seti (y := xs (yi.toInt + n).toNat) (congrArg (fun q : Int => xs q.toNat) hs) ?_
  exact kk
theorem lw_argB (hx : p.tables.exec = Jvm.exec) (hb : c.code = cc) (hX : va_X b L xs s H) (hl : lv_has ls 4 [(3, .int yi), (2, .ref r2), (1, .ref r1), (0, .ref b)]) (hy0 : 0 ≤ yi.toInt) (hy8 : yi.toInt + 8 ≤ (L : Int)) (hL : L ≤ 4096) (n : Int) (hn : 0 ≤ n ∧ n ≤ 7) (hk : (Int8.ofInt n).toInt32.toInt = n)
    (d1 : decode cc pc = .ok (.aload_n 0, 1)) (d2 : decode cc (pc + 1) = .ok (.iload_n 3, 1)) (d3 : decode cc (pc + 1 + 1) = .ok (.bipush n, 2)) (d4 : decode cc (pc + 1 + 1 + 2) = .ok (.iadd, 1)) (d5 : decode cc (pc + 1 + 1 + 2 + 1) = .ok (.iaload, 1))
    (kk : W p l e R s m args below meth c H locs cells slots Q (F0 m (pc + 6) ls (.int (xs (yi.toInt + n).toNat) :: rest))) : W p l e R s m args below meth c H locs cells slots Q (F0 m pc ls rest) := by
  refine lv_aload_n hx hb d1 rfl (lv_at hl 3 rfl) ?_
  refine lv_iload_n hx hb d2 rfl (lv_at hl 0 rfl) ?_
  refine lv_bipush hx hb d3 rfl ?_
  refine lv_iadd hx hb d4 ?_
  have hs : (yi + (Int8.ofInt n).toInt32).toInt = yi.toInt + n := by rw [q_add (by rw [hk]; omega) (by rw [hk]; omega), hk]
  refine ty_sld hx hb hX (i := yi + (Int8.ofInt n).toInt32) (q_in (by omega) (by omega)) d5 ?_
  refine lv_seti (y := xs (yi.toInt + n).toNat) (congrArg (fun q : Int => xs q.toNat) hs) ?_
  exact kk
end LWA
