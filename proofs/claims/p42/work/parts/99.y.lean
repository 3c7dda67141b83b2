/-! all contracts hold; the law answers 1 -/
theorem lw_am : lw_AM := by
  refine sx_AM (fun e he => ?_)
  simp only [sx_HL, List.mem_cons, List.not_mem_nil, or_false] at he
  rcases he with rfl | rfl | rfl | rfl | rfl | rfl | rfl | rfl
  · exact fun d IH => sx_M142 IH
  · exact fun d IH => sx_M176 IH
  · exact fun d IH => sx_M231 IH
  · exact fun d IH => sx_M244 IH
  · exact fun d IH => sx_M294 IH
  · exact fun d IH => sx_M299 IH
  · exact fun d IH => sx_M308 IH
  · exact fun d IH => sx_M311 IH
theorem mj_law_ok {xs : Nat → Int32} {L : Nat} (hL : L ≤ 3072) : mj_Ok xs L := lw_ok lw_am hL
theorem whole_start {p : Program} {e : Env} {s : State} {m : MethodId} {below : List Frame} {meth : Method} {c : Code} (l : Launch) {b L : Nat} {xs : Nat → Int32} (hL : L ≤ 3072) (C0 : lw_At p s m meth c b L xs) : W p l e room_1 s m #[Value.ref b] below meth c s.heap [] 0 0 (lw_Z below #[Value.ref b] s) (entryFrame m ([Value.ref b] : List Value).toArray 4) := mj_start l (mj_law_ok hL) C0
