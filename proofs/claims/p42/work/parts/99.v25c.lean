/-! -/
/-! what is told: the other calls, and the start -/
theorem ht_Feed {tc : tcs} {tr : Int → crs} {s : sg_} {M : Int} (L : LAWS tc tr s M) (H : HT s) {a b x e f : Int} : HT (rFeed (cFeed s a b x e f).2 a b x e f).2 := by
  refine HT_q H (ht_b L).1 (ht_b L).2 (fun c j hb => ?_)
  have k1 : (cFeed s a b x e f).2 c j = s c j := by
    unfold cFeed
    split
    · exact fvC_o _ _ (by omega) (by omega)
    · rfl
  refine Eq.trans ?_ k1
  unfold rFeed
  split
  · exact fvR_o _ _ (by omega) (by omega)
  · rfl
theorem ht_End {tc : tcs} {tr : Int → crs} {s : sg_} {M : Int} (L : LAWS tc tr s M) (H : HT s) {x : Int} : HT (rEnd (cEnd s x).2 x).2 := by
  refine HT_q H (ht_b L).1 (ht_b L).2 (fun c j hb => ?_)
  have k1 : (cEnd s x).2 c j = s c j := by
    unfold cEnd
    split
    · exact up_n (by omega)
    · rfl
  refine Eq.trans ?_ k1
  unfold rEnd
  split
  · exact up_n (by omega)
  · rfl
theorem lw_46 {tc : tcs} {tr : Int → crs} {s : sg_} {M : Int} (L : LAWS tc tr s M) : s 139 2 = s 47 6 ∧ 0 ≤ s 47 6 ∧ s 47 6 ≤ 4 := ⟨L.1.1.2.2.2.1.1.1, L.1.1.1.2.2.2.2.2.1⟩
theorem ht_Text {tc : tcs} {tr : Int → crs} {s : sg_} {M : Int} (L : LAWS tc tr s M) (H : HT s) {f q f2 q2 : Int} {Cs : List KC} {c1 s1 : sg_} (A : cTx s c1 (s 47 6) f q Cs) (R : rTx c1 s1 (s 47 6) f2 q2) : HT s1 := by
  have k6 := lw_46 L
  obtain ⟨-, fa, -⟩ := A
  obtain ⟨-, fr, -⟩ := R
  refine HT_q H (ht_b L).1 (ht_b L).2 (fun b j hb => ?_)
  exact (fr b j (by omega) (by omega) (by omega) (by omega)).trans (fa b j (by omega) (by omega) (by omega) (by omega) (by omega))
set_option maxRecDepth 1000000 in
theorem ht_st : HT st1_ := by
  have k65 : st1_ 65 3 = 0 := (st1_e (by decide)).trans (by decide +kernel)
  have k87 : st1_ 87 3 = 0 := (st1_e (by decide)).trans (by decide +kernel)
  refine ⟨fun k a b => ?_, fun k a b => ?_⟩
  · have b : k < st1_ 65 3 := b
    exfalso
    omega
  · have b : k < st1_ 87 3 := b
    exfalso
    omega
