/-! -/
/-! -/
/-! an hour's flags of the reference; laid by program (wp_u35.py) -/
def clR (cr : crs) (s : sg_) (w p : Int) : Int := sayR (nmR s w p) (cr 0) (s 139 (40 + 2 * w)) (-99) 99
def teR (cr : crs) (s : sg_) (w p : Int) : Int := sayR (nmR s w p) (cr 1) (s 139 9) 0 100
def flW (cr : crs) (w p : Int) (s : sg_) : sg_ := if htR s w p = -1 then s else
  let s1 := up s 139 (52 + 2 * (8 * w + p) + 0) (max 0 (min (s 139 (16 + 3 * p)) (htR s w p + clR cr s w p)))
  let s2 := up s1 139 (52 + 2 * (8 * w + p) + 1) (s1 139 (52 + 2 * (8 * w + p) + 1) + teR cr s1 w p)
  if 99 < s1 139 (52 + 2 * (8 * w + p) + 1) + teR cr s1 w p then up (up s2 139 (52 + 2 * (8 * w + p) + 0) (-1)) 139 (52 + 2 * (8 * w + p) + 1) 0 else s2
def flWs (cr : crs) (p : Int) : Nat → sg_ → sg_
  | 0, s => s
  | n + 1, s => flW cr n p (flWs cr p n s)
def flPs (cr : crs) (q : Nat) : Nat → sg_ → sg_
  | 0, s => s
  | m + 1, s => flWs cr m q (flPs cr q m s)
/-- what else stands in the reference's forest, in bounds -/
def RG (s : sg_) : Prop := (∀ p, 0 ≤ p ∧ p < 8 → 0 ≤ s 139 (16 + 3 * p) ∧ s 139 (16 + 3 * p) ≤ 99) ∧ (∀ p, 0 ≤ p ∧ p < 8 → 0 ≤ s 139 (16 + 3 * p + 1) ∧ s 139 (16 + 3 * p + 1) ≤ 99) ∧ (∀ w, 0 ≤ w ∧ w < 6 → 0 ≤ s 139 (40 + 2 * w) ∧ s 139 (40 + 2 * w) ≤ 9) ∧ (∀ w p, (0 ≤ w ∧ w < 6) → (0 ≤ p ∧ p < 8) → -1 ≤ htR s w p ∧ htR s w p ≤ 99) ∧ (∀ w p, (0 ≤ w ∧ w < 6) → (0 ≤ p ∧ p < 8) → 0 ≤ s 139 (52 + 2 * (8 * w + p) + 1) ∧ s 139 (52 + 2 * (8 * w + p) + 1) ≤ 199) ∧ (∀ w p, (0 ≤ w ∧ w < 6) → (0 ≤ p ∧ p < 8) → ¬ htR s w p = -1 → s 139 (52 + 2 * (8 * w + p) + 1) ≤ 99) ∧ (0 ≤ s 139 9 ∧ s 139 9 ≤ 9) ∧ (0 ≤ s 139 8 ∧ s 139 8 ≤ 20000) ∧ (0 ≤ s 139 11 ∧ s 139 11 ≤ 30306) ∧ (-1 ≤ s 139 10 ∧ s 139 10 ≤ 5) ∧ (0 ≤ s 139 0 ∧ s 139 0 ≤ 8) ∧ (0 ≤ s 139 1 ∧ s 139 1 ≤ 6)
theorem RG.a {s : sg_} (H_ : RG s) : ∀ p, 0 ≤ p ∧ p < 8 → 0 ≤ s 139 (16 + 3 * p) ∧ s 139 (16 + 3 * p) ≤ 99 := H_.1
theorem RG.pl {s : sg_} (H_ : RG s) : ∀ p, 0 ≤ p ∧ p < 8 → 0 ≤ s 139 (16 + 3 * p + 1) ∧ s 139 (16 + 3 * p + 1) ≤ 99 := H_.2.1
theorem RG.n {s : sg_} (H_ : RG s) : ∀ w, 0 ≤ w ∧ w < 6 → 0 ≤ s 139 (40 + 2 * w) ∧ s 139 (40 + 2 * w) ≤ 9 := H_.2.2.1
theorem RG.h {s : sg_} (H_ : RG s) : ∀ w p, (0 ≤ w ∧ w < 6) → (0 ≤ p ∧ p < 8) → -1 ≤ htR s w p ∧ htR s w p ≤ 99 := H_.2.2.2.1
theorem RG.e {s : sg_} (H_ : RG s) : ∀ w p, (0 ≤ w ∧ w < 6) → (0 ≤ p ∧ p < 8) → 0 ≤ s 139 (52 + 2 * (8 * w + p) + 1) ∧ s 139 (52 + 2 * (8 * w + p) + 1) ≤ 199 := H_.2.2.2.2.1
theorem RG.f {s : sg_} (H_ : RG s) : ∀ w p, (0 ≤ w ∧ w < 6) → (0 ≤ p ∧ p < 8) → ¬ htR s w p = -1 → s 139 (52 + 2 * (8 * w + p) + 1) ≤ 99 := H_.2.2.2.2.2.1
theorem RG.w {s : sg_} (H_ : RG s) : 0 ≤ s 139 9 ∧ s 139 9 ≤ 9 := H_.2.2.2.2.2.2.1
theorem RG.o {s : sg_} (H_ : RG s) : 0 ≤ s 139 8 ∧ s 139 8 ≤ 20000 := H_.2.2.2.2.2.2.2.1
theorem RG.x {s : sg_} (H_ : RG s) : 0 ≤ s 139 11 ∧ s 139 11 ≤ 30306 := H_.2.2.2.2.2.2.2.2.1
theorem RG.d {s : sg_} (H_ : RG s) : -1 ≤ s 139 10 ∧ s 139 10 ≤ 5 := H_.2.2.2.2.2.2.2.2.2.1
theorem RG.p0 {s : sg_} (H_ : RG s) : 0 ≤ s 139 0 ∧ s 139 0 ≤ 8 := H_.2.2.2.2.2.2.2.2.2.2.1
theorem RG.w0 {s : sg_} (H_ : RG s) : 0 ≤ s 139 1 ∧ s 139 1 ≤ 6 := H_.2.2.2.2.2.2.2.2.2.2.2
theorem RG_mk {s : sg_} (a_ : ∀ p, 0 ≤ p ∧ p < 8 → 0 ≤ s 139 (16 + 3 * p) ∧ s 139 (16 + 3 * p) ≤ 99) (pl_ : ∀ p, 0 ≤ p ∧ p < 8 → 0 ≤ s 139 (16 + 3 * p + 1) ∧ s 139 (16 + 3 * p + 1) ≤ 99) (n_ : ∀ w, 0 ≤ w ∧ w < 6 → 0 ≤ s 139 (40 + 2 * w) ∧ s 139 (40 + 2 * w) ≤ 9) (h_ : ∀ w p, (0 ≤ w ∧ w < 6) → (0 ≤ p ∧ p < 8) → -1 ≤ htR s w p ∧ htR s w p ≤ 99) (e_ : ∀ w p, (0 ≤ w ∧ w < 6) → (0 ≤ p ∧ p < 8) → 0 ≤ s 139 (52 + 2 * (8 * w + p) + 1) ∧ s 139 (52 + 2 * (8 * w + p) + 1) ≤ 199) (f_ : ∀ w p, (0 ≤ w ∧ w < 6) → (0 ≤ p ∧ p < 8) → ¬ htR s w p = -1 → s 139 (52 + 2 * (8 * w + p) + 1) ≤ 99) (w_ : 0 ≤ s 139 9 ∧ s 139 9 ≤ 9) (o_ : 0 ≤ s 139 8 ∧ s 139 8 ≤ 20000) (x_ : 0 ≤ s 139 11 ∧ s 139 11 ≤ 30306) (d_ : -1 ≤ s 139 10 ∧ s 139 10 ≤ 5) (p0_ : 0 ≤ s 139 0 ∧ s 139 0 ≤ 8) (w0_ : 0 ≤ s 139 1 ∧ s 139 1 ≤ 6) : RG s := ⟨a_, pl_, n_, h_, e_, f_, w_, o_, x_, d_, p0_, w0_⟩
theorem RG_b {s : sg_} (G : RG s) {w p : Int} (hw : 0 ≤ w ∧ w < 6) (hp : 0 ≤ p ∧ p < 8) {k : Int} (hk : 0 ≤ k ∧ k < 10) : B6 (nmR s w p k) := by
  have h1 := G.a p hp
  have h2 := G.pl p hp
  have h3 := G.n w hw
  have h4 : -1 ≤ s 139 (52 + 2 * (8 * w + p) + 0) ∧ s 139 (52 + 2 * (8 * w + p) + 0) ≤ 99 := G.h w p hw hp
  have h5 := G.e w p hw hp
  have h6 := G.w
  have h7 := G.o
  have hb := bcn_r (flg (fun j => s 139 (52 + 2 * (8 * j + p) + 0)) (s 139 1).toNat)
  unfold nmR
  rcases ten hk with rfl | rfl | rfl | rfl | rfl | rfl | rfl | rfl | rfl | rfl
  · exact (show -1000000 ≤ s 139 8 ∧ s 139 8 ≤ 1000000 by omega)
  · exact (show -1000000 ≤ s 139 9 ∧ s 139 9 ≤ 1000000 by omega)
  · exact (show -1000000 ≤ w ∧ w ≤ 1000000 by omega)
  · exact (show -1000000 ≤ s 139 (40 + 2 * w) ∧ s 139 (40 + 2 * w) ≤ 1000000 by omega)
  · exact (show -1000000 ≤ s 139 (16 + 3 * p) ∧ s 139 (16 + 3 * p) ≤ 1000000 by omega)
  · exact (show -1000000 ≤ s 139 (52 + 2 * (8 * w + p) + 0) ∧ s 139 (52 + 2 * (8 * w + p) + 0) ≤ 1000000 by omega)
  · exact (show -1000000 ≤ s 139 (52 + 2 * (8 * w + p) + 1) ∧ s 139 (52 + 2 * (8 * w + p) + 1) ≤ 1000000 by omega)
  · exact (show -1000000 ≤ bcn (flg (fun j => s 139 (52 + 2 * (8 * j + p) + 0)) (s 139 1).toNat) ∧ bcn (flg (fun j => s 139 (52 + 2 * (8 * j + p) + 0)) (s 139 1).toNat) ≤ 1000000 by omega)
  · exact (show -1000000 ≤ s 139 (16 + 3 * p + 1) ∧ s 139 (16 + 3 * p + 1) ≤ 1000000 by omega)
  · show -1000000 ≤ (if s 139 10 = w then (1 : Int) else 0) ∧ (if s 139 10 = w then (1 : Int) else 0) ≤ 1000000
    split <;> omega
