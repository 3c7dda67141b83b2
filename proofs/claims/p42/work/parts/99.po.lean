/-! -/
/-! the reference's reader: its cells, exactly; laid by program (wp_rread.py) -/
theorem wp_wl {n d m pc : Nat} {lv : mj_L} {st : List Value} {h : mj_H} {Q : Option Value → mj_H → Prop} (a : wp_R d m pc lv st h Q) : wl_R n d m pc lv st h Q := by
  intro f hf v h' r
  obtain ⟨f1, v1, h1, r1, q1⟩ := a
  have e1 := mj_run_mono (Nat.le_max_left f1 f) (Nat.le_refl d) r1
  have e2 := mj_run_mono (Nat.le_max_right f1 f) (Nat.le_refl d) r
  rw [e1] at e2
  cases e2
  exact q1
def rf (fs fs0 : List Value) (L p q t n x0 wr so pd op am wi ei oc cn : Int) (w : Nat) : Prop := fs.length = 31 ∧ (fs[4]? = some (wp_i L) ∧ fs[7]? = some (wp_i p) ∧ fs[8]? = some (wp_i q) ∧ fs[9]? = some (wp_i t) ∧ fs[10]? = some (wp_i n) ∧ fs[12]? = some (wp_i x0) ∧ fs[13]? = some (wp_i wr) ∧ fs[14]? = some (wp_i so) ∧ fs[16]? = some (wp_i pd) ∧ fs[17]? = some (wp_i op) ∧ fs[18]? = some (wp_i am) ∧ fs[19]? = some (wp_i wi) ∧ fs[20]? = some (wp_i ei) ∧ fs[21]? = some (wp_i oc) ∧ fs[11]? = some (.long (Int64.ofNat w)) ∧ fs[2]? = some (.ref 141) ∧ fs[3]? = some (.ref 142) ∧ fs[15]? = some (.ref 143)) ∧ ∀ j, j ∉ [7, 8, 9, 10, 11, 12, 13, 14, 16, 17, 18, 19, 20, 21] → fs[j]? = fs0[j]?
/-- the texts before this one stay -/
def keT (h0 : mj_H) (x0 : Int) (ts : List Value) : Prop := ∀ j : Nat, (j : Int) < x0 → ts[j]? = ((h0[141]?).getD (0, [])).2[j]?
def rP (h0 h : mj_H) (fs0 bl : List Value) (L p q t n x0 wr so pd op am wi ei oc cn : Int) (w : Nat) (pl ts : List Value) : Prop := (∃ fs, h[138]? = some (11, fs) ∧ rf fs fs0 L p q t n x0 wr so pd op am wi ei oc cn w) ∧ h[142]? = some (1000, bl) ∧ h[143]? = some (1000, pl) ∧ (h[141]? = some (1000, ts) ∧ ts[x0.toNat]? = some (wp_i cn) ∧ keT h0 x0 ts) ∧ ∀ a, a ≠ 138 → a ≠ 141 → a ≠ 143 → h[a]? = h0[a]?
section WRP
variable {nn d m pc : Nat} {lv : mj_L} {st : List Value} {h h0 : mj_H} {Q : Option Value → mj_H → Prop} {fs0 bl pl ts : List Value} {L p q t n x0 wr so pd op am wi ei oc cn : Int} {w : Nat}
theorem rp_g4 {x : Nat} {ty : FieldType} {b : Bool} (V : rP h0 h fs0 bl L p q t n x0 wr so pd op am wi ei oc cn w pl ts) (hi : mj_ins m pc = some (.getfield x)) (hf : mj_fld m x = some (11, 4, ty, b)) (hr : wl_R nn d m (pc + 3) lv (wp_i L :: st) h Q) : wl_R nn d m pc lv (.ref 138 :: st) h Q := by
  obtain ⟨⟨fs, e0, l, ⟨e4, e7, e8, e9, e10, e12, e13, e14, e16, e17, e18, e19, e20, e21, e11, e2, e3, e15⟩, g⟩, -⟩ := V
  exact wl_gf hi hf e0 e4 hr
theorem rp_g7 {x : Nat} {ty : FieldType} {b : Bool} (V : rP h0 h fs0 bl L p q t n x0 wr so pd op am wi ei oc cn w pl ts) (hi : mj_ins m pc = some (.getfield x)) (hf : mj_fld m x = some (11, 7, ty, b)) (hr : wl_R nn d m (pc + 3) lv (wp_i p :: st) h Q) : wl_R nn d m pc lv (.ref 138 :: st) h Q := by
  obtain ⟨⟨fs, e0, l, ⟨e4, e7, e8, e9, e10, e12, e13, e14, e16, e17, e18, e19, e20, e21, e11, e2, e3, e15⟩, g⟩, -⟩ := V
  exact wl_gf hi hf e0 e7 hr
theorem rp_g8 {x : Nat} {ty : FieldType} {b : Bool} (V : rP h0 h fs0 bl L p q t n x0 wr so pd op am wi ei oc cn w pl ts) (hi : mj_ins m pc = some (.getfield x)) (hf : mj_fld m x = some (11, 8, ty, b)) (hr : wl_R nn d m (pc + 3) lv (wp_i q :: st) h Q) : wl_R nn d m pc lv (.ref 138 :: st) h Q := by
  obtain ⟨⟨fs, e0, l, ⟨e4, e7, e8, e9, e10, e12, e13, e14, e16, e17, e18, e19, e20, e21, e11, e2, e3, e15⟩, g⟩, -⟩ := V
  exact wl_gf hi hf e0 e8 hr
theorem rp_g9 {x : Nat} {ty : FieldType} {b : Bool} (V : rP h0 h fs0 bl L p q t n x0 wr so pd op am wi ei oc cn w pl ts) (hi : mj_ins m pc = some (.getfield x)) (hf : mj_fld m x = some (11, 9, ty, b)) (hr : wl_R nn d m (pc + 3) lv (wp_i t :: st) h Q) : wl_R nn d m pc lv (.ref 138 :: st) h Q := by
  obtain ⟨⟨fs, e0, l, ⟨e4, e7, e8, e9, e10, e12, e13, e14, e16, e17, e18, e19, e20, e21, e11, e2, e3, e15⟩, g⟩, -⟩ := V
  exact wl_gf hi hf e0 e9 hr
theorem rp_g10 {x : Nat} {ty : FieldType} {b : Bool} (V : rP h0 h fs0 bl L p q t n x0 wr so pd op am wi ei oc cn w pl ts) (hi : mj_ins m pc = some (.getfield x)) (hf : mj_fld m x = some (11, 10, ty, b)) (hr : wl_R nn d m (pc + 3) lv (wp_i n :: st) h Q) : wl_R nn d m pc lv (.ref 138 :: st) h Q := by
  obtain ⟨⟨fs, e0, l, ⟨e4, e7, e8, e9, e10, e12, e13, e14, e16, e17, e18, e19, e20, e21, e11, e2, e3, e15⟩, g⟩, -⟩ := V
  exact wl_gf hi hf e0 e10 hr
theorem rp_g12 {x : Nat} {ty : FieldType} {b : Bool} (V : rP h0 h fs0 bl L p q t n x0 wr so pd op am wi ei oc cn w pl ts) (hi : mj_ins m pc = some (.getfield x)) (hf : mj_fld m x = some (11, 12, ty, b)) (hr : wl_R nn d m (pc + 3) lv (wp_i x0 :: st) h Q) : wl_R nn d m pc lv (.ref 138 :: st) h Q := by
  obtain ⟨⟨fs, e0, l, ⟨e4, e7, e8, e9, e10, e12, e13, e14, e16, e17, e18, e19, e20, e21, e11, e2, e3, e15⟩, g⟩, -⟩ := V
  exact wl_gf hi hf e0 e12 hr
theorem rp_g13 {x : Nat} {ty : FieldType} {b : Bool} (V : rP h0 h fs0 bl L p q t n x0 wr so pd op am wi ei oc cn w pl ts) (hi : mj_ins m pc = some (.getfield x)) (hf : mj_fld m x = some (11, 13, ty, b)) (hr : wl_R nn d m (pc + 3) lv (wp_i wr :: st) h Q) : wl_R nn d m pc lv (.ref 138 :: st) h Q := by
  obtain ⟨⟨fs, e0, l, ⟨e4, e7, e8, e9, e10, e12, e13, e14, e16, e17, e18, e19, e20, e21, e11, e2, e3, e15⟩, g⟩, -⟩ := V
  exact wl_gf hi hf e0 e13 hr
theorem rp_g14 {x : Nat} {ty : FieldType} {b : Bool} (V : rP h0 h fs0 bl L p q t n x0 wr so pd op am wi ei oc cn w pl ts) (hi : mj_ins m pc = some (.getfield x)) (hf : mj_fld m x = some (11, 14, ty, b)) (hr : wl_R nn d m (pc + 3) lv (wp_i so :: st) h Q) : wl_R nn d m pc lv (.ref 138 :: st) h Q := by
  obtain ⟨⟨fs, e0, l, ⟨e4, e7, e8, e9, e10, e12, e13, e14, e16, e17, e18, e19, e20, e21, e11, e2, e3, e15⟩, g⟩, -⟩ := V
  exact wl_gf hi hf e0 e14 hr
theorem rp_g16 {x : Nat} {ty : FieldType} {b : Bool} (V : rP h0 h fs0 bl L p q t n x0 wr so pd op am wi ei oc cn w pl ts) (hi : mj_ins m pc = some (.getfield x)) (hf : mj_fld m x = some (11, 16, ty, b)) (hr : wl_R nn d m (pc + 3) lv (wp_i pd :: st) h Q) : wl_R nn d m pc lv (.ref 138 :: st) h Q := by
  obtain ⟨⟨fs, e0, l, ⟨e4, e7, e8, e9, e10, e12, e13, e14, e16, e17, e18, e19, e20, e21, e11, e2, e3, e15⟩, g⟩, -⟩ := V
  exact wl_gf hi hf e0 e16 hr
theorem rp_g17 {x : Nat} {ty : FieldType} {b : Bool} (V : rP h0 h fs0 bl L p q t n x0 wr so pd op am wi ei oc cn w pl ts) (hi : mj_ins m pc = some (.getfield x)) (hf : mj_fld m x = some (11, 17, ty, b)) (hr : wl_R nn d m (pc + 3) lv (wp_i op :: st) h Q) : wl_R nn d m pc lv (.ref 138 :: st) h Q := by
  obtain ⟨⟨fs, e0, l, ⟨e4, e7, e8, e9, e10, e12, e13, e14, e16, e17, e18, e19, e20, e21, e11, e2, e3, e15⟩, g⟩, -⟩ := V
  exact wl_gf hi hf e0 e17 hr
theorem rp_g18 {x : Nat} {ty : FieldType} {b : Bool} (V : rP h0 h fs0 bl L p q t n x0 wr so pd op am wi ei oc cn w pl ts) (hi : mj_ins m pc = some (.getfield x)) (hf : mj_fld m x = some (11, 18, ty, b)) (hr : wl_R nn d m (pc + 3) lv (wp_i am :: st) h Q) : wl_R nn d m pc lv (.ref 138 :: st) h Q := by
  obtain ⟨⟨fs, e0, l, ⟨e4, e7, e8, e9, e10, e12, e13, e14, e16, e17, e18, e19, e20, e21, e11, e2, e3, e15⟩, g⟩, -⟩ := V
  exact wl_gf hi hf e0 e18 hr
theorem rp_g19 {x : Nat} {ty : FieldType} {b : Bool} (V : rP h0 h fs0 bl L p q t n x0 wr so pd op am wi ei oc cn w pl ts) (hi : mj_ins m pc = some (.getfield x)) (hf : mj_fld m x = some (11, 19, ty, b)) (hr : wl_R nn d m (pc + 3) lv (wp_i wi :: st) h Q) : wl_R nn d m pc lv (.ref 138 :: st) h Q := by
  obtain ⟨⟨fs, e0, l, ⟨e4, e7, e8, e9, e10, e12, e13, e14, e16, e17, e18, e19, e20, e21, e11, e2, e3, e15⟩, g⟩, -⟩ := V
  exact wl_gf hi hf e0 e19 hr
theorem rp_g20 {x : Nat} {ty : FieldType} {b : Bool} (V : rP h0 h fs0 bl L p q t n x0 wr so pd op am wi ei oc cn w pl ts) (hi : mj_ins m pc = some (.getfield x)) (hf : mj_fld m x = some (11, 20, ty, b)) (hr : wl_R nn d m (pc + 3) lv (wp_i ei :: st) h Q) : wl_R nn d m pc lv (.ref 138 :: st) h Q := by
  obtain ⟨⟨fs, e0, l, ⟨e4, e7, e8, e9, e10, e12, e13, e14, e16, e17, e18, e19, e20, e21, e11, e2, e3, e15⟩, g⟩, -⟩ := V
  exact wl_gf hi hf e0 e20 hr
theorem rp_g21 {x : Nat} {ty : FieldType} {b : Bool} (V : rP h0 h fs0 bl L p q t n x0 wr so pd op am wi ei oc cn w pl ts) (hi : mj_ins m pc = some (.getfield x)) (hf : mj_fld m x = some (11, 21, ty, b)) (hr : wl_R nn d m (pc + 3) lv (wp_i oc :: st) h Q) : wl_R nn d m pc lv (.ref 138 :: st) h Q := by
  obtain ⟨⟨fs, e0, l, ⟨e4, e7, e8, e9, e10, e12, e13, e14, e16, e17, e18, e19, e20, e21, e11, e2, e3, e15⟩, g⟩, -⟩ := V
  exact wl_gf hi hf e0 e21 hr
theorem rp_g11 {x : Nat} {ty : FieldType} {b : Bool} (V : rP h0 h fs0 bl L p q t n x0 wr so pd op am wi ei oc cn w pl ts) (hi : mj_ins m pc = some (.getfield x)) (hf : mj_fld m x = some (11, 11, ty, b)) (hr : wl_R nn d m (pc + 3) lv (.long (Int64.ofNat w) :: st) h Q) : wl_R nn d m pc lv (.ref 138 :: st) h Q := by
  obtain ⟨⟨fs, e0, l, ⟨e4, e7, e8, e9, e10, e12, e13, e14, e16, e17, e18, e19, e20, e21, e11, e2, e3, e15⟩, g⟩, -⟩ := V
  exact wl_gf hi hf e0 e11 hr
theorem rp_g2 {x : Nat} {ty : FieldType} {b : Bool} (V : rP h0 h fs0 bl L p q t n x0 wr so pd op am wi ei oc cn w pl ts) (hi : mj_ins m pc = some (.getfield x)) (hf : mj_fld m x = some (11, 2, ty, b)) (hr : wl_R nn d m (pc + 3) lv (.ref 141 :: st) h Q) : wl_R nn d m pc lv (.ref 138 :: st) h Q := by
  obtain ⟨⟨fs, e0, l, ⟨e4, e7, e8, e9, e10, e12, e13, e14, e16, e17, e18, e19, e20, e21, e11, e2, e3, e15⟩, g⟩, -⟩ := V
  exact wl_gf hi hf e0 e2 hr
theorem rp_g3 {x : Nat} {ty : FieldType} {b : Bool} (V : rP h0 h fs0 bl L p q t n x0 wr so pd op am wi ei oc cn w pl ts) (hi : mj_ins m pc = some (.getfield x)) (hf : mj_fld m x = some (11, 3, ty, b)) (hr : wl_R nn d m (pc + 3) lv (.ref 142 :: st) h Q) : wl_R nn d m pc lv (.ref 138 :: st) h Q := by
  obtain ⟨⟨fs, e0, l, ⟨e4, e7, e8, e9, e10, e12, e13, e14, e16, e17, e18, e19, e20, e21, e11, e2, e3, e15⟩, g⟩, -⟩ := V
  exact wl_gf hi hf e0 e3 hr
theorem rp_g15 {x : Nat} {ty : FieldType} {b : Bool} (V : rP h0 h fs0 bl L p q t n x0 wr so pd op am wi ei oc cn w pl ts) (hi : mj_ins m pc = some (.getfield x)) (hf : mj_fld m x = some (11, 15, ty, b)) (hr : wl_R nn d m (pc + 3) lv (.ref 143 :: st) h Q) : wl_R nn d m pc lv (.ref 138 :: st) h Q := by
  obtain ⟨⟨fs, e0, l, ⟨e4, e7, e8, e9, e10, e12, e13, e14, e16, e17, e18, e19, e20, e21, e11, e2, e3, e15⟩, g⟩, -⟩ := V
  exact wl_gf hi hf e0 e15 hr
theorem rp_p13 {x : Nat} {y : Int} (V : rP h0 h fs0 bl L p q t n x0 wr so pd op am wi ei oc cn w pl ts) (hi : mj_ins m pc = some (.putfield x)) (hf : mj_fld m x = some (11, 13, .int, true)) (hr : ∀ h, rP h0 h fs0 bl L p q t n x0 y so pd op am wi ei oc cn w pl ts → wl_R nn d m (pc + 3) lv st h Q) : wl_R nn d m pc lv (wp_i y :: .ref 138 :: st) h Q := by
  obtain ⟨⟨fs, e0, l, ⟨e4, e7, e8, e9, e10, e12, e13, e14, e16, e17, e18, e19, e20, e21, e11, e2, e3, e15⟩, g⟩, f1, f2, ⟨f3, f4⟩, f5⟩ := V
  refine wl_pf hi hf e0 (by decide) (by omega) rfl rfl (hr _ ⟨⟨fs.set 13 (wp_i y), List.getElem?_set_self (fd_lt e0), by rw [List.length_set]; exact l, ⟨(by rw [List.getElem?_set_ne (by decide)]; exact e4), (by rw [List.getElem?_set_ne (by decide)]; exact e7), (by rw [List.getElem?_set_ne (by decide)]; exact e8), (by rw [List.getElem?_set_ne (by decide)]; exact e9), (by rw [List.getElem?_set_ne (by decide)]; exact e10), (by rw [List.getElem?_set_ne (by decide)]; exact e12), List.getElem?_set_self (by omega), (by rw [List.getElem?_set_ne (by decide)]; exact e14), (by rw [List.getElem?_set_ne (by decide)]; exact e16), (by rw [List.getElem?_set_ne (by decide)]; exact e17), (by rw [List.getElem?_set_ne (by decide)]; exact e18), (by rw [List.getElem?_set_ne (by decide)]; exact e19), (by rw [List.getElem?_set_ne (by decide)]; exact e20), (by rw [List.getElem?_set_ne (by decide)]; exact e21), (by rw [List.getElem?_set_ne (by decide)]; exact e11), (by rw [List.getElem?_set_ne (by decide)]; exact e2), (by rw [List.getElem?_set_ne (by decide)]; exact e3), (by rw [List.getElem?_set_ne (by decide)]; exact e15)⟩, fun j hj => by rw [List.getElem?_set_ne (fun e => hj (by rw [← e]; decide))]; exact g j hj⟩, ?_, ?_, ⟨?_, f4⟩, fun a a1 a2 a3 => ?_⟩)
  · rw [List.getElem?_set_ne (by decide)]; exact f1
  · rw [List.getElem?_set_ne (by decide)]; exact f2
  · rw [List.getElem?_set_ne (by decide)]; exact f3
  · rw [List.getElem?_set_ne (Ne.symm a1)]; exact f5 a a1 a2 a3
theorem rp_p14 {x : Nat} {y : Int} (V : rP h0 h fs0 bl L p q t n x0 wr so pd op am wi ei oc cn w pl ts) (hi : mj_ins m pc = some (.putfield x)) (hf : mj_fld m x = some (11, 14, .int, true)) (hr : ∀ h, rP h0 h fs0 bl L p q t n x0 wr y pd op am wi ei oc cn w pl ts → wl_R nn d m (pc + 3) lv st h Q) : wl_R nn d m pc lv (wp_i y :: .ref 138 :: st) h Q := by
  obtain ⟨⟨fs, e0, l, ⟨e4, e7, e8, e9, e10, e12, e13, e14, e16, e17, e18, e19, e20, e21, e11, e2, e3, e15⟩, g⟩, f1, f2, ⟨f3, f4⟩, f5⟩ := V
  refine wl_pf hi hf e0 (by decide) (by omega) rfl rfl (hr _ ⟨⟨fs.set 14 (wp_i y), List.getElem?_set_self (fd_lt e0), by rw [List.length_set]; exact l, ⟨(by rw [List.getElem?_set_ne (by decide)]; exact e4), (by rw [List.getElem?_set_ne (by decide)]; exact e7), (by rw [List.getElem?_set_ne (by decide)]; exact e8), (by rw [List.getElem?_set_ne (by decide)]; exact e9), (by rw [List.getElem?_set_ne (by decide)]; exact e10), (by rw [List.getElem?_set_ne (by decide)]; exact e12), (by rw [List.getElem?_set_ne (by decide)]; exact e13), List.getElem?_set_self (by omega), (by rw [List.getElem?_set_ne (by decide)]; exact e16), (by rw [List.getElem?_set_ne (by decide)]; exact e17), (by rw [List.getElem?_set_ne (by decide)]; exact e18), (by rw [List.getElem?_set_ne (by decide)]; exact e19), (by rw [List.getElem?_set_ne (by decide)]; exact e20), (by rw [List.getElem?_set_ne (by decide)]; exact e21), (by rw [List.getElem?_set_ne (by decide)]; exact e11), (by rw [List.getElem?_set_ne (by decide)]; exact e2), (by rw [List.getElem?_set_ne (by decide)]; exact e3), (by rw [List.getElem?_set_ne (by decide)]; exact e15)⟩, fun j hj => by rw [List.getElem?_set_ne (fun e => hj (by rw [← e]; decide))]; exact g j hj⟩, ?_, ?_, ⟨?_, f4⟩, fun a a1 a2 a3 => ?_⟩)
  · rw [List.getElem?_set_ne (by decide)]; exact f1
  · rw [List.getElem?_set_ne (by decide)]; exact f2
  · rw [List.getElem?_set_ne (by decide)]; exact f3
  · rw [List.getElem?_set_ne (Ne.symm a1)]; exact f5 a a1 a2 a3
theorem rp_p16 {x : Nat} {y : Int} (V : rP h0 h fs0 bl L p q t n x0 wr so pd op am wi ei oc cn w pl ts) (hi : mj_ins m pc = some (.putfield x)) (hf : mj_fld m x = some (11, 16, .int, true)) (hr : ∀ h, rP h0 h fs0 bl L p q t n x0 wr so y op am wi ei oc cn w pl ts → wl_R nn d m (pc + 3) lv st h Q) : wl_R nn d m pc lv (wp_i y :: .ref 138 :: st) h Q := by
  obtain ⟨⟨fs, e0, l, ⟨e4, e7, e8, e9, e10, e12, e13, e14, e16, e17, e18, e19, e20, e21, e11, e2, e3, e15⟩, g⟩, f1, f2, ⟨f3, f4⟩, f5⟩ := V
  refine wl_pf hi hf e0 (by decide) (by omega) rfl rfl (hr _ ⟨⟨fs.set 16 (wp_i y), List.getElem?_set_self (fd_lt e0), by rw [List.length_set]; exact l, ⟨(by rw [List.getElem?_set_ne (by decide)]; exact e4), (by rw [List.getElem?_set_ne (by decide)]; exact e7), (by rw [List.getElem?_set_ne (by decide)]; exact e8), (by rw [List.getElem?_set_ne (by decide)]; exact e9), (by rw [List.getElem?_set_ne (by decide)]; exact e10), (by rw [List.getElem?_set_ne (by decide)]; exact e12), (by rw [List.getElem?_set_ne (by decide)]; exact e13), (by rw [List.getElem?_set_ne (by decide)]; exact e14), List.getElem?_set_self (by omega), (by rw [List.getElem?_set_ne (by decide)]; exact e17), (by rw [List.getElem?_set_ne (by decide)]; exact e18), (by rw [List.getElem?_set_ne (by decide)]; exact e19), (by rw [List.getElem?_set_ne (by decide)]; exact e20), (by rw [List.getElem?_set_ne (by decide)]; exact e21), (by rw [List.getElem?_set_ne (by decide)]; exact e11), (by rw [List.getElem?_set_ne (by decide)]; exact e2), (by rw [List.getElem?_set_ne (by decide)]; exact e3), (by rw [List.getElem?_set_ne (by decide)]; exact e15)⟩, fun j hj => by rw [List.getElem?_set_ne (fun e => hj (by rw [← e]; decide))]; exact g j hj⟩, ?_, ?_, ⟨?_, f4⟩, fun a a1 a2 a3 => ?_⟩)
  · rw [List.getElem?_set_ne (by decide)]; exact f1
  · rw [List.getElem?_set_ne (by decide)]; exact f2
  · rw [List.getElem?_set_ne (by decide)]; exact f3
  · rw [List.getElem?_set_ne (Ne.symm a1)]; exact f5 a a1 a2 a3
theorem rp_p17 {x : Nat} {y : Int} (V : rP h0 h fs0 bl L p q t n x0 wr so pd op am wi ei oc cn w pl ts) (hi : mj_ins m pc = some (.putfield x)) (hf : mj_fld m x = some (11, 17, .int, true)) (hr : ∀ h, rP h0 h fs0 bl L p q t n x0 wr so pd y am wi ei oc cn w pl ts → wl_R nn d m (pc + 3) lv st h Q) : wl_R nn d m pc lv (wp_i y :: .ref 138 :: st) h Q := by
  obtain ⟨⟨fs, e0, l, ⟨e4, e7, e8, e9, e10, e12, e13, e14, e16, e17, e18, e19, e20, e21, e11, e2, e3, e15⟩, g⟩, f1, f2, ⟨f3, f4⟩, f5⟩ := V
  refine wl_pf hi hf e0 (by decide) (by omega) rfl rfl (hr _ ⟨⟨fs.set 17 (wp_i y), List.getElem?_set_self (fd_lt e0), by rw [List.length_set]; exact l, ⟨(by rw [List.getElem?_set_ne (by decide)]; exact e4), (by rw [List.getElem?_set_ne (by decide)]; exact e7), (by rw [List.getElem?_set_ne (by decide)]; exact e8), (by rw [List.getElem?_set_ne (by decide)]; exact e9), (by rw [List.getElem?_set_ne (by decide)]; exact e10), (by rw [List.getElem?_set_ne (by decide)]; exact e12), (by rw [List.getElem?_set_ne (by decide)]; exact e13), (by rw [List.getElem?_set_ne (by decide)]; exact e14), (by rw [List.getElem?_set_ne (by decide)]; exact e16), List.getElem?_set_self (by omega), (by rw [List.getElem?_set_ne (by decide)]; exact e18), (by rw [List.getElem?_set_ne (by decide)]; exact e19), (by rw [List.getElem?_set_ne (by decide)]; exact e20), (by rw [List.getElem?_set_ne (by decide)]; exact e21), (by rw [List.getElem?_set_ne (by decide)]; exact e11), (by rw [List.getElem?_set_ne (by decide)]; exact e2), (by rw [List.getElem?_set_ne (by decide)]; exact e3), (by rw [List.getElem?_set_ne (by decide)]; exact e15)⟩, fun j hj => by rw [List.getElem?_set_ne (fun e => hj (by rw [← e]; decide))]; exact g j hj⟩, ?_, ?_, ⟨?_, f4⟩, fun a a1 a2 a3 => ?_⟩)
  · rw [List.getElem?_set_ne (by decide)]; exact f1
  · rw [List.getElem?_set_ne (by decide)]; exact f2
  · rw [List.getElem?_set_ne (by decide)]; exact f3
  · rw [List.getElem?_set_ne (Ne.symm a1)]; exact f5 a a1 a2 a3
theorem rp_p18 {x : Nat} {y : Int} (V : rP h0 h fs0 bl L p q t n x0 wr so pd op am wi ei oc cn w pl ts) (hi : mj_ins m pc = some (.putfield x)) (hf : mj_fld m x = some (11, 18, .int, true)) (hr : ∀ h, rP h0 h fs0 bl L p q t n x0 wr so pd op y wi ei oc cn w pl ts → wl_R nn d m (pc + 3) lv st h Q) : wl_R nn d m pc lv (wp_i y :: .ref 138 :: st) h Q := by
  obtain ⟨⟨fs, e0, l, ⟨e4, e7, e8, e9, e10, e12, e13, e14, e16, e17, e18, e19, e20, e21, e11, e2, e3, e15⟩, g⟩, f1, f2, ⟨f3, f4⟩, f5⟩ := V
  refine wl_pf hi hf e0 (by decide) (by omega) rfl rfl (hr _ ⟨⟨fs.set 18 (wp_i y), List.getElem?_set_self (fd_lt e0), by rw [List.length_set]; exact l, ⟨(by rw [List.getElem?_set_ne (by decide)]; exact e4), (by rw [List.getElem?_set_ne (by decide)]; exact e7), (by rw [List.getElem?_set_ne (by decide)]; exact e8), (by rw [List.getElem?_set_ne (by decide)]; exact e9), (by rw [List.getElem?_set_ne (by decide)]; exact e10), (by rw [List.getElem?_set_ne (by decide)]; exact e12), (by rw [List.getElem?_set_ne (by decide)]; exact e13), (by rw [List.getElem?_set_ne (by decide)]; exact e14), (by rw [List.getElem?_set_ne (by decide)]; exact e16), (by rw [List.getElem?_set_ne (by decide)]; exact e17), List.getElem?_set_self (by omega), (by rw [List.getElem?_set_ne (by decide)]; exact e19), (by rw [List.getElem?_set_ne (by decide)]; exact e20), (by rw [List.getElem?_set_ne (by decide)]; exact e21), (by rw [List.getElem?_set_ne (by decide)]; exact e11), (by rw [List.getElem?_set_ne (by decide)]; exact e2), (by rw [List.getElem?_set_ne (by decide)]; exact e3), (by rw [List.getElem?_set_ne (by decide)]; exact e15)⟩, fun j hj => by rw [List.getElem?_set_ne (fun e => hj (by rw [← e]; decide))]; exact g j hj⟩, ?_, ?_, ⟨?_, f4⟩, fun a a1 a2 a3 => ?_⟩)
  · rw [List.getElem?_set_ne (by decide)]; exact f1
  · rw [List.getElem?_set_ne (by decide)]; exact f2
  · rw [List.getElem?_set_ne (by decide)]; exact f3
  · rw [List.getElem?_set_ne (Ne.symm a1)]; exact f5 a a1 a2 a3
theorem rp_p19 {x : Nat} {y : Int} (hy : y = 0 ∨ y = 1) (V : rP h0 h fs0 bl L p q t n x0 wr so pd op am wi ei oc cn w pl ts) (hi : mj_ins m pc = some (.putfield x)) (hf : mj_fld m x = some (11, 19, .boolean, true)) (hr : ∀ h, rP h0 h fs0 bl L p q t n x0 wr so pd op am y ei oc cn w pl ts → wl_R nn d m (pc + 3) lv st h Q) : wl_R nn d m pc lv (wp_i y :: .ref 138 :: st) h Q := by
  obtain ⟨⟨fs, e0, l, ⟨e4, e7, e8, e9, e10, e12, e13, e14, e16, e17, e18, e19, e20, e21, e11, e2, e3, e15⟩, g⟩, f1, f2, ⟨f3, f4⟩, f5⟩ := V
  refine wl_pf hi hf e0 (by decide) (by omega) (pv_nb hy) (pv_fb hy) (hr _ ⟨⟨fs.set 19 (wp_i y), List.getElem?_set_self (fd_lt e0), by rw [List.length_set]; exact l, ⟨(by rw [List.getElem?_set_ne (by decide)]; exact e4), (by rw [List.getElem?_set_ne (by decide)]; exact e7), (by rw [List.getElem?_set_ne (by decide)]; exact e8), (by rw [List.getElem?_set_ne (by decide)]; exact e9), (by rw [List.getElem?_set_ne (by decide)]; exact e10), (by rw [List.getElem?_set_ne (by decide)]; exact e12), (by rw [List.getElem?_set_ne (by decide)]; exact e13), (by rw [List.getElem?_set_ne (by decide)]; exact e14), (by rw [List.getElem?_set_ne (by decide)]; exact e16), (by rw [List.getElem?_set_ne (by decide)]; exact e17), (by rw [List.getElem?_set_ne (by decide)]; exact e18), List.getElem?_set_self (by omega), (by rw [List.getElem?_set_ne (by decide)]; exact e20), (by rw [List.getElem?_set_ne (by decide)]; exact e21), (by rw [List.getElem?_set_ne (by decide)]; exact e11), (by rw [List.getElem?_set_ne (by decide)]; exact e2), (by rw [List.getElem?_set_ne (by decide)]; exact e3), (by rw [List.getElem?_set_ne (by decide)]; exact e15)⟩, fun j hj => by rw [List.getElem?_set_ne (fun e => hj (by rw [← e]; decide))]; exact g j hj⟩, ?_, ?_, ⟨?_, f4⟩, fun a a1 a2 a3 => ?_⟩)
  · rw [List.getElem?_set_ne (by decide)]; exact f1
  · rw [List.getElem?_set_ne (by decide)]; exact f2
  · rw [List.getElem?_set_ne (by decide)]; exact f3
  · rw [List.getElem?_set_ne (Ne.symm a1)]; exact f5 a a1 a2 a3
theorem rp_p20 {x : Nat} {y : Int} (hy : y = 0 ∨ y = 1) (V : rP h0 h fs0 bl L p q t n x0 wr so pd op am wi ei oc cn w pl ts) (hi : mj_ins m pc = some (.putfield x)) (hf : mj_fld m x = some (11, 20, .boolean, true)) (hr : ∀ h, rP h0 h fs0 bl L p q t n x0 wr so pd op am wi y oc cn w pl ts → wl_R nn d m (pc + 3) lv st h Q) : wl_R nn d m pc lv (wp_i y :: .ref 138 :: st) h Q := by
  obtain ⟨⟨fs, e0, l, ⟨e4, e7, e8, e9, e10, e12, e13, e14, e16, e17, e18, e19, e20, e21, e11, e2, e3, e15⟩, g⟩, f1, f2, ⟨f3, f4⟩, f5⟩ := V
  refine wl_pf hi hf e0 (by decide) (by omega) (pv_nb hy) (pv_fb hy) (hr _ ⟨⟨fs.set 20 (wp_i y), List.getElem?_set_self (fd_lt e0), by rw [List.length_set]; exact l, ⟨(by rw [List.getElem?_set_ne (by decide)]; exact e4), (by rw [List.getElem?_set_ne (by decide)]; exact e7), (by rw [List.getElem?_set_ne (by decide)]; exact e8), (by rw [List.getElem?_set_ne (by decide)]; exact e9), (by rw [List.getElem?_set_ne (by decide)]; exact e10), (by rw [List.getElem?_set_ne (by decide)]; exact e12), (by rw [List.getElem?_set_ne (by decide)]; exact e13), (by rw [List.getElem?_set_ne (by decide)]; exact e14), (by rw [List.getElem?_set_ne (by decide)]; exact e16), (by rw [List.getElem?_set_ne (by decide)]; exact e17), (by rw [List.getElem?_set_ne (by decide)]; exact e18), (by rw [List.getElem?_set_ne (by decide)]; exact e19), List.getElem?_set_self (by omega), (by rw [List.getElem?_set_ne (by decide)]; exact e21), (by rw [List.getElem?_set_ne (by decide)]; exact e11), (by rw [List.getElem?_set_ne (by decide)]; exact e2), (by rw [List.getElem?_set_ne (by decide)]; exact e3), (by rw [List.getElem?_set_ne (by decide)]; exact e15)⟩, fun j hj => by rw [List.getElem?_set_ne (fun e => hj (by rw [← e]; decide))]; exact g j hj⟩, ?_, ?_, ⟨?_, f4⟩, fun a a1 a2 a3 => ?_⟩)
  · rw [List.getElem?_set_ne (by decide)]; exact f1
  · rw [List.getElem?_set_ne (by decide)]; exact f2
  · rw [List.getElem?_set_ne (by decide)]; exact f3
  · rw [List.getElem?_set_ne (Ne.symm a1)]; exact f5 a a1 a2 a3
theorem rp_p21 {x : Nat} {y : Int} (V : rP h0 h fs0 bl L p q t n x0 wr so pd op am wi ei oc cn w pl ts) (hi : mj_ins m pc = some (.putfield x)) (hf : mj_fld m x = some (11, 21, .int, true)) (hr : ∀ h, rP h0 h fs0 bl L p q t n x0 wr so pd op am wi ei y cn w pl ts → wl_R nn d m (pc + 3) lv st h Q) : wl_R nn d m pc lv (wp_i y :: .ref 138 :: st) h Q := by
  obtain ⟨⟨fs, e0, l, ⟨e4, e7, e8, e9, e10, e12, e13, e14, e16, e17, e18, e19, e20, e21, e11, e2, e3, e15⟩, g⟩, f1, f2, ⟨f3, f4⟩, f5⟩ := V
  refine wl_pf hi hf e0 (by decide) (by omega) rfl rfl (hr _ ⟨⟨fs.set 21 (wp_i y), List.getElem?_set_self (fd_lt e0), by rw [List.length_set]; exact l, ⟨(by rw [List.getElem?_set_ne (by decide)]; exact e4), (by rw [List.getElem?_set_ne (by decide)]; exact e7), (by rw [List.getElem?_set_ne (by decide)]; exact e8), (by rw [List.getElem?_set_ne (by decide)]; exact e9), (by rw [List.getElem?_set_ne (by decide)]; exact e10), (by rw [List.getElem?_set_ne (by decide)]; exact e12), (by rw [List.getElem?_set_ne (by decide)]; exact e13), (by rw [List.getElem?_set_ne (by decide)]; exact e14), (by rw [List.getElem?_set_ne (by decide)]; exact e16), (by rw [List.getElem?_set_ne (by decide)]; exact e17), (by rw [List.getElem?_set_ne (by decide)]; exact e18), (by rw [List.getElem?_set_ne (by decide)]; exact e19), (by rw [List.getElem?_set_ne (by decide)]; exact e20), List.getElem?_set_self (by omega), (by rw [List.getElem?_set_ne (by decide)]; exact e11), (by rw [List.getElem?_set_ne (by decide)]; exact e2), (by rw [List.getElem?_set_ne (by decide)]; exact e3), (by rw [List.getElem?_set_ne (by decide)]; exact e15)⟩, fun j hj => by rw [List.getElem?_set_ne (fun e => hj (by rw [← e]; decide))]; exact g j hj⟩, ?_, ?_, ⟨?_, f4⟩, fun a a1 a2 a3 => ?_⟩)
  · rw [List.getElem?_set_ne (by decide)]; exact f1
  · rw [List.getElem?_set_ne (by decide)]; exact f2
  · rw [List.getElem?_set_ne (by decide)]; exact f3
  · rw [List.getElem?_set_ne (Ne.symm a1)]; exact f5 a a1 a2 a3
theorem rp_c (V : rP h0 h fs0 bl L p q t n x0 wr so pd op am wi ei oc cn w pl ts) : ∃ fs, h[138]? = some (11, fs) := by
  obtain ⟨⟨fs, e0, -⟩, -⟩ := V
  exact ⟨fs, e0⟩
/-- the pile -/
theorem rp_l {x : Int} (V : rP h0 h fs0 bl L p q t n x0 wr so pd op am wi ei oc cn w pl ts) (hx : wp_r x) (hi : mj_ins m pc = some .iaload) (hr : ∀ y, 0 ≤ x → x < pl.length → pl[x.toNat]? = some y → wl_R nn d m (pc + 1) lv (y :: st) h Q) : wl_R nn d m pc lv (wp_i x :: .ref 143 :: st) h Q := wl_al hi V.2.2.1 hx hr
theorem rp_s {x y : Int} (V : rP h0 h fs0 bl L p q t n x0 wr so pd op am wi ei oc cn w pl ts) (hx : wp_r x) (hi : mj_ins m pc = some .iastore) (hr : ∀ h, 0 ≤ x → x < pl.length → rP h0 h fs0 bl L p q t n x0 wr so pd op am wi ei oc cn w (pl.set x.toNat (wp_i y)) ts → wl_R nn d m (pc + 1) lv st h Q) : wl_R nn d m pc lv (wp_i y :: wp_i x :: .ref 143 :: st) h Q := by
  obtain ⟨⟨fs, e0, F⟩, f1, f2, ⟨f3, f4⟩, f5⟩ := V
  refine wl_as hi f2 hx (fun x1 x2 => hr _ x1 x2 ⟨⟨fs, ?_, F⟩, ?_, List.getElem?_set_self (fd_lt f2), ⟨?_, f4⟩, fun a a1 a2 a3 => ?_⟩)
  · rw [List.getElem?_set_ne (by decide)]; exact e0
  · rw [List.getElem?_set_ne (by decide)]; exact f1
  · rw [List.getElem?_set_ne (by decide)]; exact f3
  · rw [List.getElem?_set_ne (Ne.symm a3)]; exact f5 a a1 a2 a3
/-- the texts, but at the place of the text's count -/
theorem rp_t {x y : Int} (V : rP h0 h fs0 bl L p q t n x0 wr so pd op am wi ei oc cn w pl ts) (hx : wp_r x) (hne : x0 ≤ x ∧ ¬ x = x0) (hx0 : 0 ≤ x0) (hi : mj_ins m pc = some .iastore) (hr : ∀ h ts, rP h0 h fs0 bl L p q t n x0 wr so pd op am wi ei oc cn w pl ts → wl_R nn d m (pc + 1) lv st h Q) : wl_R nn d m pc lv (wp_i y :: wp_i x :: .ref 141 :: st) h Q := by
  obtain ⟨⟨fs, e0, F⟩, f1, f2, ⟨f3, f4⟩, f5⟩ := V
  refine wl_as hi f3 hx (fun x1 x2 => hr _ (ts.set x.toNat (wp_i y)) ⟨⟨fs, ?_, F⟩, ?_, ?_, ⟨List.getElem?_set_self (fd_lt f3), ?_⟩, fun a a1 a2 a3 => ?_⟩)
  · rw [List.getElem?_set_ne (by decide)]; exact e0
  · rw [List.getElem?_set_ne (by decide)]; exact f1
  · rw [List.getElem?_set_ne (by decide)]; exact f2
  · exact ⟨by rw [List.getElem?_set_ne (by omega)]; exact f4.1, fun j hj => by rw [List.getElem?_set_ne (by omega)]; exact f4.2 j hj⟩
  · rw [List.getElem?_set_ne (Ne.symm a2)]; exact f5 a a1 a2 a3
end WRP
theorem wr_em {nn d : Nat} {a b : Int} {h0 h : mj_H} {fs0 bl pl ts : List Value} {L p q t n x0 wr so pd op am wi ei oc cn : Int} {w : Nat} (V : rP h0 h fs0 bl L p q t n x0 wr so pd op am wi ei oc cn w pl ts) (hx0 : 0 ≤ x0 ∧ x0 ≤ 3000) (hwr : 0 ≤ wr ∧ wr ≤ 1000000) : wl_R nn d 203 0 [some (.ref 138), some (wp_i a), some (wp_i b)] [] h (fun v h1 => v = none ∧ ∃ ts, rP h0 h1 fs0 bl L p q t n x0 (wr + 1) so pd op am wi ei oc cn w pl ts) := by
  refine wl_s (pc' := 1) ji_203_0 rfl rfl rfl ?_
  refine rp_g2 V ji_203_1 jf_203_16 ?_
  refine wl_s (pc' := 5) ji_203_4 rfl rfl rfl ?_
  refine rp_g12 V ji_203_5 jf_203_134 ?_
  refine wl_bp ji_203_8 rfl ?_
  refine wl_iadd (x := x0) (y := 97) (z := x0 + 97) ji_203_10 (by omega) ?_
  refine wl_s (pc' := 12) ji_203_11 rfl rfl rfl ?_
  refine wl_s (pc' := 13) ji_203_12 rfl rfl rfl ?_
  refine rp_g13 V ji_203_13 jf_203_137 ?_
  refine wl_imul (x := 2) (y := wr) (z := 2 * wr) ji_203_16 (by omega) ?_
  refine wl_iadd (x := x0 + 97) (y := 2 * wr) (z := x0 + 97 + (2 * wr)) ji_203_17 (by omega) ?_
  refine wl_s (pc' := 19) ji_203_18 rfl rfl rfl ?_
  refine rp_t (x := x0 + 97 + (2 * wr)) (y := a) V (by omega) (by omega) (by omega) ji_203_19 (fun h ts V => ?_)
  refine wl_s (pc' := 21) ji_203_20 rfl rfl rfl ?_
  refine rp_g2 V ji_203_21 jf_203_16 ?_
  refine wl_s (pc' := 25) ji_203_24 rfl rfl rfl ?_
  refine rp_g12 V ji_203_25 jf_203_134 ?_
  refine wl_bp ji_203_28 rfl ?_
  refine wl_iadd (x := x0) (y := 97) (z := x0 + 97) ji_203_30 (by omega) ?_
  refine wl_s (pc' := 32) ji_203_31 rfl rfl rfl ?_
  refine wl_s (pc' := 33) ji_203_32 rfl rfl rfl ?_
  refine rp_g13 V ji_203_33 jf_203_137 ?_
  refine wl_imul (x := 2) (y := wr) (z := 2 * wr) ji_203_36 (by omega) ?_
  refine wl_iadd (x := x0 + 97) (y := 2 * wr) (z := x0 + 97 + (2 * wr)) ji_203_37 (by omega) ?_
  refine wl_s (pc' := 39) ji_203_38 rfl rfl rfl ?_
  refine wl_iadd (x := x0 + 97 + (2 * wr)) (y := 1) (z := x0 + 97 + (2 * wr) + 1) ji_203_39 (by omega) ?_
  refine wl_s (pc' := 41) ji_203_40 rfl rfl rfl ?_
  refine rp_t (x := x0 + 97 + (2 * wr) + 1) (y := b) V (by omega) (by omega) (by omega) ji_203_41 (fun h ts V => ?_)
  refine wl_s (pc' := 43) ji_203_42 rfl rfl rfl ?_
  refine wl_s (pc' := 44) ji_203_43 rfl rfl rfl ?_
  refine rp_g13 V ji_203_44 jf_203_137 ?_
  refine wl_s (pc' := 48) ji_203_47 rfl rfl rfl ?_
  refine wl_iadd (x := wr) (y := 1) (z := wr + 1) ji_203_48 (by omega) ?_
  refine rp_p13 (y := wr + 1) V ji_203_49 jf_203_137 (fun h V => ?_)
  exact wl_rv ji_203_52 jr_203 ⟨rfl, ts, V⟩
def pn (pl : List Value) : List Int → Prop
  | [] => True
  | c :: w => (pl[w.length]? = some (wp_i c) ∧ (0 ≤ c ∧ c ≤ 41)) ∧ pn pl w
theorem pn_set {ws : List Value} {v : Value} {j : Nat} : ∀ {w : List Int}, w.length ≤ j → pn ws w → pn (ws.set j v) w
  | [], _, _ => trivial
  | c :: w, h, e => by
    have h1 : w.length + 1 ≤ j := h
    refine ⟨⟨?_, e.1.2⟩, pn_set (by omega) e.2⟩
    rw [List.getElem?_set_ne (by omega)]
    exact e.1.1
def pop_ (c : Int) : Int := if c = 3 ∨ c = 20 then 1 else 0
/-- what settle leaves, and how many of those that open it takes -/
def stl (r : Int) : List Int → List Int
  | [] => []
  | c :: w => if r ≤ pr_rank c then stl r w else c :: w
def stn (r : Int) : List Int → Int
  | [] => 0
  | c :: w => if r ≤ pr_rank c then stn r w + pop_ c else 0
theorem wr_st {d : Nat} {h0 : mj_H} {fs0 bl pl : List Value} {L p q t n x0 so am wi ei oc cn r : Int} {w : Nat} (hx0 : 0 ≤ x0 ∧ x0 ≤ 3000) (hr : 1 ≤ r ∧ r ≤ 7) : ∀ (nn : Nat) (w1 : List Int) (h : mj_H) (wr op : Int) (ts : List Value), pn pl w1 → rP h0 h fs0 bl L p q t n x0 wr so (w1.length : Int) op am wi ei oc cn w pl ts → (0 ≤ wr ∧ wr + (w1.length : Int) ≤ 1000000 ∧ (w1.length : Int) ≤ 200) → wl_R nn (d + 1) 202 0 [some (.ref 138), some (wp_i r)] [] h (fun v h1 => v = none ∧ ∃ wr' ts', (wr ≤ wr' ∧ wr' ≤ wr + (w1.length : Int)) ∧ rP h0 h1 fs0 bl L p q t n x0 wr' so ((stl r w1).length : Int) (op - stn r w1) am wi ei oc cn w pl ts') := by
  intro nn
  induction nn with
  | zero => intro w1 h wr op ts e V hw; exact wl_0
  | succ nn ih =>
    intro w1 h wr op ts e V hw
    cases w1 with
    | nil =>
      refine wl_s (pc' := 1) ji_202_0 rfl rfl rfl ?_
      refine rp_g16 V ji_202_1 jf_202_147 ?_
      refine wl_if (t := 103) ji_202_4 rfl (x := 0) (by omega) (fun _ => wl_rv ji_202_103 jr_202 ⟨rfl, wr, ts, by simp, by show rP h0 h fs0 bl L p q t n x0 wr so 0 (op - 0) am wi ei oc cn w pl ts; rw [Int.sub_zero]; exact V⟩) (fun (c : ¬ ((0 : Int) ≤ 0)) => absurd (Int.le_refl _) c)
    | cons c w1 =>
      obtain ⟨⟨e1, e1b⟩, e2⟩ := e
      have hlc : ((c :: w1).length : Int) = (w1.length : Int) + 1 := rfl
      rw [hlc] at hw ⊢
      have V : rP h0 h fs0 bl L p q t n x0 wr so ((w1.length : Int) + 1) op am wi ei oc cn w pl ts := V
      have hrk : 0 ≤ pr_rank c ∧ pr_rank c ≤ 7 := by unfold pr_rank; repeat' split; all_goals omega
      refine wl_s1 (pc' := 1) ji_202_0 rfl rfl rfl ?_
      refine rp_g16 V ji_202_1 jf_202_147 ?_
      refine wl_if (t := 103) ji_202_4 rfl (by omega) (fun (hb1 : ((w1.length : Int) + 1 : Int) ≤ 0) => (by exfalso; omega)) (fun (hb1 : ¬ (((w1.length : Int) + 1 : Int) ≤ 0)) => ?_)
      refine wl_s (pc' := 8) ji_202_7 rfl rfl rfl ?_
      refine rp_g15 V ji_202_8 jf_202_29 ?_
      refine wl_s (pc' := 12) ji_202_11 rfl rfl rfl ?_
      refine rp_g16 V ji_202_12 jf_202_147 ?_
      refine wl_s (pc' := 16) ji_202_15 rfl rfl rfl ?_
      refine wl_isub (x := (w1.length : Int) + 1) (y := 1) (z := (w1.length : Int) + 1 - 1) ji_202_16 (by omega) ?_
      refine rp_l (x := (w1.length : Int) + 1 - 1) V (by omega) ji_202_17 (fun y y1 y2 y3 => ?_)
      rw [show ((w1.length : Int) + 1 - 1).toNat = w1.length by omega, e1] at y3
      cases y3
      refine wl_sc (d := d) (as := [wp_i c]) (rest := []) ji_202_18 jc_202_150 (Nat.le_of_ble_eq_true rfl) rfl (Nat.le_of_ble_eq_true rfl) rfl (by rw [jn_200]; rfl) (wp_wl (ws_rank (o := c) (by omega))) (fun v1 h1 R => ?_)
      obtain ⟨ee, rfl⟩ := R
      subst ee
      show wl_R _ (d + 1) 202 21 [some (.ref 138), some (wp_i r)] [wp_i (pr_rank c)] h1 _
      refine wl_s (pc' := 22) ji_202_21 rfl rfl rfl ?_
      refine wl_icmp (t := 103) ji_202_22 rfl (by omega) (by omega) (fun (hb2 : (pr_rank c : Int) < r) => ?_) (fun (hb2 : ¬ ((pr_rank c : Int) < r)) => ?_)
      · rw [show stl r (c :: w1) = c :: w1 from if_neg (by omega), show stn r (c :: w1) = 0 from if_neg (by omega), Int.sub_zero]
        exact wl_rv ji_202_103 jr_202 ⟨rfl, wr, ts, by omega, V⟩
      · refine wl_s (pc' := 26) ji_202_25 rfl rfl rfl ?_
        refine wl_s (pc' := 27) ji_202_26 rfl rfl rfl ?_
        refine rp_g16 V ji_202_27 jf_202_147 ?_
        refine wl_s (pc' := 31) ji_202_30 rfl rfl rfl ?_
        refine wl_isub (x := (w1.length : Int) + 1) (y := 1) (z := (w1.length : Int) + 1 - 1) ji_202_31 (by omega) ?_
        refine rp_p16 (y := (w1.length : Int) + 1 - 1) V ji_202_32 jf_202_147 (fun h V => ?_)
        refine wl_s (pc' := 36) ji_202_35 rfl rfl rfl ?_
        refine rp_g15 V ji_202_36 jf_202_29 ?_
        refine wl_s (pc' := 40) ji_202_39 rfl rfl rfl ?_
        refine rp_g16 V ji_202_40 jf_202_147 ?_
        refine rp_l (x := (w1.length : Int) + 1 - 1) V (by omega) ji_202_43 (fun y y1 y2 y3 => ?_)
        rw [show ((w1.length : Int) + 1 - 1).toNat = w1.length by omega, e1] at y3
        cases y3
        refine wl_bp ji_202_44 rfl ?_
        refine wl_icmp (t := 63) ji_202_46 rfl (by omega) (by omega) (fun (hb3 : (c : Int) = 16) => ?_) (fun (hb3 : ¬ ((c : Int) = 16)) => ?_)
        · refine wl_s (pc' := 64) ji_202_63 rfl rfl rfl ?_
          refine rp_g15 V ji_202_64 jf_202_29 ?_
          refine wl_s (pc' := 68) ji_202_67 rfl rfl rfl ?_
          refine rp_g16 V ji_202_68 jf_202_147 ?_
          refine rp_l (x := (w1.length : Int) + 1 - 1) V (by omega) ji_202_71 (fun y y1 y2 y3 => ?_)
          rw [show ((w1.length : Int) + 1 - 1).toNat = w1.length by omega, e1] at y3
          cases y3
          refine wl_s (pc' := 73) ji_202_72 rfl rfl rfl ?_
          refine wl_icmp (t := 90) ji_202_73 rfl (by omega) (by omega) (fun (hb4 : (c : Int) = 3) => ?_) (fun (hb4 : ¬ ((c : Int) = 3)) => ?_)
          · refine wl_s (pc' := 91) ji_202_90 rfl rfl rfl ?_
            refine wl_s (pc' := 92) ji_202_91 rfl rfl rfl ?_
            refine rp_g17 V ji_202_92 jf_202_157 ?_
            refine wl_s (pc' := 96) ji_202_95 rfl rfl rfl ?_
            refine wl_isub (x := op) (y := 1) (z := op - 1) ji_202_96 (by omega) ?_
            refine rp_p17 (y := op - 1) V ji_202_97 jf_202_157 (fun h V => ?_)
            refine wl_goto (t := 0) ji_202_100 rfl ?_
            rw [show stl r (c :: w1) = stl r w1 from if_pos (by omega), show stn r (c :: w1) = stn r w1 + pop_ c from if_pos (by omega)]
            have hpc : pop_ c = 1 := if_pos (by omega)
            rw [show (w1.length : Int) + 1 - 1 = (w1.length : Int) by omega] at V
            refine wl_mono (ih w1 _ (wr) (op - 1) _ e2 V (by omega)) ?_
            rintro v9 h9 ⟨rfl, wr9, ts9, hw9, V9⟩
            exact ⟨rfl, wr9, ts9, by omega, by rw [show op - (stn r w1 + pop_ c) = (op - 1) - stn r w1 by omega]; exact V9⟩
          · refine wl_s (pc' := 77) ji_202_76 rfl rfl rfl ?_
            refine rp_g15 V ji_202_77 jf_202_29 ?_
            refine wl_s (pc' := 81) ji_202_80 rfl rfl rfl ?_
            refine rp_g16 V ji_202_81 jf_202_147 ?_
            refine rp_l (x := (w1.length : Int) + 1 - 1) V (by omega) ji_202_84 (fun y y1 y2 y3 => ?_)
            rw [show ((w1.length : Int) + 1 - 1).toNat = w1.length by omega, e1] at y3
            cases y3
            refine wl_bp ji_202_85 rfl ?_
            refine wl_icmp (t := 0) ji_202_87 rfl (by omega) (by omega) (fun (hb5 : ¬ (c : Int) = 20) => ?_) (fun (hb5 : ¬ (¬ (c : Int) = 20)) => ?_)
            · rw [show stl r (c :: w1) = stl r w1 from if_pos (by omega), show stn r (c :: w1) = stn r w1 + pop_ c from if_pos (by omega)]
              have hpc : pop_ c = 0 := if_neg (by omega)
              rw [show (w1.length : Int) + 1 - 1 = (w1.length : Int) by omega] at V
              refine wl_mono (ih w1 _ (wr) (op) _ e2 V (by omega)) ?_
              rintro v9 h9 ⟨rfl, wr9, ts9, hw9, V9⟩
              exact ⟨rfl, wr9, ts9, by omega, by rw [show op - (stn r w1 + pop_ c) = op - stn r w1 by omega]; exact V9⟩
            · refine wl_s (pc' := 91) ji_202_90 rfl rfl rfl ?_
              refine wl_s (pc' := 92) ji_202_91 rfl rfl rfl ?_
              refine rp_g17 V ji_202_92 jf_202_157 ?_
              refine wl_s (pc' := 96) ji_202_95 rfl rfl rfl ?_
              refine wl_isub (x := op) (y := 1) (z := op - 1) ji_202_96 (by omega) ?_
              refine rp_p17 (y := op - 1) V ji_202_97 jf_202_157 (fun h V => ?_)
              refine wl_goto (t := 0) ji_202_100 rfl ?_
              rw [show stl r (c :: w1) = stl r w1 from if_pos (by omega), show stn r (c :: w1) = stn r w1 + pop_ c from if_pos (by omega)]
              have hpc : pop_ c = 1 := if_pos (by omega)
              rw [show (w1.length : Int) + 1 - 1 = (w1.length : Int) by omega] at V
              refine wl_mono (ih w1 _ (wr) (op - 1) _ e2 V (by omega)) ?_
              rintro v9 h9 ⟨rfl, wr9, ts9, hw9, V9⟩
              exact ⟨rfl, wr9, ts9, by omega, by rw [show op - (stn r w1 + pop_ c) = (op - 1) - stn r w1 by omega]; exact V9⟩
        · refine wl_s (pc' := 50) ji_202_49 rfl rfl rfl ?_
          refine wl_s (pc' := 51) ji_202_50 rfl rfl rfl ?_
          refine rp_g15 V ji_202_51 jf_202_29 ?_
          refine wl_s (pc' := 55) ji_202_54 rfl rfl rfl ?_
          refine rp_g16 V ji_202_55 jf_202_147 ?_
          refine rp_l (x := (w1.length : Int) + 1 - 1) V (by omega) ji_202_58 (fun y y1 y2 y3 => ?_)
          rw [show ((w1.length : Int) + 1 - 1).toNat = w1.length by omega, e1] at y3
          cases y3
          refine wl_s (pc' := 60) ji_202_59 rfl rfl rfl ?_
          obtain ⟨cs, hcs⟩ := rp_c V
          refine wl_vc (d := d) (as := [.ref 138, wp_i c, wp_i 0]) (rest := []) ji_202_60 jc_202_153 rfl hcs jk_203.symm (Nat.le_of_ble_eq_true rfl) rfl (by rw [jn_203]; rfl) (wr_em V hx0 (by omega)) (fun v1 h2 R => ?_)
          obtain ⟨rfl, ts, V⟩ := R
          show wl_R _ (d + 1) 202 63 [some (.ref 138), some (wp_i r)] [] h2 _
          refine wl_s (pc' := 64) ji_202_63 rfl rfl rfl ?_
          refine rp_g15 V ji_202_64 jf_202_29 ?_
          refine wl_s (pc' := 68) ji_202_67 rfl rfl rfl ?_
          refine rp_g16 V ji_202_68 jf_202_147 ?_
          refine rp_l (x := (w1.length : Int) + 1 - 1) V (by omega) ji_202_71 (fun y y1 y2 y3 => ?_)
          rw [show ((w1.length : Int) + 1 - 1).toNat = w1.length by omega, e1] at y3
          cases y3
          refine wl_s (pc' := 73) ji_202_72 rfl rfl rfl ?_
          refine wl_icmp (t := 90) ji_202_73 rfl (by omega) (by omega) (fun (hb6 : (c : Int) = 3) => ?_) (fun (hb6 : ¬ ((c : Int) = 3)) => ?_)
          · refine wl_s (pc' := 91) ji_202_90 rfl rfl rfl ?_
            refine wl_s (pc' := 92) ji_202_91 rfl rfl rfl ?_
            refine rp_g17 V ji_202_92 jf_202_157 ?_
            refine wl_s (pc' := 96) ji_202_95 rfl rfl rfl ?_
            refine wl_isub (x := op) (y := 1) (z := op - 1) ji_202_96 (by omega) ?_
            refine rp_p17 (y := op - 1) V ji_202_97 jf_202_157 (fun h V => ?_)
            refine wl_goto (t := 0) ji_202_100 rfl ?_
            rw [show stl r (c :: w1) = stl r w1 from if_pos (by omega), show stn r (c :: w1) = stn r w1 + pop_ c from if_pos (by omega)]
            have hpc : pop_ c = 1 := if_pos (by omega)
            rw [show (w1.length : Int) + 1 - 1 = (w1.length : Int) by omega] at V
            refine wl_mono (ih w1 _ (wr + 1) (op - 1) _ e2 V (by omega)) ?_
            rintro v9 h9 ⟨rfl, wr9, ts9, hw9, V9⟩
            exact ⟨rfl, wr9, ts9, by omega, by rw [show op - (stn r w1 + pop_ c) = (op - 1) - stn r w1 by omega]; exact V9⟩
          · refine wl_s (pc' := 77) ji_202_76 rfl rfl rfl ?_
            refine rp_g15 V ji_202_77 jf_202_29 ?_
            refine wl_s (pc' := 81) ji_202_80 rfl rfl rfl ?_
            refine rp_g16 V ji_202_81 jf_202_147 ?_
            refine rp_l (x := (w1.length : Int) + 1 - 1) V (by omega) ji_202_84 (fun y y1 y2 y3 => ?_)
            rw [show ((w1.length : Int) + 1 - 1).toNat = w1.length by omega, e1] at y3
            cases y3
            refine wl_bp ji_202_85 rfl ?_
            refine wl_icmp (t := 0) ji_202_87 rfl (by omega) (by omega) (fun (hb7 : ¬ (c : Int) = 20) => ?_) (fun (hb7 : ¬ (¬ (c : Int) = 20)) => ?_)
            · rw [show stl r (c :: w1) = stl r w1 from if_pos (by omega), show stn r (c :: w1) = stn r w1 + pop_ c from if_pos (by omega)]
              have hpc : pop_ c = 0 := if_neg (by omega)
              rw [show (w1.length : Int) + 1 - 1 = (w1.length : Int) by omega] at V
              refine wl_mono (ih w1 _ (wr + 1) (op) _ e2 V (by omega)) ?_
              rintro v9 h9 ⟨rfl, wr9, ts9, hw9, V9⟩
              exact ⟨rfl, wr9, ts9, by omega, by rw [show op - (stn r w1 + pop_ c) = op - stn r w1 by omega]; exact V9⟩
            · refine wl_s (pc' := 91) ji_202_90 rfl rfl rfl ?_
              refine wl_s (pc' := 92) ji_202_91 rfl rfl rfl ?_
              refine rp_g17 V ji_202_92 jf_202_157 ?_
              refine wl_s (pc' := 96) ji_202_95 rfl rfl rfl ?_
              refine wl_isub (x := op) (y := 1) (z := op - 1) ji_202_96 (by omega) ?_
              refine rp_p17 (y := op - 1) V ji_202_97 jf_202_157 (fun h V => ?_)
              refine wl_goto (t := 0) ji_202_100 rfl ?_
              rw [show stl r (c :: w1) = stl r w1 from if_pos (by omega), show stn r (c :: w1) = stn r w1 + pop_ c from if_pos (by omega)]
              have hpc : pop_ c = 1 := if_pos (by omega)
              rw [show (w1.length : Int) + 1 - 1 = (w1.length : Int) by omega] at V
              refine wl_mono (ih w1 _ (wr + 1) (op - 1) _ e2 V (by omega)) ?_
              rintro v9 h9 ⟨rfl, wr9, ts9, hw9, V9⟩
              exact ⟨rfl, wr9, ts9, by omega, by rw [show op - (stn r w1 + pop_ c) = (op - 1) - stn r w1 by omega]; exact V9⟩
