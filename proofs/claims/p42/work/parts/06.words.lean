/-! the words that the tables speak of, and that they are the claim's -/
theorem mj_gr {big : List Cond} (ws : List Cond) (ps : List Nat) (hp : ws = ps.filterMap (fun i => big[i]?)) (h : ws.all goodWord = true) : GoodIn big ws := by
  intro w hw
  have h1 := List.all_eq_true.mp h w hw
  rw [hp] at hw
  obtain ⟨i, -, hi⟩ := List.mem_filterMap.mp hw
  exact ⟨List.mem_of_getElem? hi, good_of_word h1⟩
theorem mj_ga {big a b : List Cond} (ha : GoodIn big a) (hb : GoodIn big b) : GoodIn big (a ++ b) := fun w h => (List.mem_append.mp h).elim (ha w) (hb w)
def mj_y (m : Nat) : MethodName := match mj_ms[m]? with
  | some (y, _, _, _, _, _) => y
  | none => ⟨"", "", ""⟩
def mj_own (o : Nat) : String := mj_on.getD o ""
def mj_nm (c : Nat) : String := mj_cn.getD c ""
def mj_T (c : Nat) : u_T := fun k => match mj_fe c k with
  | some (a, b, d, f, _) => (a, b, d, f)
  | none => ("", "", "", false)
def mj_ty (c k : Nat) : FieldType := match mj_fe c k with
  | some (_, _, _, _, t) => t
  | none => .int
def mj_N (c : Nat) : Nat := (mj_cf.getD c []).length
def mj_cl : List vw_C := (List.range mj_nc).map fun c => (mj_nm c, mj_T c, mj_N c)
def mj_cw : List Cond := (mj_ms.drop 1).map fun e => .code e.1 e.2.1 e.2.2.1 e.2.2.2.1
def mj_lw : List Cond := (List.range mj_nc).flatMap fun c => u_ws (mj_nm c) (mj_T c) (mj_N c)
def mj_fw : List Cond := mj_ft.map fun e => .fieldLink (mj_own e.1) e.2.1 (mj_nm e.2.2.1) (mj_T e.2.2.1 e.2.2.2).2.1 (mj_T e.2.2.1 e.2.2.2).2.2.1
def mj_s0 (k : Nat) : String × String × String := mj_sl0.getD (k - 1) ("", "", "")
def mj_zw : List Cond := mj_st0.map fun e => .fieldLink (mj_own e.1) e.2.1 (mj_s0 e.2.2).1 (mj_s0 e.2.2).2.1 (mj_s0 e.2.2).2.2
def mj_ySL : MethodName := ⟨"java/lang/String", "length", "()I"⟩
def mj_ySC : MethodName := ⟨"java/lang/String", "charAt", "(I)C"⟩
def mj_cwd (e : Nat × Nat × Nat × Nat × Nat) : List Cond := match e with
  | (o, x, 0, _, _) => [.methodLink (mj_own o) x objectInit, .instanceMethod objectInit, .code objectInit ⟨#[0xb1]⟩ 1 none]
  | (o, x, 1, c, _) => [.methodLink (mj_own o) x (mj_y c), .static (mj_y c), .initialized (mj_y c).cls]
  | (o, x, 2, c, _) => [.methodLink (mj_own o) x (mj_y c), .instanceMethod (mj_y c), .selects (mj_y c).cls (mj_y c) (mj_y c), .initialized (mj_y c).cls]
  | (o, x, 3, c, _) => [.methodLink (mj_own o) x (mj_y c), .instanceMethod (mj_y c), .initialized (mj_y c).cls]
  | (_, _, 4, c, _) => [.instanceMethod (mj_y c), .initialized (mj_y c).cls]
  | (o, x, 10, _, _) => [.methodLink (mj_own o) x Lib.Math.max.name, .static Lib.Math.max.name, .initialized "java/lang/Math", .code Lib.Math.max.name Lib.Math.max.code 2 (some .int)]
  | (o, x, 11, _, _) => [.methodLink (mj_own o) x Lib.Math.min.name, .static Lib.Math.min.name, .initialized "java/lang/Math", .code Lib.Math.min.name Lib.Math.min.code 2 (some .int)]
  | (o, x, 12, _, _) => [.methodLink (mj_own o) x Lib.Math.abs.name, .static Lib.Math.abs.name, .initialized "java/lang/Math", .code Lib.Math.abs.name Lib.Math.abs.code 1 (some .int)]
  | (o, x, 13, _, _) => [.methodLink (mj_own o) x Lib.MathLoose.max_long.x, .static Lib.MathLoose.max_long.x, .initialized "java/lang/Math", .code Lib.MathLoose.max_long.x Lib.MathLoose.max_long.code 4 (some .long)]
  | (o, x, 14, _, _) => [.methodLink (mj_own o) x Lib.MathLoose.min_long.x, .static Lib.MathLoose.min_long.x, .initialized "java/lang/Math", .code Lib.MathLoose.min_long.x Lib.MathLoose.min_long.code 4 (some .long)]
  | (o, x, 20, _, _) => [.methodLink (mj_own o) x arraycopyName, .native arraycopyName, .static arraycopyName, .initialized "java/lang/System"]
  | (o, x, 30, _, _) => [.methodLink (mj_own o) x mj_ySL, .instanceMethod mj_ySL, .selects mj_ySL.cls mj_ySL mj_ySL, .initialized mj_ySL.cls]
  | (o, x, 31, _, _) => [.methodLink (mj_own o) x mj_ySC, .instanceMethod mj_ySC, .selects mj_ySC.cls mj_ySC mj_ySC, .initialized mj_ySC.cls]
  | _ => []
def mj_mw : List Cond := mj_ct.flatMap mj_cwd
def mj_nww : List Cond := mj_nt.flatMap fun e => [.classLink (mj_own e.1) e.2.1 (mj_nm e.2.2), .instantiable (mj_nm e.2.2) (mj_N e.2.2), .initialized (mj_nm e.2.2)]
def mj_kw : List Cond := mj_kt.filterMap fun e => match e.2.2 with
  | .int v => some (.constant (mj_own e.1) e.2.1 v)
  | .long v => some (.constantLong (mj_own e.1) e.2.1 v)
  | _ => none
def mj_aw : List Cond := [.arrayClass .int, .arrayClass .boolean, .arrayClass .long]
def mj_jw : List Cond := [126, 127, 128, 557, 558, 559, 560, 561, 562, 563, 564, 567, 568, 569, 570, 571, 572, 573, 574, 575, 576, 577, 578, 579, 580, 582, 583, 584, 585, 586, 589, 592, 596, 1903, 1904].filterMap (fun i => lw_tbl[i]?)
theorem mj_gch {big L : List Cond} {B K : Nat} (hB : 0 < B) (hL : L.length ≤ B * K) (h : ∀ k, k < K → GoodIn big ((L.drop (B * k)).take B)) : GoodIn big L := by
  intro w hw
  obtain ⟨m, hx⟩ := List.mem_iff_getElem?.mp hw
  have hm : m < L.length := (List.getElem?_eq_some_iff.mp hx).1
  have hk : m / B < K := Nat.div_lt_of_lt_mul (by omega)
  have hd := Nat.div_add_mod m B
  have hlt := Nat.mod_lt m hB
  refine h _ hk w (List.mem_of_getElem? (i := m % B) ?_)
  rw [List.getElem?_take_of_lt hlt, List.getElem?_drop, hd]
  exact hx
