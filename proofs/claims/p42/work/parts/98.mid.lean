/-! the reference's reader: values and what stands between them -/
theorem pv_ext {h0 h1 : mj_H} {a P T : Nat} {φ φ1 : Nat → Int} {pl ts : List Value} (V : pv h0 h1 a P T φ1 pl ts) (h : ∀ k, k < 31 → φ1 k = φ k) (h9 : ∀ k, 31 ≤ k → φ k = 0) : pv h0 h1 a P T φ pl ts := by
  have e : φ1 = φ := by
    funext k
    by_cases hk : k < 31
    · exact h k hk
    · rw [h9 k (by omega)]
      obtain ⟨hH, -, -, ta, -, -, fs, f1, -, -, f4, -⟩ := V
      obtain ⟨-, vs, c1, c2, -⟩ := hH a 63 sx_y63 ta rfl
      have c1 : h1[a]? = some (11, vs) := c1
      rw [f1] at c1
      cases c1
      have c2 : fs.length = 31 := c2
      rw [f4 k]
      unfold sx_el
      rw [List.getElem?_eq_none (by omega)]
  rw [← e]
  exact V
theorem pv_z {h0 h : mj_H} {a P T : Nat} {φ : Nat → Int} {pl ts : List Value} (V : pv h0 h a P T φ pl ts) : ∀ k, 31 ≤ k → φ k = 0 := by
  intro k hk
  obtain ⟨hH, -, -, ta, -, -, fs, f1, -, -, f4, -⟩ := V
  obtain ⟨-, vs, c1, c2, -⟩ := hH a 63 sx_y63 ta rfl
  have c1 : h[a]? = some (11, vs) := c1
  rw [f1] at c1
  cases c1
  have c2 : fs.length = 31 := c2
  rw [f4 k]
  unfold sx_el
  rw [List.getElem?_eq_none (by omega)]
/-- a call by contract that writes nothing -/
theorem pv_K0 {d : Nat} {h0 h : mj_H} {a P T : Nat} {φ : Nat → Int} {pl ts : List Value} (V : pv h0 h a P T φ pl ts) {c : Nat} {K : sx_K} (hM : sx_M sx_PP d c K) {vs : List Value} {lv0 : mj_L} (ha : sx_ag sx_tau K.1 vs) (hd : sx_lev K vs ≤ d) (hn : mj_ent (mj_nl c) vs = some lv0) (hm : K.2.2.2 = []) : wp_R d c 0 lv0 [] h (fun v h1 => sx_an sx_tau K.2.1 v ∧ pv h0 h1 a P T φ pl ts) := by
  have z := pv_z V
  refine wp_mono (pv_K V hM ha hd (by rw [hm]; rfl) hn (by rw [hm]; intro k hk; cases hk) (by rw [hm]; exact ⟨by decide, by decide, by decide, by decide⟩)) ?_
  rintro v h1 ⟨e1, φ1, e2, e3⟩
  refine ⟨e1, pv_ext e2 (fun k hk => e3 k hk (by rw [hm]; exact List.not_mem_nil)) z⟩
/-- bounds by bytes read -/
def tkb (φ : Nat → Int) : Prop := φ 13 + φ 16 ≤ φ 7 ∧ (¬ φ 9 = 0 → φ 13 + φ 16 + 1 ≤ φ 7)
def adv (φ φ' : Nat → Int) : Prop := φ 7 ≤ φ' 7 ∧ (¬ φ' 9 = 0 → φ 7 + 1 ≤ φ' 7)
def fq (φ φ' : Nat → Int) : Prop := φ' 4 = φ 4 ∧ φ' 12 = φ 12 ∧ φ' 14 = φ 14 ∧ φ' 20 = φ 20 ∧ φ' 21 = φ 21
/-- what is at hand, by what the reader waits for -/
def pm (φ : Nat → Int) (l : List Int) (n t : Nat) : Prop := (φ 20 = 0 → ∀ x ∈ l, x < 10 ∨ x = 40) ∧ ((φ 19 = 0 ∧ po_A l ∧ n = po_n (φ 18).toNat l ∧ t = po_t l) ∨ (φ 19 = 1 ∧ po_A l ∧ n = po_n (φ 18).toNat l + 1 ∧ t = po_t l) ∨ (φ 19 = 1 ∧ φ 20 = 1 ∧ ∃ r, l = 16 :: r ∧ po_L r ∧ n = 0 ∧ t = po_t r + 1))
/-- ends of a step: a fault, or on, or nothing done -/
def pE (h0 : mj_H) (a P T : Nat) (t0 : List Value) (s c0 : Nat) (φ : Nat → Int) (h1 : mj_H) : Prop := ∃ φ' pl' ts' l' n' t', pv h0 h1 a P T φ' pl' ts' ∧ ps t0 φ' pl' ts' s c0 l' n' t' ∧ fq φ φ' ∧ φ' 13 + φ' 16 ≤ φ' 7 ∧ (¬ φ' 9 = 0 → φ' 13 + 1 ≤ φ' 7) ∧ φ 7 ≤ φ' 7
def pG (h0 : mj_H) (a P T : Nat) (t0 : List Value) (s c0 : Nat) (φ : Nat → Int) (h1 : mj_H) : Prop := ∃ φ' pl' ts' l' n' t', pv h0 h1 a P T φ' pl' ts' ∧ ps t0 φ' pl' ts' s c0 l' n' t' ∧ fq φ φ' ∧ tkb φ' ∧ adv φ φ' ∧ pm φ' l' n' t'
/-- how high the pile is -/
theorem ps_top {t0 pl ts : List Value} {φ : Nat → Int} {s c0 n t : Nat} {l : List Int} (hp : ps t0 φ pl ts s c0 l n t) (hm : pm φ l n t) (hb : φ 13 + φ 16 ≤ 300) (ho : φ 17 ≤ 8) : φ 16 ≤ 154 := by
  obtain ⟨w, p, hw, h16, h12, hs, hc, hj, hwe, hpp, h17, hfr⟩ := hp
  have hlen : l.length = p := by rw [← hpp]; exact pp_len p
  have hle := we_le hwe
  dsimp only at hle
  rcases hm.2 with ⟨-, hA, hn, ht⟩ | ⟨-, hA, hn, ht⟩ | ⟨-, -, r, hl, hL, hn, ht⟩
  · have := po_A_len (am := (φ 18).toNat) hA
    omega
  · have := po_A_len (am := (φ 18).toNat) hA
    omega
  · subst hl
    have := po_L_len hL
    unfold po_o at h17
    rw [if_neg (by omega)] at h17
    rw [List.length_cons] at hlen
    omega
theorem po_L_lt : ∀ {l : List Int}, po_L l → ∀ x ∈ l, 20 ≤ x ∧ x ≤ 22
  | [], _, x, hx => by cases hx
  | y :: l, h, x, hx => by
    rcases List.mem_cons.mp hx with e | e
    · rw [e]
      exact h.1
    · exact po_L_lt h.2 x e
theorem on_n : ∀ {l : List Int}, on l = -1 → ∀ x ∈ l, x < 40
  | [], _, x, hx => by cases hx
  | y :: l, h, x, hx => by
    unfold on at h
    split at h
    · omega
    · rcases List.mem_cons.mp hx with e | e
      · omega
      · exact on_n h x e
theorem on_o : ∀ {l : List Int} {o : Int}, on l = o → 40 ≤ o → ∃ k r, l.drop k = o :: r ∧ ∀ j y, j < k → l[j]? = some y → y < 40
  | [], o, h, ho => by
    unfold on at h
    omega
  | x :: l, o, h, ho => by
    unfold on at h
    split at h
    · subst h
      exact ⟨0, l, rfl, fun j y hj => by omega⟩
    · obtain ⟨k, r, e1, e2⟩ := on_o h ho
      refine ⟨k + 1, r, by rw [List.drop_succ_cons]; exact e1, fun j y hj hy => ?_⟩
      cases j with
      | zero =>
        cases hy
        omega
      | succ j => exact e2 j y (by omega) hy
theorem ic_0 : ∀ {l : List Int}, po_A l → (∀ x ∈ l, x < 40) → ic l = 0 → ∀ x ∈ l, ¬ (10 ≤ x ∧ x ≤ 15)
  | [], _, _, _, x, hx => by cases hx
  | y :: l, hA, h40, h, x, hx => by
    unfold ic at h
    rcases hA with ⟨h1, h2⟩ | ⟨h1, h2⟩
    · have := h40 y List.mem_cons_self
      have hr := rk_3 (x := y) (by omega)
      rw [if_pos (by omega)] at h
      rcases List.mem_cons.mp hx with e | e
      · omega
      · exact ic_0 h2 (fun z hz => h40 z (List.mem_cons_of_mem _ hz)) h x e
    · by_cases hc : 10 ≤ y ∧ y ≤ 15
      · rw [rk_10 (by omega)] at h
        rw [if_neg (by omega), if_pos rfl] at h
        cases h
      · rcases List.mem_cons.mp hx with e | e
        · rw [e]
          exact hc
        · have := po_L_lt h2 x e
          omega
theorem ic_1 : ∀ {l : List Int}, po_A l → (∀ x ∈ l, x < 40) → ic l = 1 → ∃ k x r, l.drop k = x :: r ∧ 10 ≤ x ∧ x ≤ 15 ∧ ∀ j y, j < k → l[j]? = some y → 3 ≤ y ∧ y ≤ 7
  | [], _, _, h => by
    unfold ic at h
    cases h
  | y :: l, hA, h40, h => by
    unfold ic at h
    have h4 := h40 y List.mem_cons_self
    rcases hA with ⟨h1, h2⟩ | ⟨h1, h2⟩
    · have hr := rk_3 (x := y) (by omega)
      rw [if_pos (by omega)] at h
      obtain ⟨k, x, r, e1, e2, e3, e4⟩ := ic_1 h2 (fun z hz => h40 z (List.mem_cons_of_mem _ hz)) h
      refine ⟨k + 1, x, r, by rw [List.drop_succ_cons]; exact e1, e2, e3, fun j z hj hz => ?_⟩
      cases j with
      | zero =>
        cases hz
        omega
      | succ j => exact e4 j z (by omega) hz
    · by_cases hc : 10 ≤ y ∧ y ≤ 15
      · exact ⟨0, y, l, rfl, hc.1, hc.2, fun j z hj => by omega⟩
      · have hr := rk_L (x := y) (by omega)
        rw [if_neg (by omega), if_neg (by omega)] at h
        cases h
theorem po_A_L {l : List Int} (hA : po_A l) (h40 : ∀ x ∈ l, x < 40) (hc : ∀ x ∈ l, ¬ (10 ≤ x ∧ x ≤ 15)) (ht : ∀ x r, l = x :: r → ¬ (3 ≤ x ∧ x ≤ 7)) : po_L l := by
  cases l with
  | nil => trivial
  | cons x r =>
    have h1 := h40 x List.mem_cons_self
    have h2 := hc x List.mem_cons_self
    have h3 := ht x r rfl
    rcases hA with ⟨q, -⟩ | ⟨q, q2⟩
    · omega
    · exact ⟨by omega, q2⟩
theorem po_A_t {x : Int} {r : List Int} (hA : po_A (x :: r)) (hx : 20 ≤ x ∧ x ≤ 22) : po_L (x :: r) := by
  rcases hA with ⟨q, -⟩ | ⟨-, q2⟩
  · omega
  · exact ⟨hx, q2⟩
theorem rk_i {x : Int} (h : 1 ≤ pr_rank x ∧ pr_rank x ≤ 3) : 20 ≤ x ∧ x ≤ 22 := by
  unfold pr_rank at h
  split at h
  · omega
  split at h
  · omega
  split at h
  · omega
  split at h
  · omega
  split at h
  · omega
  split at h
  · omega
  split at h <;> omega
theorem ps_fr {t0 pl ts : List Value} {φ φ' : Nat → Int} {s c0 n t : Nat} {l : List Int} (hp : ps t0 φ pl ts s c0 l n t) (h12 : φ' 12 = φ 12) (h13 : φ' 13 = φ 13) (h16 : φ' 16 = φ 16) (h17 : φ' 17 = φ 17) : ps t0 φ' pl ts s c0 l n t := by
  obtain ⟨w, p, q1, q2, q3, q4⟩ := hp
  refine ⟨w, p, by rw [h13]; exact q1, by rw [h16]; exact q2, by rw [h12]; exact q3, ?_⟩
  rw [h17]
  exact q4
/-- something onto the pile -/
theorem ps_push {t0 pl ts : List Value} {φ φ' : Nat → Int} {s c0 n t : Nat} {l : List Int} {o : Int} (hp : ps t0 φ pl ts s c0 l n t) (hl : φ 16 < pl.length) (h12 : φ' 12 = φ 12) (h13 : φ' 13 = φ 13) (h16 : φ' 16 = φ 16 + 1) (h17 : φ' 17 = (po_o (o :: l) : Int)) (ho : 0 ≤ o ∧ o ≤ 41) : ps t0 φ' (pl.set (φ 16).toNat (wp_i o)) ts s c0 (o :: l) n t := by
  obtain ⟨w, p, q1, q2, q3, q4, q5, q6, q7, q8, q9, q10⟩ := hp
  have ep : (φ 16).toNat = p := by omega
  rw [ep]
  refine ⟨w, p + 1, by omega, by omega, by rw [h12]; exact q3, q4, q5, q6, q7, ?_, h17, q10⟩
  rw [pp, pv_el_set (by omega) (by omega), if_pos rfl, pp_fr (pl := pl) (fun j hj => by rw [pv_el_set (by omega) (by omega), if_neg (by omega)]), q8]
set_option maxRecDepth 100000 in
theorem pf_18 : sx_fd sx_y63.2.2 18 = some (0, 0, 6) := by decide +kernel
set_option maxRecDepth 100000 in
theorem ji_205_0 : mj_ins 205 0 = some (.aload_n 0) := by decide +kernel
set_option maxRecDepth 100000 in
theorem ji_205_1 : mj_ins 205 1 = some (.getfield 157) := by decide +kernel
set_option maxRecDepth 100000 in
theorem jf_205_157 : mj_fld 205 157 = some (11, 17, .int, true) := by decide +kernel
set_option maxRecDepth 100000 in
theorem ji_205_4 : mj_ins 205 4 = some (.bipush 8) := by decide +kernel
set_option maxRecDepth 100000 in
theorem ji_205_6 : mj_ins 205 6 = some (.if_icmp .ne 5) := by decide +kernel
set_option maxRecDepth 100000 in
theorem ji_205_11 : mj_ins 205 11 = some (.aload_n 0) := by decide +kernel
set_option maxRecDepth 100000 in
theorem ji_205_12 : mj_ins 205 12 = some (.dup) := by decide +kernel
set_option maxRecDepth 100000 in
theorem ji_205_13 : mj_ins 205 13 = some (.getfield 157) := by decide +kernel
set_option maxRecDepth 100000 in
theorem ji_205_16 : mj_ins 205 16 = some (.iconst 1) := by decide +kernel
set_option maxRecDepth 100000 in
theorem ji_205_17 : mj_ins 205 17 = some (.iadd) := by decide +kernel
set_option maxRecDepth 100000 in
theorem ji_205_18 : mj_ins 205 18 = some (.putfield 157) := by decide +kernel
set_option maxRecDepth 100000 in
theorem ji_205_21 : mj_ins 205 21 = some (.aload_n 0) := by decide +kernel
set_option maxRecDepth 100000 in
theorem ji_205_22 : mj_ins 205 22 = some (.getfield 29) := by decide +kernel
set_option maxRecDepth 100000 in
theorem jf_205_29 : mj_fld 205 29 = some (11, 15, (.array .int), false) := by decide +kernel
set_option maxRecDepth 100000 in
theorem ji_205_25 : mj_ins 205 25 = some (.aload_n 0) := by decide +kernel
set_option maxRecDepth 100000 in
theorem ji_205_26 : mj_ins 205 26 = some (.getfield 147) := by decide +kernel
set_option maxRecDepth 100000 in
theorem jf_205_147 : mj_fld 205 147 = some (11, 16, .int, true) := by decide +kernel
set_option maxRecDepth 100000 in
theorem ji_205_29 : mj_ins 205 29 = some (.iload_n 1) := by decide +kernel
set_option maxRecDepth 100000 in
theorem ji_205_30 : mj_ins 205 30 = some (.iastore) := by decide +kernel
set_option maxRecDepth 100000 in
theorem ji_205_31 : mj_ins 205 31 = some (.aload_n 0) := by decide +kernel
set_option maxRecDepth 100000 in
theorem ji_205_32 : mj_ins 205 32 = some (.dup) := by decide +kernel
set_option maxRecDepth 100000 in
theorem ji_205_33 : mj_ins 205 33 = some (.getfield 147) := by decide +kernel
set_option maxRecDepth 100000 in
theorem ji_205_36 : mj_ins 205 36 = some (.iconst 1) := by decide +kernel
set_option maxRecDepth 100000 in
theorem ji_205_37 : mj_ins 205 37 = some (.iadd) := by decide +kernel
set_option maxRecDepth 100000 in
theorem ji_205_38 : mj_ins 205 38 = some (.putfield 147) := by decide +kernel
set_option maxRecDepth 100000 in
theorem ji_205_41 : mj_ins 205 41 = some (.aload_n 0) := by decide +kernel
set_option maxRecDepth 100000 in
theorem ji_205_42 : mj_ins 205 42 = some (.invokevirtual 171) := by decide +kernel
set_option maxRecDepth 100000 in
theorem jc_205_171 : mj_cal 205 171 = some (2, 178, 0) := by decide +kernel
set_option maxRecDepth 100000 in
theorem jk_178 : mj_cls 178 = 11 := by decide +kernel
set_option maxRecDepth 100000 in
theorem jn_178 : mj_nl 178 = 2 := by decide +kernel
set_option maxRecDepth 100000 in
theorem ji_205_45 : mj_ins 205 45 = some (.iconst 0) := by decide +kernel
set_option maxRecDepth 100000 in
theorem ji_205_46 : mj_ins 205 46 = some (.ireturn) := by decide +kernel
set_option maxRecDepth 100000 in
theorem jr_205 : mj_ret 205 = some .int := by decide +kernel
set_option maxRecDepth 100000 in
theorem ji_205_9 : mj_ins 205 9 = some (.iconst 3) := by decide +kernel
set_option maxRecDepth 100000 in
theorem ji_205_10 : mj_ins 205 10 = some (.ireturn) := by decide +kernel
set_option maxRecDepth 100000 in
theorem ji_204_0 : mj_ins 204 0 = some (.aload_n 0) := by decide +kernel
set_option maxRecDepth 100000 in
theorem ji_204_1 : mj_ins 204 1 = some (.iconst 5) := by decide +kernel
set_option maxRecDepth 100000 in
theorem ji_204_2 : mj_ins 204 2 = some (.invokevirtual 183) := by decide +kernel
set_option maxRecDepth 100000 in
theorem jc_204_183 : mj_cal 204 183 = some (2, 202, 1) := by decide +kernel
set_option maxRecDepth 100000 in
theorem jk_202 : mj_cls 202 = 11 := by decide +kernel
set_option maxRecDepth 100000 in
theorem jn_202 : mj_nl 202 = 2 := by decide +kernel
set_option maxRecDepth 100000 in
theorem ji_204_5 : mj_ins 204 5 = some (.aload_n 0) := by decide +kernel
set_option maxRecDepth 100000 in
theorem ji_204_6 : mj_ins 204 6 = some (.iconst 0) := by decide +kernel
set_option maxRecDepth 100000 in
theorem ji_204_7 : mj_ins 204 7 = some (.putfield 180) := by decide +kernel
set_option maxRecDepth 100000 in
theorem jf_204_180 : mj_fld 204 180 = some (11, 19, .boolean, true) := by decide +kernel
set_option maxRecDepth 100000 in
theorem pf_19 : sx_fd sx_y63.2.2 19 = some (0, 0, 1) := by decide +kernel
set_option maxRecDepth 100000 in
theorem ji_204_10 : mj_ins 204 10 = some (.aload_n 0) := by decide +kernel
set_option maxRecDepth 100000 in
theorem ji_204_11 : mj_ins 204 11 = some (.invokevirtual 171) := by decide +kernel
set_option maxRecDepth 100000 in
theorem jc_204_171 : mj_cal 204 171 = some (2, 178, 0) := by decide +kernel
set_option maxRecDepth 100000 in
theorem ji_204_14 : mj_ins 204 14 = some (.aload_n 0) := by decide +kernel
set_option maxRecDepth 100000 in
theorem ji_204_15 : mj_ins 204 15 = some (.getfield 95) := by decide +kernel
set_option maxRecDepth 100000 in
theorem jf_204_95 : mj_fld 204 95 = some (11, 9, .int, true) := by decide +kernel
set_option maxRecDepth 100000 in
theorem ji_204_18 : mj_ins 204 18 = some (.bipush 40) := by decide +kernel
set_option maxRecDepth 100000 in
theorem ji_204_20 : mj_ins 204 20 = some (.if_icmp .eq 5) := by decide +kernel
set_option maxRecDepth 100000 in
theorem ji_204_25 : mj_ins 204 25 = some (.aload_n 0) := by decide +kernel
set_option maxRecDepth 100000 in
theorem ji_204_26 : mj_ins 204 26 = some (.iconst 1) := by decide +kernel
set_option maxRecDepth 100000 in
theorem ji_204_27 : mj_ins 204 27 = some (.putfield 202) := by decide +kernel
set_option maxRecDepth 100000 in
theorem jf_204_202 : mj_fld 204 202 = some (11, 18, .int, true) := by decide +kernel
set_option maxRecDepth 100000 in
theorem ji_204_30 : mj_ins 204 30 = some (.aload_n 0) := by decide +kernel
set_option maxRecDepth 100000 in
theorem ji_204_31 : mj_ins 204 31 = some (.bipush 41) := by decide +kernel
set_option maxRecDepth 100000 in
theorem ji_204_33 : mj_ins 204 33 = some (.invokevirtual 186) := by decide +kernel
set_option maxRecDepth 100000 in
theorem jc_204_186 : mj_cal 204 186 = some (2, 205, 1) := by decide +kernel
set_option maxRecDepth 100000 in
theorem jk_205 : mj_cls 205 = 11 := by decide +kernel
set_option maxRecDepth 100000 in
theorem jn_205 : mj_nl 205 = 2 := by decide +kernel
set_option maxRecDepth 100000 in
theorem ji_204_36 : mj_ins 204 36 = some (.ireturn) := by decide +kernel
set_option maxRecDepth 100000 in
theorem jr_204 : mj_ret 204 = some .int := by decide +kernel
set_option maxRecDepth 100000 in
theorem ji_204_23 : mj_ins 204 23 = some (.iconst 1) := by decide +kernel
set_option maxRecDepth 100000 in
theorem ji_204_24 : mj_ins 204 24 = some (.ireturn) := by decide +kernel
theorem ws_opened {d : Nat} {h0 h : mj_H} {a P T : Nat} {φ : Nat → Int} {pl ts t0 : List Value} {s c0 n t : Nat} {l : List Int} (V : pv h0 h a P T φ pl ts) (hp : ps t0 φ pl ts s c0 l n t) {o : Int} (ho : o = 3 ∨ o = 20 ∨ o = 40 ∨ o = 41) (h154 : φ 16 ≤ 154) (hb : φ 13 + φ 16 + 1 ≤ φ 7) : wp_R (d + 1 + 1) 205 0 [some (.ref a), some (wp_i o)] [] h (fun v h1 => (v = some (wp_i 3) ∧ h1 = h) ∨ (v = some (wp_i 0) ∧ ∃ φ' pl', pv h0 h1 a P T φ' pl' ts ∧ ps t0 φ' pl' ts s c0 (o :: l) n t ∧ fq φ φ' ∧ φ' 18 = φ 18 ∧ φ' 19 = φ 19 ∧ tkb φ' ∧ adv φ φ')) := by
  have hpl := (pv_aP V).2.2.2.1
  have h17 : φ 17 = (po_o l : Int) := by obtain ⟨w, p, q1, q2, q3, q4, q5, q6, q7, q8, q9, q10⟩ := hp; exact q9
  have b7 := pv_b V (k := 7) (lo := 0) (hi := 300) (by decide) (by decide)
  have b13 := pv_b V (k := 13) (lo := 0) (hi := 303) (by decide) (by decide)
  have b16 := pv_b V (k := 16) (lo := 0) (hi := 160) (by decide) (by decide)
  have b17 := pv_b V (k := 17) (lo := 0) (hi := 8) (by decide) (by decide)
  have b18 := pv_b V (k := 18) (lo := 0) (hi := 6) (by decide) (by decide)
  refine wp_s (pc' := 1) ji_205_0 rfl rfl rfl ?_
  refine pv_gi V ji_205_1 jf_205_157 (by decide) pf_17 (y := φ 17) rfl (fun l1 u2 => ?_)
  refine wp_bp ji_205_4 rfl ?_
  refine wp_icmp (t := 11) ji_205_6 rfl (by omega) (by omega) (fun (hb3 : ¬ (φ 17 : Int) = 8) => ?_) (fun (hb3 : ¬ (¬ (φ 17 : Int) = 8)) => ?_)
  · refine wp_s (pc' := 12) ji_205_11 rfl rfl rfl ?_
    refine wp_s (pc' := 13) ji_205_12 rfl rfl rfl ?_
    refine pv_gi V ji_205_13 jf_205_157 (by decide) pf_17 (y := φ 17) rfl (fun l4 u5 => ?_)
    refine wp_s (pc' := 17) ji_205_16 rfl rfl rfl ?_
    refine wp_iadd (x := φ 17) (y := 1) (z := φ 17 + 1) ji_205_17 (by omega) ?_
    refine pv_pi V ji_205_18 jf_205_157 (by decide) pf_17 (by decide) (by decide) (by decide) (by omega) (by omega) (by omega) rfl rfl (fun h V => ?_)
    refine wp_s (pc' := 22) ji_205_21 rfl rfl rfl ?_
    refine pv_gp V ji_205_22 jf_205_29 ?_
    refine wp_s (pc' := 26) ji_205_25 rfl rfl rfl ?_
    refine pv_gi V ji_205_26 jf_205_147 (by decide) pf_16 (y := φ 16) rfl (fun l6 u7 => ?_)
    refine wp_s (pc' := 30) ji_205_29 rfl rfl rfl ?_
    refine pv_sp V (x := φ 16) (y := o) ji_205_30 (by omega) (by omega) (by omega) (by omega) (fun h V => ?_)
    refine wp_s (pc' := 32) ji_205_31 rfl rfl rfl ?_
    refine wp_s (pc' := 33) ji_205_32 rfl rfl rfl ?_
    refine pv_gi V ji_205_33 jf_205_147 (by decide) pf_16 (y := φ 16) rfl (fun l8 u9 => ?_)
    refine wp_s (pc' := 37) ji_205_36 rfl rfl rfl ?_
    refine wp_iadd (x := φ 16) (y := 1) (z := φ 16 + 1) ji_205_37 (by omega) ?_
    refine pv_pi V ji_205_38 jf_205_147 (by decide) pf_16 (by decide) (by decide) (by decide) (by omega) (by omega) (by omega) rfl rfl (fun h V => ?_)
    refine wp_s (pc' := 42) ji_205_41 rfl rfl rfl ?_
    refine pv_vc V ji_205_42 jc_205_171 jk_178 (rest := []) rfl (Nat.le_of_ble_eq_true rfl) rfl (by rw [jn_178]; rfl) (ws_next (by omega) V) (fun v h R => ?_)
    obtain ⟨rfl, φ10, V, hf10, ha10, hb10⟩ := R
    have e10_4 : φ10 4 = φ 4 := hf10 4 (by decide) (by decide) (by decide) (by decide)
    have e10_12 : φ10 12 = φ 12 := hf10 12 (by decide) (by decide) (by decide) (by decide)
    have e10_13 : φ10 13 = φ 13 := hf10 13 (by decide) (by decide) (by decide) (by decide)
    have e10_14 : φ10 14 = φ 14 := hf10 14 (by decide) (by decide) (by decide) (by decide)
    have e10_16 : φ10 16 = φ 16 + 1 := hf10 16 (by decide) (by decide) (by decide) (by decide)
    have e10_17 : φ10 17 = φ 17 + 1 := hf10 17 (by decide) (by decide) (by decide) (by decide)
    have e10_18 : φ10 18 = φ 18 := hf10 18 (by decide) (by decide) (by decide) (by decide)
    have e10_19 : φ10 19 = φ 19 := hf10 19 (by decide) (by decide) (by decide) (by decide)
    have e10_20 : φ10 20 = φ 20 := hf10 20 (by decide) (by decide) (by decide) (by decide)
    have e10_21 : φ10 21 = φ 21 := hf10 21 (by decide) (by decide) (by decide) (by decide)
    have a10 : φ 7 ≤ φ10 7 := ha10
    have b10 : ¬ φ10 9 = 0 → φ 7 + 1 ≤ φ10 7 := hb10
    show wp_R (d + 1 + 1) 205 45 [some (.ref a), some (wp_i o)] [] h _
    refine wp_s (pc' := 46) ji_205_45 rfl rfl rfl ?_
    refine wp_ri ji_205_46 jr_205 rfl (Or.inr ⟨rfl, φ10, _, V, ps_push hp (by rw [hpl]; omega) (by omega) (by omega) (by omega) ?_ (by omega), ⟨by omega, by omega, by omega, by omega, by omega⟩, by omega, by omega, ⟨by omega, fun q => by have := b10 q; omega⟩, ⟨by omega, fun q => by have := b10 q; omega⟩⟩)
    unfold po_o
    rw [if_pos ho]
    omega
  · refine wp_s (pc' := 10) ji_205_9 rfl rfl rfl ?_
    exact wp_ri ji_205_10 jr_205 rfl (Or.inl ⟨rfl, rfl⟩)
def pX (h0 : mj_H) (a P T : Nat) (t0 : List Value) (s c0 : Nat) (φ : Nat → Int) : Option Value → mj_H → Prop := fun v h1 => ∃ y : Int, v = some (wp_i y) ∧ ((0 < y ∧ y ≤ 7 ∧ pE h0 a P T t0 s c0 φ h1) ∨ (y = 0 ∧ pG h0 a P T t0 s c0 φ h1))
theorem ps_len {t0 pl ts : List Value} {φ : Nat → Int} {s c0 n t : Nat} {l : List Int} (hp : ps t0 φ pl ts s c0 l n t) : φ 16 = (l.length : Int) ∧ φ 17 = (po_o l : Int) := by
  obtain ⟨w, p, q1, q2, q3, q4, q5, q6, q7, q8, q9, q10⟩ := hp
  rw [← q8, pp_len, q8]
  exact ⟨q2, q9⟩
theorem ws_beginAmong {d : Nat} {h0 h : mj_H} {a P T : Nat} {φ : Nat → Int} {pl ts t0 : List Value} {s c0 n t : Nat} {l : List Int} (V : pv h0 h a P T φ pl ts) (hp : ps t0 φ pl ts s c0 l n t) (hA : po_A l) (hn : n = po_n (φ 18).toNat l + 1) (ht : t = po_t l) (hon : on l = -1) (hic : ic l = 0) (h20 : φ 20 = 1) (hb : tkb φ) (h9 : ¬ φ 9 = 0) (h154 : φ 16 ≤ 154) : wp_R (d + 1 + 1 + 1) 204 0 [some (.ref a)] [] h (pX h0 a P T t0 s c0 φ) := by
  have b7 := pv_b V (k := 7) (lo := 0) (hi := 300) (by decide) (by decide)
  have b13 := pv_b V (k := 13) (lo := 0) (hi := 303) (by decide) (by decide)
  have b16 := pv_b V (k := 16) (lo := 0) (hi := 160) (by decide) (by decide)
  have b17 := pv_b V (k := 17) (lo := 0) (hi := 8) (by decide) (by decide)
  have b18 := pv_b V (k := 18) (lo := 0) (hi := 6) (by decide) (by decide)
  subst hn ht
  have hb2 := hb.2 h9
  obtain ⟨l1, hse, hA1, ⟨k1, hk1⟩, -, htop⟩ := se_V (least := 5) (by omega) (am := (φ 18).toNat) hA (fun q => by omega)
  have hmem : ∀ x ∈ l1, x ∈ l := fun x hx => by rw [hk1] at hx; exact List.mem_of_mem_drop hx
  have hL : po_L l1 := po_A_L hA1 (fun x hx => on_n hon x (hmem x hx)) (fun x hx => ic_0 hA (on_n hon) hic x (hmem x hx)) (htop (by omega))
  have hle1 : l1.length ≤ l.length := by rw [hk1, List.length_drop]; omega
  have hlen := ps_len hp
  refine wp_s (pc' := 1) ji_204_0 rfl rfl rfl ?_
  refine wp_s (pc' := 2) ji_204_1 rfl rfl rfl ?_
  refine pv_vc V ji_204_2 jc_204_183 jk_202 (rest := []) rfl (Nat.le_of_ble_eq_true rfl) rfl (by rw [jn_202]; rfl) (ws_settle (least := 5) (by omega) _ _ _ _ _ _ V hp (show φ 13 + (φ 16) ≤ 300 by omega) hse) (fun v h R => ?_)
  obtain ⟨rfl, φ1, ts1, V, hp1, hf1, hs1⟩ := R
  have e1_4 : φ1 4 = φ 4 := hf1 4 (by decide) (by decide) (by decide)
  have e1_7 : φ1 7 = φ 7 := hf1 7 (by decide) (by decide) (by decide)
  have e1_9 : φ1 9 = φ 9 := hf1 9 (by decide) (by decide) (by decide)
  have e1_10 : φ1 10 = φ 10 := hf1 10 (by decide) (by decide) (by decide)
  have e1_12 : φ1 12 = φ 12 := hf1 12 (by decide) (by decide) (by decide)
  have e1_14 : φ1 14 = φ 14 := hf1 14 (by decide) (by decide) (by decide)
  have e1_18 : φ1 18 = φ 18 := hf1 18 (by decide) (by decide) (by decide)
  have e1_19 : φ1 19 = φ 19 := hf1 19 (by decide) (by decide) (by decide)
  have e1_20 : φ1 20 = φ 20 := hf1 20 (by decide) (by decide) (by decide)
  have e1_21 : φ1 21 = φ 21 := hf1 21 (by decide) (by decide) (by decide)
  have s1 : φ1 13 + φ1 16 ≤ φ 13 + (φ 16) := hs1
  have hlen1 := ps_len hp1
  show wp_R (d + 1 + 1 + 1) 204 5 [some (.ref a)] [] h _
  refine wp_s (pc' := 6) ji_204_5 rfl rfl rfl ?_
  refine wp_s (pc' := 7) ji_204_6 rfl rfl rfl ?_
  refine pv_pi V ji_204_7 jf_204_180 (by decide) pf_19 (by decide) (by decide) (by decide) (by omega) (by omega) (by omega) rfl rfl (fun h V => ?_)
  refine wp_s (pc' := 11) ji_204_10 rfl rfl rfl ?_
  refine pv_vc V ji_204_11 jc_204_171 jk_178 (rest := []) rfl (Nat.le_of_ble_eq_true rfl) rfl (by rw [jn_178]; rfl) (ws_next (by omega) V) (fun v h R => ?_)
  obtain ⟨rfl, φ2, V, hf2, ha2, hb2⟩ := R
  have e2_4 : φ2 4 = φ1 4 := hf2 4 (by decide) (by decide) (by decide) (by decide)
  have e2_12 : φ2 12 = φ1 12 := hf2 12 (by decide) (by decide) (by decide) (by decide)
  have e2_13 : φ2 13 = φ1 13 := hf2 13 (by decide) (by decide) (by decide) (by decide)
  have e2_14 : φ2 14 = φ1 14 := hf2 14 (by decide) (by decide) (by decide) (by decide)
  have e2_16 : φ2 16 = φ1 16 := hf2 16 (by decide) (by decide) (by decide) (by decide)
  have e2_17 : φ2 17 = φ1 17 := hf2 17 (by decide) (by decide) (by decide) (by decide)
  have e2_18 : φ2 18 = φ1 18 := hf2 18 (by decide) (by decide) (by decide) (by decide)
  have e2_19 : φ2 19 = 0 := hf2 19 (by decide) (by decide) (by decide) (by decide)
  have e2_20 : φ2 20 = φ1 20 := hf2 20 (by decide) (by decide) (by decide) (by decide)
  have e2_21 : φ2 21 = φ1 21 := hf2 21 (by decide) (by decide) (by decide) (by decide)
  have a2 : φ1 7 ≤ φ2 7 := ha2
  have b2 : ¬ φ2 9 = 0 → φ1 7 + 1 ≤ φ2 7 := hb2
  show wp_R (d + 1 + 1 + 1) 204 14 [some (.ref a)] [] h _
  refine wp_s (pc' := 15) ji_204_14 rfl rfl rfl ?_
  refine pv_gi V ji_204_15 jf_204_95 (by decide) pf_9 (y := φ2 9) rfl (fun l3 u4 => ?_)
  refine wp_bp ji_204_18 rfl ?_
  refine wp_icmp (t := 25) ji_204_20 rfl (by omega) (by omega) (fun (hb5 : (φ2 9 : Int) = 40) => ?_) (fun (hb5 : ¬ ((φ2 9 : Int) = 40)) => ?_)
  · refine wp_s (pc' := 26) ji_204_25 rfl rfl rfl ?_
    refine wp_s (pc' := 27) ji_204_26 rfl rfl rfl ?_
    refine pv_pi V ji_204_27 jf_204_202 (by decide) pf_18 (by decide) (by decide) (by decide) (by omega) (by omega) (by omega) rfl rfl (fun h V => ?_)
    refine wp_s (pc' := 31) ji_204_30 rfl rfl rfl ?_
    refine wp_bp ji_204_31 rfl ?_
    have hpc := ps_fr (φ' := pv_u φ2 18 1) hp1 (show φ2 12 = _ by omega) (show φ2 13 = _ by omega) (show φ2 16 = _ by omega) (show φ2 17 = _ by omega)
    refine pv_vc V ji_204_33 jc_204_186 jk_205 (rest := []) rfl (Nat.le_of_ble_eq_true rfl) rfl (by rw [jn_205]; rfl) (ws_opened V hpc (o := 41) (by omega) (show φ2 16 ≤ 154 by omega) (show φ2 13 + φ2 16 + 1 ≤ φ2 7 by omega)) (fun v h R => ?_)
    rcases R with ⟨rfl, rfl⟩ | ⟨rfl, φ9, pl9, V, hp9, ⟨f1, f2, f3, f4, f5⟩, f18, f19, f6, f7⟩
    · refine wp_ri ji_204_36 jr_204 rfl ⟨3, rfl, Or.inl ⟨by omega, by omega, _, _, _, _, _, _, V, hpc, ⟨show φ2 4 = _ by omega, show φ2 12 = _ by omega, show φ2 14 = _ by omega, show φ2 20 = _ by omega, show φ2 21 = _ by omega⟩, show φ2 13 + φ2 16 ≤ φ2 7 by omega, fun q => (show φ2 13 + 1 ≤ φ2 7 by omega), show φ 7 ≤ φ2 7 by omega⟩⟩
    · have f1 : φ9 4 = φ2 4 := f1
      have f2 : φ9 12 = φ2 12 := f2
      have f3 : φ9 14 = φ2 14 := f3
      have f4 : φ9 20 = φ2 20 := f4
      have f5 : φ9 21 = φ2 21 := f5
      have f19 : φ9 19 = φ2 19 := f19
      have f18 : φ9 18 = 1 := f18
      have f71 : φ2 7 ≤ φ9 7 := f7.1
      refine wp_ri ji_204_36 jr_204 rfl ⟨0, rfl, Or.inr ⟨rfl, φ9, pl9, _, _, _, _, V, hp9, ⟨by omega, by omega, by omega, by omega, by omega⟩, f6, ⟨by omega, fun q => by have := f7.2 q; have : φ2 7 + 1 ≤ φ9 7 := this; omega⟩, fun q => by omega, Or.inl ⟨by omega, Or.inr ⟨Or.inr (Or.inl rfl), hL⟩, ?_, ?_⟩⟩⟩
      · show po_n (φ 18).toNat l1 + 1 = po_n (φ9 18).toNat (41 :: l1); rw [f18, po_n_c, if_neg (by omega), if_neg (by omega), if_pos rfl, po_L_n hL, po_L_n hL]; rfl
      · show po_t l1 = po_t (41 :: l1); rw [po_t_c, if_neg (by omega), Nat.zero_add]
  · refine wp_s (pc' := 24) ji_204_23 rfl rfl rfl ?_
    exact wp_ri ji_204_24 jr_204 rfl ⟨1, rfl, Or.inl ⟨by omega, by omega, _, _, _, _, _, _, V, ps_fr hp1 (by omega) (by omega) (by omega) (by omega), ⟨by omega, by omega, by omega, by omega, by omega⟩, by omega, fun q => by have := b2 q; omega, by omega⟩⟩
