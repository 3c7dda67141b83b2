/-- ONE STEP of the checker is sound -/
theorem sx_i_ok {P : sx_P} {r : Nat → Int} {g : Nat → Nat} {lv : mj_L} {st : List Value} {h : mj_H} {ls : List (Option sx_A)} {ss : List sx_A} {E : sx_E} {nr : Nat} {C : sx_C} {mods : List Nat} {m pc : Nat} {L : List sx_S} {i : Instr} (hl : sx_lr r g P.2.2.1 ls lv) (hs : sx_sr r g P.2.2.1 ss st) (hE : sx_in E r) (hC : sx_cr r g P.2.2.1 C h) (hH : sx_H P.1 P.2.1 P.2.2.1 h) (hm : sx_pfm m mods i (pc, ls, ss, E, nr, C) = true) (hp : sx_i P m i (pc, ls, ss, E, nr, C) = some L) : sx_Q P r g nr E.length mods m pc i lv st h L := by
  cases i with
  | iconst n => exact sx_q_iconst hl hs hE hC hH hp
  | bipush n => exact sx_q_bipush hl hs hE hC hH hp
  | sipush n => exact sx_q_sipush hl hs hE hC hH hp
  | lconst n =>
    simp only [sx_i] at hp
    cases hp
    refine ⟨_, _, _, _, rfl, sx_put1 hl hs hE hC hH ⟨_, rfl, ?_⟩⟩
    rw [sx_c_ev]
    exact Int64.toInt_ofNat_of_lt (by have := n.isLt; omega)
  | ldc x => exact sx_q_ldc hl hs hE hC hH hp
  | ldc_w x => exact sx_q_ldcw hl hs hE hC hH hp
  | ldc2_w x => exact sx_q_ldc2 hl hs hE hC hH hp
  | getstatic x => exact sx_q_gst hl hs hE hC hH hp
  | iload k => simp only [sx_i] at hp; exact sx_q_ild hl hs hE hC hH (fun _ _ _ => rfl) hp
  | iload_n k => simp only [sx_i] at hp; exact sx_q_ild hl hs hE hC hH (fun _ _ _ => rfl) hp
  | lload k => simp only [sx_i] at hp; exact sx_q_lld hl hs hE hC hH (fun _ _ _ => rfl) hp
  | lload_n k => simp only [sx_i] at hp; exact sx_q_lld hl hs hE hC hH (fun _ _ _ => rfl) hp
  | aload k => simp only [sx_i] at hp; exact sx_q_ald hl hs hE hC hH (fun _ _ _ => rfl) hp
  | aload_n k => simp only [sx_i] at hp; exact sx_q_ald hl hs hE hC hH (fun _ _ _ => rfl) hp
  | istore k => simp only [sx_i] at hp; exact sx_q_ist hl hs hE hC hH (fun _ _ _ => rfl) hp
  | istore_n k => simp only [sx_i] at hp; exact sx_q_ist hl hs hE hC hH (fun _ _ _ => rfl) hp
  | astore k => simp only [sx_i] at hp; exact sx_q_ast hl hs hE hC hH (fun _ _ _ => rfl) hp
  | astore_n k => simp only [sx_i] at hp; exact sx_q_ast hl hs hE hC hH (fun _ _ _ => rfl) hp
  | lstore k =>
    simp only [sx_i] at hp
    split at hp
    · exact sx_q_lst (n := 2) hl hs hE hC hH (fun _ _ _ => rfl) rfl hp
    · cases hp
  | lstore_n k =>
    simp only [sx_i] at hp
    split at hp
    · exact sx_q_lst (n := 1) hl hs hE hC hH (fun _ _ _ => rfl) rfl hp
    · cases hp
  | iinc k n => exact sx_q_iinc hl hs hE hC hH hp
  | iadd => exact sx_q_iadd hl hs hE hC hH hp
  | isub => exact sx_q_isub hl hs hE hC hH hp
  | imul => exact sx_q_imul hl hs hE hC hH hp
  | iand => exact sx_q_iand hl hs hE hC hH hp
  | ior => exact sx_q_ior hl hs hE hC hH hp
  | ixor => exact sx_q_ixor hl hs hE hC hH hp
  | ishl => exact sx_q_ishl hl hs hE hC hH hp
  | ishr => exact sx_q_ishr hl hs hE hC hH hp
  | iushr => exact sx_q_iushr hl hs hE hC hH hp
  | irem => exact sx_q_irem hl hs hE hC hH hp
  | idiv => exact sx_q_idiv hl hs hE hC hH hp
  | ineg => exact sx_q_ineg hl hs hE hC hH hp
  | ladd => exact sx_q_ladd hl hs hE hC hH hp
  | lsub => exact sx_q_lsub hl hs hE hC hH hp
  | lmul => exact sx_q_lmul hl hs hE hC hH hp
  | land => exact sx_q_land hl hs hE hC hH hp
  | lor => exact sx_q_lor hl hs hE hC hH hp
  | lxor => exact sx_q_lxor hl hs hE hC hH hp
  | ldiv => exact sx_q_ldiv hl hs hE hC hH hp
  | lrem => exact sx_q_lrem hl hs hE hC hH hp
  | lshl => exact sx_q_lshl hl hs hE hC hH hp
  | lshr => exact sx_q_lshr hl hs hE hC hH hp
  | lneg => exact sx_q_lneg hl hs hE hC hH hp
  | lcmp => exact sx_q_lcmp hl hs hE hC hH hp
  | i2l => exact sx_q_i2l hl hs hE hC hH hp
  | l2i => exact sx_q_l2i hl hs hE hC hH hp
  | dup => exact sx_q_dup hl hs hE hC hH hp
  | pop => exact sx_q_pop hl hs hE hC hH hp
  | pop2 => exact sx_q_pop2 hl hs hE hC hH hp
  | dup2 => exact sx_q_dup2 hl hs hE hC hH hp
  | ifCond c off => exact sx_q_if hl hs hE hC hH hp
  | if_icmp c off => exact sx_q_ificmp hl hs hE hC hH hp
  | goto off => exact sx_q_goto hl hs hE hC hH hp
  | tableswitch d lo hi offs => exact sx_q_tsw hl hs hE hC hH hp
  | lookupswitch d ps => exact sx_q_lsw hl hs hE hC hH hp
  | iaload =>
    simp only [sx_i] at hp
    refine sx_q_al hl hs hE hC hH hp (fun a z v kd t2 _ h1 h2 e => ?_)
    have ek : kd = 1000 := by omega
    subst ek
    simp only [mj_st, e]
    rfl
  | baload =>
    simp only [sx_i] at hp
    refine sx_q_al hl hs hE hC hH hp (fun a z v kd t2 _ h1 h2 e => ?_)
    have ek : kd = 1001 := by omega
    subst ek
    simp only [mj_st, e]
    rfl
  | laload =>
    simp only [sx_i] at hp
    refine sx_q_al hl hs hE hC hH hp (fun a z v kd t2 _ h1 h2 e => ?_)
    have ek : kd = 1005 := by omega
    subst ek
    simp only [mj_st, e]
    rfl
  | aaload =>
    simp only [sx_i] at hp
    refine sx_q_al hl hs hE hC hH hp (fun a z v kd t2 hv h1 h2 e => ?_)
    obtain ⟨vs, hv⟩ := hv
    simp only [mj_st, hv]
    rw [if_pos ⟨h1, by omega⟩, e]
    rfl
  | iastore =>
    simp only [sx_i] at hp
    refine sx_q_as hl hs hE hC hH (fun k x i t q s2 e => by subst e; simp only [sx_pfm] at hm; exact hm) (by decide) hp (fun a z v x s2 t2 h' _ hv e => ?_)
    obtain ⟨q, rfl, -⟩ := hv
    simp only [mj_st, e]
    rfl
  | lastore =>
    simp only [sx_i] at hp
    refine sx_q_as hl hs hE hC hH (fun k x i t q s2 e => by subst e; simp only [sx_pfm] at hm; exact hm) (by decide) hp (fun a z v x s2 t2 h' _ hv e => ?_)
    obtain ⟨q, rfl, -⟩ := hv
    simp only [mj_st, e]
    rfl
  | bastore => exact sx_q_bast hl hs hE hC hH (fun k x i t q s2 e => by subst e; simp only [sx_pfm] at hm; exact hm) hp
  | arraylength => exact sx_q_alen hl hs hE hC hH hp
  | getfield x => exact sx_q_get hl hs hE hC hH hp
  | putfield x => exact sx_q_put hl hs hE hC hH (fun c k ty w e => by simp only [sx_pfm, e] at hm; exact of_decide_eq_true hm) hp
  | invokestatic x => exact sx_q_inv hl hs hE hC hH (fun u k y i t q s2 e1 e2 => by subst e2; obtain ⟨u1, u2⟩ := u; simp only [sx_pfm, e1] at hm; exact hm) hp
  | invokevirtual x => exact sx_q_vir hl hs hE hC hH hp
  | _ => simp only [sx_i] at hp; cases hp
/-- what the checker's step takes is no return and no call of ours -/
theorem sx_i_ne {P : sx_P} {m : Nat} {i : Instr} {S : sx_S} {L : List sx_S} (hp : sx_i P m i S = some L) : (∀ st, mj_end m i st = none) ∧ ∀ st h, mj_call m i st h = none := by
  obtain ⟨pc, ls, ss, E, nr, C⟩ := S
  cases i with
  | ireturn => simp only [sx_i] at hp; cases hp
  | lreturn => simp only [sx_i] at hp; cases hp
  | areturn => simp only [sx_i] at hp; cases hp
  | return_ => simp only [sx_i] at hp; cases hp
  | invokespecial x => simp only [sx_i] at hp; cases hp
  | invokestatic x =>
    refine ⟨fun st => by simp only [mj_end], fun st h => ?_⟩
    simp only [sx_i] at hp
    simp only [mj_call]
    split at hp
    · rename_i hc; simp only [hc]
    · rename_i hc; simp only [hc]
    · rename_i hc; simp only [hc]
    · rename_i hc; simp only [hc]
    · rename_i hc; simp only [hc]
    · rename_i hc; simp only [hc]
    · cases hp
  | invokevirtual x =>
    refine ⟨fun st => by simp only [mj_end], fun st h => ?_⟩
    simp only [sx_i] at hp
    simp only [mj_call]
    split at hp
    · rename_i hc; simp only [hc]
    · rename_i hc; simp only [hc]
    · cases hp
  | _ => exact ⟨fun st => by simp only [mj_end], fun st h => by simp only [mj_call]⟩
