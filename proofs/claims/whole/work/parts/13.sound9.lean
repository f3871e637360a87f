section
variable {p : Program} {l : Launch} {e : Env} {R : Room} {s : State} {m : MethodId} {args : Array Value} {below : List Frame} {meth : Method} {c : Code} {Q : State → Prop} {cc : ByteArray} {nL : Nat} {ret : Option FieldType} {ini : Bool} {D : va_G} {cl : List vw_C} {z : am_Z} {C4 : String} {q : am_Q} {Ts : List Cond} {own : String} {Ms : Nat → am_M} {LK : List am_L} {n0 s0 pc : Nat} {S S' : am_S} {SP : State → Prop} {X : am_X}
theorem kk_0 {os : List Nat} {c0 : Int32} {r : am_RR} (hx : ah_0 os c0 X S = some r) : am_rk r = 1 := by
  unfold ah_0 at hx
  split at hx
  · exact (kl_ju hx).1
  · cases hx
theorem kk_1 {os : List Nat} {c0 : Int32} {r : am_RR} (hx : ah_1 os c0 X S = some r) : am_rk r = 0 := by
  unfold ah_1 at hx
  split at hx
  · exact (kl_push hx).1
  · cases hx
theorem kk_2 {os : List Nat} {c0 : Int32} {r : am_RR} (hx : ah_2 os c0 X S = some r) : am_rk r = 0 := by
  unfold ah_2 at hx
  split at hx
  · exact (kl_push hx).1
  · cases hx
theorem kk_3 {os : List Nat} {c0 : Int32} {r : am_RR} (hx : ah_3 os c0 X S = some r) : am_rk r = 0 := by
  unfold ah_3 at hx
  split at hx
  · exact (kl_push hx).1
  · cases hx
theorem kk_4 {os : List Nat} {c0 : Int32} {r : am_RR} (hx : ah_4 os c0 X S = some r) : am_rk r = 0 := by
  unfold ah_4 at hx
  split at hx
  · exact (kl_lo hx).1
  · cases hx
theorem kk_5 {os : List Nat} {c0 : Int32} {r : am_RR} (hx : ah_5 os c0 X S = some r) : am_rk r = 0 := by
  unfold ah_5 at hx
  split at hx
  · exact (kl_lo hx).1
  · cases hx
theorem kk_6 {os : List Nat} {c0 : Int32} {r : am_RR} (hx : ah_6 os c0 X S = some r) : am_rk r = 0 := by
  unfold ah_6 at hx
  split at hx
  · exact (kl_lo hx).1
  · cases hx
theorem kk_7 {os : List Nat} {c0 : Int32} {r : am_RR} (hx : ah_7 os c0 X S = some r) : am_rk r = 0 := by
  unfold ah_7 at hx
  split at hx
  · exact (kl_st1 hx).1
  · cases hx
theorem kk_8 {os : List Nat} {c0 : Int32} {r : am_RR} (hx : ah_8 os c0 X S = some r) : am_rk r = 0 := by
  unfold ah_8 at hx
  split at hx
  · exact (kl_st2 hx).1
  · cases hx
theorem kk_9 {os : List Nat} {c0 : Int32} {r : am_RR} (hx : ah_9 os c0 X S = some r) : am_rk r = 0 := by
  unfold ah_9 at hx
  split at hx
  · exact (kl_st1 hx).1
  · cases hx
theorem kk_10 {os : List Nat} {c0 : Int32} {r : am_RR} (hx : ah_10 os c0 X S = some r) : am_rk r = 0 := by
  unfold ah_10 at hx
  split at hx
  · exact (kl_inc hx).1
  · cases hx
theorem kk_11 {os : List Nat} {c0 : Int32} {r : am_RR} (hx : ah_11 os c0 X S = some r) : am_rk r = 0 := by
  unfold ah_11 at hx
  split at hx
  · exact (kl_inc hx).1
  · cases hx
theorem kk_12 {os : List Nat} {c0 : Int32} {r : am_RR} (hx : ah_12 os c0 X S = some r) : am_rk r = 0 := by
  unfold ah_12 at hx
  split at hx
  · exact (kl_i2 hx).1
  · cases hx
theorem kk_13 {os : List Nat} {c0 : Int32} {r : am_RR} (hx : ah_13 os c0 X S = some r) : am_rk r = 0 := by
  unfold ah_13 at hx
  split at hx
  · exact (kl_i2 hx).1
  · cases hx
theorem kk_14 {os : List Nat} {c0 : Int32} {r : am_RR} (hx : ah_14 os c0 X S = some r) : am_rk r = 0 := by
  unfold ah_14 at hx
  split at hx
  · exact (kl_i2 hx).1
  · cases hx
theorem kk_15 {os : List Nat} {c0 : Int32} {r : am_RR} (hx : ah_15 os c0 X S = some r) : am_rk r = 0 := by
  unfold ah_15 at hx
  split at hx
  · exact (kl_i2z hx).1
  · cases hx
theorem kk_16 {os : List Nat} {c0 : Int32} {r : am_RR} (hx : ah_16 os c0 X S = some r) : am_rk r = 0 := by
  unfold ah_16 at hx
  split at hx
  · exact (kl_i2z hx).1
  · cases hx
theorem kk_17 {os : List Nat} {c0 : Int32} {r : am_RR} (hx : ah_17 os c0 X S = some r) : am_rk r = 0 := by
  unfold ah_17 at hx
  split at hx
  · exact (kl_i1 hx).1
  · cases hx
theorem kk_18 {os : List Nat} {c0 : Int32} {r : am_RR} (hx : ah_18 os c0 X S = some r) : am_rk r = 0 := by
  unfold ah_18 at hx
  split at hx
  · exact (kl_i2 hx).1
  · cases hx
theorem kk_19 {os : List Nat} {c0 : Int32} {r : am_RR} (hx : ah_19 os c0 X S = some r) : am_rk r = 0 := by
  unfold ah_19 at hx
  split at hx
  · exact (kl_i2 hx).1
  · cases hx
theorem kk_20 {os : List Nat} {c0 : Int32} {r : am_RR} (hx : ah_20 os c0 X S = some r) : am_rk r = 0 := by
  unfold ah_20 at hx
  split at hx
  · exact (kl_i2 hx).1
  · cases hx
theorem kk_21 {os : List Nat} {c0 : Int32} {r : am_RR} (hx : ah_21 os c0 X S = some r) : am_rk r = 0 := by
  unfold ah_21 at hx
  split at hx
  · exact (kl_i2 hx).1
  · cases hx
theorem kk_22 {os : List Nat} {c0 : Int32} {r : am_RR} (hx : ah_22 os c0 X S = some r) : am_rk r = 0 := by
  unfold ah_22 at hx
  split at hx
  · exact (kl_i2 hx).1
  · cases hx
theorem kk_23 {os : List Nat} {c0 : Int32} {r : am_RR} (hx : ah_23 os c0 X S = some r) : am_rk r = 0 := by
  unfold ah_23 at hx
  split at hx
  · exact (kl_l2 hx).1
  · cases hx
theorem kk_24 {os : List Nat} {c0 : Int32} {r : am_RR} (hx : ah_24 os c0 X S = some r) : am_rk r = 0 := by
  unfold ah_24 at hx
  split at hx
  · exact (kl_l2 hx).1
  · cases hx
theorem kk_25 {os : List Nat} {c0 : Int32} {r : am_RR} (hx : ah_25 os c0 X S = some r) : am_rk r = 0 := by
  unfold ah_25 at hx
  split at hx
  · exact (kl_lc hx).1
  · cases hx
theorem kk_26 {os : List Nat} {c0 : Int32} {r : am_RR} (hx : ah_26 os c0 X S = some r) : am_rk r = 0 := by
  unfold ah_26 at hx
  split at hx
  · exact (kl_il hx).1
  · cases hx
theorem kk_27 {os : List Nat} {c0 : Int32} {r : am_RR} (hx : ah_27 os c0 X S = some r) : am_rk r = 0 := by
  unfold ah_27 at hx
  split at hx
  · exact (kl_li hx).1
  · cases hx
theorem kk_28 {os : List Nat} {c0 : Int32} {r : am_RR} (hx : ah_28 os c0 X S = some r) : am_rk r = 0 := by
  unfold ah_28 at hx
  split at hx
  · exact (kl_i1 hx).1
  · cases hx
theorem kk_29 {os : List Nat} {c0 : Int32} {r : am_RR} (hx : ah_29 os c0 X S = some r) : am_rk r = 0 := by
  unfold ah_29 at hx
  split at hx
  · exact (kl_i1 hx).1
  · cases hx
theorem kk_30 {os : List Nat} {c0 : Int32} {r : am_RR} (hx : ah_30 os c0 X S = some r) : am_rk r = 0 := by
  unfold ah_30 at hx
  split at hx
  · exact (kl_dup hx).1
  · cases hx
theorem kk_31 {os : List Nat} {c0 : Int32} {r : am_RR} (hx : ah_31 os c0 X S = some r) : am_rk r = 0 := by
  unfold ah_31 at hx
  split at hx
  · exact (kl_pop hx).1
  · cases hx
theorem kk_32 {os : List Nat} {c0 : Int32} {r : am_RR} (hx : ah_32 os c0 X S = some r) : am_rk r = 0 := by
  unfold ah_32 at hx
  split at hx
  · exact (kl_dup2 hx).1
  · cases hx
theorem kk_33 {os : List Nat} {c0 : Int32} {r : am_RR} (hx : ah_33 os c0 X S = some r) : am_rk r = 0 := by
  unfold ah_33 at hx
  split at hx
  · exact (kl_get hx).1
  · cases hx
theorem kk_34 {os : List Nat} {c0 : Int32} {r : am_RR} (hx : ah_34 os c0 X S = some r) : am_rk r = 0 := by
  unfold ah_34 at hx
  split at hx
  · exact (kl_get hx).1
  · cases hx
theorem kk_35 {os : List Nat} {c0 : Int32} {r : am_RR} (hx : ah_35 os c0 X S = some r) : am_rk r = 0 := by
  unfold ah_35 at hx
  split at hx
  · exact (kl_putI hx).1
  · cases hx
theorem kk_36 {os : List Nat} {c0 : Int32} {r : am_RR} (hx : ah_36 os c0 X S = some r) : am_rk r = 0 := by
  unfold ah_36 at hx
  split at hx
  · exact (kl_putI hx).1
  · cases hx
theorem kk_37 {os : List Nat} {c0 : Int32} {r : am_RR} (hx : ah_37 os c0 X S = some r) : am_rk r = 0 := by
  unfold ah_37 at hx
  split at hx
  · exact (kl_putR hx).1
  · cases hx
theorem kk_38 {os : List Nat} {c0 : Int32} {r : am_RR} (hx : ah_38 os c0 X S = some r) : am_rk r = 0 := by
  unfold ah_38 at hx
  split at hx
  · exact (kl_ald hx).1
  · cases hx
theorem kk_39 {os : List Nat} {c0 : Int32} {r : am_RR} (hx : ah_39 os c0 X S = some r) : am_rk r = 0 := by
  unfold ah_39 at hx
  split at hx
  · exact (kl_ald hx).1
  · cases hx
theorem kk_40 {os : List Nat} {c0 : Int32} {r : am_RR} (hx : ah_40 os c0 X S = some r) : am_rk r = 0 := by
  unfold ah_40 at hx
  split at hx
  · exact (kl_ald hx).1
  · cases hx
theorem kk_41 {os : List Nat} {c0 : Int32} {r : am_RR} (hx : ah_41 os c0 X S = some r) : am_rk r = 0 := by
  unfold ah_41 at hx
  split at hx
  · exact (kl_ald hx).1
  · cases hx
theorem kk_42 {os : List Nat} {c0 : Int32} {r : am_RR} (hx : ah_42 os c0 X S = some r) : am_rk r = 0 := by
  unfold ah_42 at hx
  split at hx
  · exact (kl_ald hx).1
  · cases hx
theorem kk_43 {os : List Nat} {c0 : Int32} {r : am_RR} (hx : ah_43 os c0 X S = some r) : am_rk r = 0 := by
  unfold ah_43 at hx
  split at hx
  · exact (kl_ast hx).1
  · cases hx
theorem kk_44 {os : List Nat} {c0 : Int32} {r : am_RR} (hx : ah_44 os c0 X S = some r) : am_rk r = 0 := by
  unfold ah_44 at hx
  split at hx
  · exact (kl_ast hx).1
  · cases hx
theorem kk_45 {os : List Nat} {c0 : Int32} {r : am_RR} (hx : ah_45 os c0 X S = some r) : am_rk r = 0 := by
  unfold ah_45 at hx
  split at hx
  · exact (kl_ast hx).1
  · cases hx
theorem kk_46 {os : List Nat} {c0 : Int32} {r : am_RR} (hx : ah_46 os c0 X S = some r) : am_rk r = 0 := by
  unfold ah_46 at hx
  split at hx
  · exact (kl_lst hx).1
  · cases hx
theorem kk_47 {os : List Nat} {c0 : Int32} {r : am_RR} (hx : ah_47 os c0 X S = some r) : am_rk r = 0 := by
  unfold ah_47 at hx
  split at hx
  · exact (kl_rst hx).1
  · cases hx
theorem kk_49 {os : List Nat} {c0 : Int32} {r : am_RR} (hx : ah_49 os c0 X S = some r) : am_rk r = 1 := by
  unfold ah_49 at hx
  split at hx
  · exact (kl_if2 hx).1
  · cases hx
theorem kk_50 {os : List Nat} {c0 : Int32} {r : am_RR} (hx : ah_50 os c0 X S = some r) : am_rk r = 1 := by
  unfold ah_50 at hx
  split at hx
  · exact (kl_if1 hx).1
  · cases hx
theorem kk_51 {os : List Nat} {c0 : Int32} {r : am_RR} (hx : ah_51 os c0 X S = some r) : am_rk r = 1 := by
  unfold ah_51 at hx
  split at hx
  · exact (kl_ju hx).1
  · cases hx
theorem kk_52 {os : List Nat} {c0 : Int32} {r : am_RR} (hx : ah_52 os c0 X S = some r) : am_rk r = 1 := by
  unfold ah_52 at hx
  split at hx
  · exact (kl_sw hx).1
  · cases hx
theorem kk_53 {os : List Nat} {c0 : Int32} {r : am_RR} (hx : ah_53 os c0 X S = some r) : am_rk r = 0 := by
  unfold ah_53 at hx
  split at hx
  · exact (kl_push hx).1
  · cases hx
theorem kk_54 {os : List Nat} {c0 : Int32} {r : am_RR} (hx : ah_54 os c0 X S = some r) : am_rk r = 2 := by
  unfold ah_54 at hx
  split at hx
  · exact (kl_ri hx).1
  · cases hx
theorem kk_55 {os : List Nat} {c0 : Int32} {r : am_RR} (hx : ah_55 os c0 X S = some r) : am_rk r = 2 := by
  unfold ah_55 at hx
  split at hx
  · exact (kl_rl hx).1
  · cases hx
theorem kk_56 {os : List Nat} {c0 : Int32} {r : am_RR} (hx : ah_56 os c0 X S = some r) : am_rk r = 2 := by
  unfold ah_56 at hx
  split at hx
  · exact (kl_rv hx).1
  · cases hx
theorem kk_57 {os : List Nat} {c0 : Int32} {r : am_RR} (hx : ah_57 os c0 X S = some r) : am_rk r = 3 := by
  unfold ah_57 at hx
  split at hx
  · exact (kl_cv hx).1
  · cases hx
theorem kk_58 {os : List Nat} {c0 : Int32} {r : am_RR} (hx : ah_58 os c0 X S = some r) : am_rk r = 3 := by
  unfold ah_58 at hx
  split at hx
  · exact (kl_cs hx).1
  · cases hx
theorem kk_59 {os : List Nat} {c0 : Int32} {r : am_RR} (hx : ah_59 os c0 X S = some r) : am_rk r = 3 := by
  unfold ah_59 at hx
  split at hx
  · exact (kl_cv hx).1
  · cases hx
theorem kk_60 {os : List Nat} {c0 : Int32} {r : am_RR} (hx : ah_60 os c0 X S = some r) : am_rk r = 0 := by
  unfold ah_60 at hx
  split at hx
  · exact (kl_new hx).1
  · cases hx
theorem kk_61 {os : List Nat} {c0 : Int32} {r : am_RR} (hx : ah_61 os c0 X S = some r) : am_rk r = 0 := by
  unfold ah_61 at hx
  split at hx
  · exact (kl_nar hx).1
  · cases hx
theorem kk_62 {os : List Nat} {c0 : Int32} {r : am_RR} (hx : ah_62 os c0 X S = some r) : am_rk r = 0 := by
  unfold ah_62 at hx
  split at hx
  · exact (kl_nar hx).1
  · cases hx
theorem kk_63 {os : List Nat} {c0 : Int32} {r : am_RR} (hx : ah_63 os c0 X S = some r) : am_rk r = 0 := by
  unfold ah_63 at hx
  split at hx
  · exact (kl_oin hx).1
  · cases hx
theorem kk_64 {os : List Nat} {c0 : Int32} {r : am_RR} (hx : ah_64 os c0 X S = some r) : am_rk r = 0 := by
  unfold ah_64 at hx
  split at hx
  · exact (kl_mm hx).1
  · cases hx
theorem kk_65 {os : List Nat} {c0 : Int32} {r : am_RR} (hx : ah_65 os c0 X S = some r) : am_rk r = 0 := by
  unfold ah_65 at hx
  split at hx
  · exact (kl_mm hx).1
  · cases hx
theorem kk_66 {os : List Nat} {c0 : Int32} {r : am_RR} (hx : ah_66 os c0 X S = some r) : am_rk r = 0 := by
  unfold ah_66 at hx
  split at hx
  · exact (kl_cp hx).1
  · cases hx
theorem kk_67 {os : List Nat} {c0 : Int32} {r : am_RR} (hx : ah_67 os c0 X S = some r) : am_rk r = 0 := by
  unfold ah_67 at hx
  split at hx
  · exact (kl_push hx).1
  · cases hx
theorem kk_68 {os : List Nat} {c0 : Int32} {r : am_RR} (hx : ah_68 os c0 X S = some r) : am_rk r = 0 := by
  unfold ah_68 at hx
  split at hx
  · exact (kl_sl hx).1
  · cases hx
theorem kk_69 {os : List Nat} {c0 : Int32} {r : am_RR} (hx : ah_69 os c0 X S = some r) : am_rk r = 0 := by
  unfold ah_69 at hx
  split at hx
  · exact (kl_sc hx).1
  · cases hx
theorem kk_70 {os : List Nat} {c0 : Int32} {r : am_RR} (hx : ah_70 os c0 X S = some r) : am_rk r = 0 := by
  unfold ah_70 at hx
  split at hx
  · exact (kl_si hx).1
  · cases hx
theorem kk_71 {os : List Nat} {c0 : Int32} {r : am_RR} (hx : ah_71 os c0 X S = some r) : am_rk r = 0 := by
  unfold ah_71 at hx
  split at hx
  · exact (kl_xa hx).1
  · cases hx
theorem kk_72 {os : List Nat} {c0 : Int32} {r : am_RR} (hx : ah_72 os c0 X S = some r) : am_rk r = 0 := by
  unfold ah_72 at hx
  split at hx
  · exact (kl_xl hx).1
  · cases hx
theorem kk_73 {os : List Nat} {c0 : Int32} {r : am_RR} (hx : ah_73 os c0 X S = some r) : am_rk r = 2 := by
  unfold ah_73 at hx
  split at hx
  · exact (kl_ri hx).1
  · cases hx
theorem am_x_on {i : am_I} {len : Nat} {ins : Instr} (Cx : am_Cx p l e R s m args below meth c Q cc nL ret ini D cl z C4 q Ts own Ms LK n0 s0 X) (hx : am_x X i S = am_on S') (hm : am_mt LK ini ret z.2.1 Ms pc len ins i = true) (hd : decode cc pc = .ok (ins, len)) (hR : S'.2.2.1 - n0 ≤ R.cells ∧ S'.2.2.2.1 - s0 ≤ R.slots) (k : am_Nx p l e R s m args below meth c Q nL D cl z q n0 s0 (pc + len) S') : am_Nx p l e R s m args below meth c Q nL D cl z q n0 s0 pc S := by
  obtain ⟨op, os, c0⟩ := i
  unfold am_x at hx
  unfold am_mt at hm
  dsimp only at hx hm
  rcases am_h_cases op with h | rfl | rfl | rfl | rfl | rfl | rfl | rfl | rfl | rfl | rfl | rfl | rfl | rfl | rfl | rfl | rfl | rfl | rfl | rfl | rfl | rfl | rfl | rfl | rfl | rfl | rfl | rfl | rfl | rfl | rfl | rfl | rfl | rfl | rfl | rfl | rfl | rfl | rfl | rfl | rfl | rfl | rfl | rfl | rfl | rfl | rfl | rfl | rfl | rfl | rfl | rfl | rfl | rfl | rfl | rfl | rfl | rfl | rfl | rfl | rfl | rfl | rfl | rfl | rfl | rfl | rfl | rfl | rfl | rfl | rfl | rfl | rfl | rfl
  · rw [h] at hx
    cases hx
  · cases hm
  · exact so_1 (os := os) (c0 := c0) Cx hx hm hd hR k
  · exact so_2 (os := os) (c0 := c0) Cx hx hm hd hR k
  · exact so_3 (os := os) (c0 := c0) Cx hx hm hd hR k
  · exact so_4 (os := os) (c0 := c0) Cx hx hm hd hR k
  · exact so_5 (os := os) (c0 := c0) Cx hx hm hd hR k
  · exact so_6 (os := os) (c0 := c0) Cx hx hm hd hR k
  · exact so_7 (os := os) (c0 := c0) Cx hx hm hd hR k
  · exact so_8 (os := os) (c0 := c0) Cx hx hm hd hR k
  · exact so_9 (os := os) (c0 := c0) Cx hx hm hd hR k
  · exact so_10 (os := os) (c0 := c0) Cx hx hm hd hR k
  · exact so_11 (os := os) (c0 := c0) Cx hx hm hd hR k
  · exact so_12 (os := os) (c0 := c0) Cx hx hm hd hR k
  · exact so_13 (os := os) (c0 := c0) Cx hx hm hd hR k
  · exact so_14 (os := os) (c0 := c0) Cx hx hm hd hR k
  · exact so_15 (os := os) (c0 := c0) Cx hx hm hd hR k
  · exact so_16 (os := os) (c0 := c0) Cx hx hm hd hR k
  · exact so_17 (os := os) (c0 := c0) Cx hx hm hd hR k
  · exact so_18 (os := os) (c0 := c0) Cx hx hm hd hR k
  · exact so_19 (os := os) (c0 := c0) Cx hx hm hd hR k
  · exact so_20 (os := os) (c0 := c0) Cx hx hm hd hR k
  · exact so_21 (os := os) (c0 := c0) Cx hx hm hd hR k
  · exact so_22 (os := os) (c0 := c0) Cx hx hm hd hR k
  · exact so_23 (os := os) (c0 := c0) Cx hx hm hd hR k
  · exact so_24 (os := os) (c0 := c0) Cx hx hm hd hR k
  · exact so_25 (os := os) (c0 := c0) Cx hx hm hd hR k
  · exact so_26 (os := os) (c0 := c0) Cx hx hm hd hR k
  · exact so_27 (os := os) (c0 := c0) Cx hx hm hd hR k
  · exact so_28 (os := os) (c0 := c0) Cx hx hm hd hR k
  · exact so_29 (os := os) (c0 := c0) Cx hx hm hd hR k
  · exact so_30 (os := os) (c0 := c0) Cx hx hm hd hR k
  · exact so_31 (os := os) (c0 := c0) Cx hx hm hd hR k
  · exact so_32 (os := os) (c0 := c0) Cx hx hm hd hR k
  · exact so_33 (os := os) (c0 := c0) Cx hx hm hd hR k
  · exact so_34 (os := os) (c0 := c0) Cx hx hm hd hR k
  · exact so_35 (os := os) (c0 := c0) Cx hx hm hd hR k
  · exact so_36 (os := os) (c0 := c0) Cx hx hm hd hR k
  · exact so_37 (os := os) (c0 := c0) Cx hx hm hd hR k
  · exact so_38 (os := os) (c0 := c0) Cx hx hm hd hR k
  · exact so_39 (os := os) (c0 := c0) Cx hx hm hd hR k
  · exact so_40 (os := os) (c0 := c0) Cx hx hm hd hR k
  · exact so_41 (os := os) (c0 := c0) Cx hx hm hd hR k
  · exact so_42 (os := os) (c0 := c0) Cx hx hm hd hR k
  · exact so_43 (os := os) (c0 := c0) Cx hx hm hd hR k
  · exact so_44 (os := os) (c0 := c0) Cx hx hm hd hR k
  · exact so_45 (os := os) (c0 := c0) Cx hx hm hd hR k
  · exact so_46 (os := os) (c0 := c0) Cx hx hm hd hR k
  · exact so_47 (os := os) (c0 := c0) Cx hx hm hd hR k
  · exact nomatch (@kk_49 S X os c0 _ hx)
  · exact nomatch (@kk_50 S X os c0 _ hx)
  · exact nomatch (@kk_51 S X os c0 _ hx)
  · exact nomatch (@kk_52 S X os c0 _ hx)
  · exact so_53 (os := os) (c0 := c0) Cx hx hm hd hR k
  · exact nomatch (@kk_54 S X os c0 _ hx)
  · exact nomatch (@kk_55 S X os c0 _ hx)
  · exact nomatch (@kk_56 S X os c0 _ hx)
  · exact nomatch (@kk_57 S X os c0 _ hx)
  · exact nomatch (@kk_58 S X os c0 _ hx)
  · exact nomatch (@kk_59 S X os c0 _ hx)
  · exact so_60 (os := os) (c0 := c0) Cx hx hm hd hR k
  · exact so_61 (os := os) (c0 := c0) Cx hx hm hd hR k
  · exact so_62 (os := os) (c0 := c0) Cx hx hm hd hR k
  · exact so_63 (os := os) (c0 := c0) Cx hx hm hd hR k
  · exact so_64 (os := os) (c0 := c0) Cx hx hm hd hR k
  · exact so_65 (os := os) (c0 := c0) Cx hx hm hd hR k
  · exact so_66 (os := os) (c0 := c0) Cx hx hm hd hR k
  · exact Cx.2.2.2.2.2 (67, os, c0) pc len ins S S' (by simp) hx hm hd hR k
  · exact Cx.2.2.2.2.2 (68, os, c0) pc len ins S S' (by simp) hx hm hd hR k
  · exact Cx.2.2.2.2.2 (69, os, c0) pc len ins S S' (by simp) hx hm hd hR k
  · exact Cx.2.2.2.2.2 (70, os, c0) pc len ins S S' (by simp) hx hm hd hR k
  · exact so_71 (os := os) (c0 := c0) Cx hx hm hd hR k
  · exact so_72 (os := os) (c0 := c0) Cx hx hm hd hR k
  · exact nomatch (@kk_73 S X os c0 _ hx)
theorem am_x_ju {i : am_I} {len t' : Nat} {ins : Instr} (Cx : am_Cx p l e R s m args below meth c Q cc nL ret ini D cl z C4 q Ts own Ms LK n0 s0 X) (hx : am_x X i S = am_ju t' S') (hm : am_mt LK ini ret z.2.1 Ms pc len ins i = true) (hd : decode cc pc = .ok (ins, len)) (k : am_Nx p l e R s m args below meth c Q nL D cl z q n0 s0 t' S') : am_Nx p l e R s m args below meth c Q nL D cl z q n0 s0 pc S := by
  obtain ⟨op, os, c0⟩ := i
  unfold am_x at hx
  unfold am_mt at hm
  dsimp only at hx hm
  rcases am_h_cases op with h | rfl | rfl | rfl | rfl | rfl | rfl | rfl | rfl | rfl | rfl | rfl | rfl | rfl | rfl | rfl | rfl | rfl | rfl | rfl | rfl | rfl | rfl | rfl | rfl | rfl | rfl | rfl | rfl | rfl | rfl | rfl | rfl | rfl | rfl | rfl | rfl | rfl | rfl | rfl | rfl | rfl | rfl | rfl | rfl | rfl | rfl | rfl | rfl | rfl | rfl | rfl | rfl | rfl | rfl | rfl | rfl | rfl | rfl | rfl | rfl | rfl | rfl | rfl | rfl | rfl | rfl | rfl | rfl | rfl | rfl | rfl | rfl | rfl
  · rw [h] at hx
    cases hx
  · cases hm
  · exact nomatch (@kk_1 S X os c0 _ hx)
  · exact nomatch (@kk_2 S X os c0 _ hx)
  · exact nomatch (@kk_3 S X os c0 _ hx)
  · exact nomatch (@kk_4 S X os c0 _ hx)
  · exact nomatch (@kk_5 S X os c0 _ hx)
  · exact nomatch (@kk_6 S X os c0 _ hx)
  · exact nomatch (@kk_7 S X os c0 _ hx)
  · exact nomatch (@kk_8 S X os c0 _ hx)
  · exact nomatch (@kk_9 S X os c0 _ hx)
  · exact nomatch (@kk_10 S X os c0 _ hx)
  · exact nomatch (@kk_11 S X os c0 _ hx)
  · exact nomatch (@kk_12 S X os c0 _ hx)
  · exact nomatch (@kk_13 S X os c0 _ hx)
  · exact nomatch (@kk_14 S X os c0 _ hx)
  · exact nomatch (@kk_15 S X os c0 _ hx)
  · exact nomatch (@kk_16 S X os c0 _ hx)
  · exact nomatch (@kk_17 S X os c0 _ hx)
  · exact nomatch (@kk_18 S X os c0 _ hx)
  · exact nomatch (@kk_19 S X os c0 _ hx)
  · exact nomatch (@kk_20 S X os c0 _ hx)
  · exact nomatch (@kk_21 S X os c0 _ hx)
  · exact nomatch (@kk_22 S X os c0 _ hx)
  · exact nomatch (@kk_23 S X os c0 _ hx)
  · exact nomatch (@kk_24 S X os c0 _ hx)
  · exact nomatch (@kk_25 S X os c0 _ hx)
  · exact nomatch (@kk_26 S X os c0 _ hx)
  · exact nomatch (@kk_27 S X os c0 _ hx)
  · exact nomatch (@kk_28 S X os c0 _ hx)
  · exact nomatch (@kk_29 S X os c0 _ hx)
  · exact nomatch (@kk_30 S X os c0 _ hx)
  · exact nomatch (@kk_31 S X os c0 _ hx)
  · exact nomatch (@kk_32 S X os c0 _ hx)
  · exact nomatch (@kk_33 S X os c0 _ hx)
  · exact nomatch (@kk_34 S X os c0 _ hx)
  · exact nomatch (@kk_35 S X os c0 _ hx)
  · exact nomatch (@kk_36 S X os c0 _ hx)
  · exact nomatch (@kk_37 S X os c0 _ hx)
  · exact nomatch (@kk_38 S X os c0 _ hx)
  · exact nomatch (@kk_39 S X os c0 _ hx)
  · exact nomatch (@kk_40 S X os c0 _ hx)
  · exact nomatch (@kk_41 S X os c0 _ hx)
  · exact nomatch (@kk_42 S X os c0 _ hx)
  · exact nomatch (@kk_43 S X os c0 _ hx)
  · exact nomatch (@kk_44 S X os c0 _ hx)
  · exact nomatch (@kk_45 S X os c0 _ hx)
  · exact nomatch (@kk_46 S X os c0 _ hx)
  · exact nomatch (@kk_47 S X os c0 _ hx)
  · have hx : ah_49 os c0 X S = am_ju t' S' := hx
    have hm : at_49 LK ini ret z.2.1 Ms pc len ins os c0 = true := hm
    unfold ah_49 at hx
    split at hx
    · unfold at_49 at hm
      dsimp only at hm
      obtain ⟨rfl, h2, rfl, h3⟩ := of_decide_eq_true hm
      exact sx_if2 Cx.1 hd h2 h3 hx k
    · cases hx
  · have hx : ah_50 os c0 X S = am_ju t' S' := hx
    have hm : at_50 LK ini ret z.2.1 Ms pc len ins os c0 = true := hm
    unfold ah_50 at hx
    split at hx
    · unfold at_50 at hm
      dsimp only at hm
      obtain ⟨rfl, h2, rfl, h3⟩ := of_decide_eq_true hm
      exact sx_if1 Cx.1 hd h2 h3 hx k
    · cases hx
  · have hx : ah_51 os c0 X S = am_ju t' S' := hx
    have hm : at_51 LK ini ret z.2.1 Ms pc len ins os c0 = true := hm
    unfold ah_51 at hx
    split at hx
    · unfold at_51 at hm
      dsimp only at hm
      obtain ⟨rfl, rfl⟩ := of_decide_eq_true hm
      cases hx
      exact sx_ju Cx.1 hd rfl k
    · cases hx
  · have hx : ah_52 os c0 X S = am_ju t' S' := hx
    have hm : at_52 LK ini ret z.2.1 Ms pc len ins os c0 = true := hm
    unfold ah_52 at hx
    split at hx
    · unfold at_52 at hm
      dsimp only at hm
      have h1 := of_decide_eq_true hm
      subst h1
      exact sx_sw Cx.1 hd hx k
    · cases hx
  · exact nomatch (@kk_53 S X os c0 _ hx)
  · exact nomatch (@kk_54 S X os c0 _ hx)
  · exact nomatch (@kk_55 S X os c0 _ hx)
  · exact nomatch (@kk_56 S X os c0 _ hx)
  · exact nomatch (@kk_57 S X os c0 _ hx)
  · exact nomatch (@kk_58 S X os c0 _ hx)
  · exact nomatch (@kk_59 S X os c0 _ hx)
  · exact nomatch (@kk_60 S X os c0 _ hx)
  · exact nomatch (@kk_61 S X os c0 _ hx)
  · exact nomatch (@kk_62 S X os c0 _ hx)
  · exact nomatch (@kk_63 S X os c0 _ hx)
  · exact nomatch (@kk_64 S X os c0 _ hx)
  · exact nomatch (@kk_65 S X os c0 _ hx)
  · exact nomatch (@kk_66 S X os c0 _ hx)
  · exact nomatch (@kk_67 S X os c0 _ hx)
  · exact nomatch (@kk_68 S X os c0 _ hx)
  · exact nomatch (@kk_69 S X os c0 _ hx)
  · exact nomatch (@kk_70 S X os c0 _ hx)
  · exact nomatch (@kk_71 S X os c0 _ hx)
  · exact nomatch (@kk_72 S X os c0 _ hx)
  · exact nomatch (@kk_73 S X os c0 _ hx)
theorem am_x_re {i : am_I} {len : Nat} {ins : Instr} {r : Option Value} {h' : am_H} (Cx : am_Cx p l e R s m args below meth c Q cc nL ret ini D cl z C4 q Ts own Ms LK n0 s0 X) (hQ : Q = (MQ below (am_Qc D cl z q r h') args s (h'.1 - n0) (h'.2.1 - s0) (fun a => z.2.2.2 ≤ a))) (hx : am_x X i S = am_re r h') (hm : am_mt LK ini ret z.2.1 Ms pc len ins i = true) (hd : decode cc pc = .ok (ins, len)) : am_Nx p l e R s m args below meth c Q nL D cl z q n0 s0 pc S := by
  subst hQ
  obtain ⟨op, os, c0⟩ := i
  unfold am_x at hx
  unfold am_mt at hm
  dsimp only at hx hm
  rcases am_h_cases op with h | rfl | rfl | rfl | rfl | rfl | rfl | rfl | rfl | rfl | rfl | rfl | rfl | rfl | rfl | rfl | rfl | rfl | rfl | rfl | rfl | rfl | rfl | rfl | rfl | rfl | rfl | rfl | rfl | rfl | rfl | rfl | rfl | rfl | rfl | rfl | rfl | rfl | rfl | rfl | rfl | rfl | rfl | rfl | rfl | rfl | rfl | rfl | rfl | rfl | rfl | rfl | rfl | rfl | rfl | rfl | rfl | rfl | rfl | rfl | rfl | rfl | rfl | rfl | rfl | rfl | rfl | rfl | rfl | rfl | rfl | rfl | rfl | rfl
  · rw [h] at hx
    cases hx
  · cases hm
  · exact nomatch (@kk_1 S X os c0 _ hx)
  · exact nomatch (@kk_2 S X os c0 _ hx)
  · exact nomatch (@kk_3 S X os c0 _ hx)
  · exact nomatch (@kk_4 S X os c0 _ hx)
  · exact nomatch (@kk_5 S X os c0 _ hx)
  · exact nomatch (@kk_6 S X os c0 _ hx)
  · exact nomatch (@kk_7 S X os c0 _ hx)
  · exact nomatch (@kk_8 S X os c0 _ hx)
  · exact nomatch (@kk_9 S X os c0 _ hx)
  · exact nomatch (@kk_10 S X os c0 _ hx)
  · exact nomatch (@kk_11 S X os c0 _ hx)
  · exact nomatch (@kk_12 S X os c0 _ hx)
  · exact nomatch (@kk_13 S X os c0 _ hx)
  · exact nomatch (@kk_14 S X os c0 _ hx)
  · exact nomatch (@kk_15 S X os c0 _ hx)
  · exact nomatch (@kk_16 S X os c0 _ hx)
  · exact nomatch (@kk_17 S X os c0 _ hx)
  · exact nomatch (@kk_18 S X os c0 _ hx)
  · exact nomatch (@kk_19 S X os c0 _ hx)
  · exact nomatch (@kk_20 S X os c0 _ hx)
  · exact nomatch (@kk_21 S X os c0 _ hx)
  · exact nomatch (@kk_22 S X os c0 _ hx)
  · exact nomatch (@kk_23 S X os c0 _ hx)
  · exact nomatch (@kk_24 S X os c0 _ hx)
  · exact nomatch (@kk_25 S X os c0 _ hx)
  · exact nomatch (@kk_26 S X os c0 _ hx)
  · exact nomatch (@kk_27 S X os c0 _ hx)
  · exact nomatch (@kk_28 S X os c0 _ hx)
  · exact nomatch (@kk_29 S X os c0 _ hx)
  · exact nomatch (@kk_30 S X os c0 _ hx)
  · exact nomatch (@kk_31 S X os c0 _ hx)
  · exact nomatch (@kk_32 S X os c0 _ hx)
  · exact nomatch (@kk_33 S X os c0 _ hx)
  · exact nomatch (@kk_34 S X os c0 _ hx)
  · exact nomatch (@kk_35 S X os c0 _ hx)
  · exact nomatch (@kk_36 S X os c0 _ hx)
  · exact nomatch (@kk_37 S X os c0 _ hx)
  · exact nomatch (@kk_38 S X os c0 _ hx)
  · exact nomatch (@kk_39 S X os c0 _ hx)
  · exact nomatch (@kk_40 S X os c0 _ hx)
  · exact nomatch (@kk_41 S X os c0 _ hx)
  · exact nomatch (@kk_42 S X os c0 _ hx)
  · exact nomatch (@kk_43 S X os c0 _ hx)
  · exact nomatch (@kk_44 S X os c0 _ hx)
  · exact nomatch (@kk_45 S X os c0 _ hx)
  · exact nomatch (@kk_46 S X os c0 _ hx)
  · exact nomatch (@kk_47 S X os c0 _ hx)
  · exact nomatch (@kk_49 S X os c0 _ hx)
  · exact nomatch (@kk_50 S X os c0 _ hx)
  · exact nomatch (@kk_51 S X os c0 _ hx)
  · exact nomatch (@kk_52 S X os c0 _ hx)
  · exact nomatch (@kk_53 S X os c0 _ hx)
  · have hx : ah_54 os c0 X S = am_re r h' := hx
    have hm : at_54 LK ini ret z.2.1 Ms pc len ins os c0 = true := hm
    unfold ah_54 at hx
    split at hx
    · unfold at_54 at hm
      dsimp only at hm
      obtain ⟨rfl, rfl, h2⟩ := of_decide_eq_true hm
      exact sx_ri Cx.1 hd h2 (fun x _ => rfl) hx
    · cases hx
  · have hx : ah_55 os c0 X S = am_re r h' := hx
    have hm : at_55 LK ini ret z.2.1 Ms pc len ins os c0 = true := hm
    unfold ah_55 at hx
    split at hx
    · unfold at_55 at hm
      dsimp only at hm
      obtain ⟨rfl, rfl, h2⟩ := of_decide_eq_true hm
      exact sx_rl Cx.1 hd h2 hx
    · cases hx
  · have hx : ah_56 os c0 X S = am_re r h' := hx
    have hm : at_56 LK ini ret z.2.1 Ms pc len ins os c0 = true := hm
    unfold ah_56 at hx
    split at hx
    · unfold at_56 at hm
      dsimp only at hm
      obtain ⟨rfl, rfl, h2⟩ := of_decide_eq_true hm
      exact sx_rv Cx.1 hd h2 hx
    · cases hx
  · exact nomatch (@kk_57 S X os c0 _ hx)
  · exact nomatch (@kk_58 S X os c0 _ hx)
  · exact nomatch (@kk_59 S X os c0 _ hx)
  · exact nomatch (@kk_60 S X os c0 _ hx)
  · exact nomatch (@kk_61 S X os c0 _ hx)
  · exact nomatch (@kk_62 S X os c0 _ hx)
  · exact nomatch (@kk_63 S X os c0 _ hx)
  · exact nomatch (@kk_64 S X os c0 _ hx)
  · exact nomatch (@kk_65 S X os c0 _ hx)
  · exact nomatch (@kk_66 S X os c0 _ hx)
  · exact nomatch (@kk_67 S X os c0 _ hx)
  · exact nomatch (@kk_68 S X os c0 _ hx)
  · exact nomatch (@kk_69 S X os c0 _ hx)
  · exact nomatch (@kk_70 S X os c0 _ hx)
  · exact nomatch (@kk_71 S X os c0 _ hx)
  · exact nomatch (@kk_72 S X os c0 _ hx)
  · have hx : ah_73 os c0 X S = am_re r h' := hx
    have hm : at_73 LK ini ret z.2.1 Ms pc len ins os c0 = true := hm
    unfold ah_73 at hx
    split at hx
    · unfold at_73 at hm
      dsimp only at hm
      obtain ⟨rfl, rfl, h2⟩ := of_decide_eq_true hm
      exact sx_ri Cx.1 hd h2 (fun x h => (am_z1_of h).1) hx
    · cases hx
theorem am_x_ca {i : am_I} {len mx t' d : Nat} {as : List Value} {ins : Instr} {r : Option Value} {h1 : am_H} (Cx : am_Cx p l e R s m args below meth c Q cc nL ret ini D cl z C4 q Ts own Ms LK n0 s0 X) (hg : ∀ w ∈ Ts, (w.onTables && w.keeps) = true ∨ ∃ ty, w = .arrayClass ty) (hSP : am_SP z SP) (hsp : SP s) (hx : am_x X i S = am_ca mx as t' S') (hm : am_mt LK ini ret z.2.1 Ms pc len ins i = true) (hd : decode cc pc = .ok (ins, len)) (hM : am_Mt l D cl z C4 q SP Ts (Ms mx) d as S'.2.2 r h1) (hmo : S'.2.2.1 ≤ h1.1 ∧ S'.2.2.2.1 ≤ h1.2.1) (hR : d + 9 ≤ R.frames ∧ 100 * d + 600 ≤ R.locals) (hR2 : h1.1 - n0 ≤ R.cells ∧ h1.2.1 - s0 ≤ R.slots) (k : am_Nx p l e R s m args below meth c Q nL D cl z q n0 s0 t' (S'.1, am_st r S'.2.1, h1)) : am_Nx p l e R s m args below meth c Q nL D cl z q n0 s0 pc S := by
  obtain ⟨op, os, c0⟩ := i
  unfold am_x at hx
  unfold am_mt at hm
  dsimp only at hx hm
  rcases am_h_cases op with h | rfl | rfl | rfl | rfl | rfl | rfl | rfl | rfl | rfl | rfl | rfl | rfl | rfl | rfl | rfl | rfl | rfl | rfl | rfl | rfl | rfl | rfl | rfl | rfl | rfl | rfl | rfl | rfl | rfl | rfl | rfl | rfl | rfl | rfl | rfl | rfl | rfl | rfl | rfl | rfl | rfl | rfl | rfl | rfl | rfl | rfl | rfl | rfl | rfl | rfl | rfl | rfl | rfl | rfl | rfl | rfl | rfl | rfl | rfl | rfl | rfl | rfl | rfl | rfl | rfl | rfl | rfl | rfl | rfl | rfl | rfl | rfl | rfl
  · rw [h] at hx
    cases hx
  · cases hm
  · exact nomatch (@kk_1 S X os c0 _ hx)
  · exact nomatch (@kk_2 S X os c0 _ hx)
  · exact nomatch (@kk_3 S X os c0 _ hx)
  · exact nomatch (@kk_4 S X os c0 _ hx)
  · exact nomatch (@kk_5 S X os c0 _ hx)
  · exact nomatch (@kk_6 S X os c0 _ hx)
  · exact nomatch (@kk_7 S X os c0 _ hx)
  · exact nomatch (@kk_8 S X os c0 _ hx)
  · exact nomatch (@kk_9 S X os c0 _ hx)
  · exact nomatch (@kk_10 S X os c0 _ hx)
  · exact nomatch (@kk_11 S X os c0 _ hx)
  · exact nomatch (@kk_12 S X os c0 _ hx)
  · exact nomatch (@kk_13 S X os c0 _ hx)
  · exact nomatch (@kk_14 S X os c0 _ hx)
  · exact nomatch (@kk_15 S X os c0 _ hx)
  · exact nomatch (@kk_16 S X os c0 _ hx)
  · exact nomatch (@kk_17 S X os c0 _ hx)
  · exact nomatch (@kk_18 S X os c0 _ hx)
  · exact nomatch (@kk_19 S X os c0 _ hx)
  · exact nomatch (@kk_20 S X os c0 _ hx)
  · exact nomatch (@kk_21 S X os c0 _ hx)
  · exact nomatch (@kk_22 S X os c0 _ hx)
  · exact nomatch (@kk_23 S X os c0 _ hx)
  · exact nomatch (@kk_24 S X os c0 _ hx)
  · exact nomatch (@kk_25 S X os c0 _ hx)
  · exact nomatch (@kk_26 S X os c0 _ hx)
  · exact nomatch (@kk_27 S X os c0 _ hx)
  · exact nomatch (@kk_28 S X os c0 _ hx)
  · exact nomatch (@kk_29 S X os c0 _ hx)
  · exact nomatch (@kk_30 S X os c0 _ hx)
  · exact nomatch (@kk_31 S X os c0 _ hx)
  · exact nomatch (@kk_32 S X os c0 _ hx)
  · exact nomatch (@kk_33 S X os c0 _ hx)
  · exact nomatch (@kk_34 S X os c0 _ hx)
  · exact nomatch (@kk_35 S X os c0 _ hx)
  · exact nomatch (@kk_36 S X os c0 _ hx)
  · exact nomatch (@kk_37 S X os c0 _ hx)
  · exact nomatch (@kk_38 S X os c0 _ hx)
  · exact nomatch (@kk_39 S X os c0 _ hx)
  · exact nomatch (@kk_40 S X os c0 _ hx)
  · exact nomatch (@kk_41 S X os c0 _ hx)
  · exact nomatch (@kk_42 S X os c0 _ hx)
  · exact nomatch (@kk_43 S X os c0 _ hx)
  · exact nomatch (@kk_44 S X os c0 _ hx)
  · exact nomatch (@kk_45 S X os c0 _ hx)
  · exact nomatch (@kk_46 S X os c0 _ hx)
  · exact nomatch (@kk_47 S X os c0 _ hx)
  · exact nomatch (@kk_49 S X os c0 _ hx)
  · exact nomatch (@kk_50 S X os c0 _ hx)
  · exact nomatch (@kk_51 S X os c0 _ hx)
  · exact nomatch (@kk_52 S X os c0 _ hx)
  · exact nomatch (@kk_53 S X os c0 _ hx)
  · exact nomatch (@kk_54 S X os c0 _ hx)
  · exact nomatch (@kk_55 S X os c0 _ hx)
  · exact nomatch (@kk_56 S X os c0 _ hx)
  · have hx : ah_57 os c0 X S = am_ca mx as t' S' := hx
    have hm : at_57 LK ini ret z.2.1 Ms pc len ins os c0 = true := hm
    unfold ah_57 at hx
    split at hx
    · unfold at_57 at hm
      dsimp only at hm
      rw [Bool.and_eq_true] at hm
      obtain ⟨rfl, rfl, rfl, h2, h3⟩ := of_decide_eq_true hm.1
      exact sx_cv Cx.1 hg hSP hsp hd (am_ct hm.2) h2 h3 hx hM hmo hR hR2 k
    · cases hx
  · have hx : ah_58 os c0 X S = am_ca mx as t' S' := hx
    have hm : at_58 LK ini ret z.2.1 Ms pc len ins os c0 = true := hm
    unfold ah_58 at hx
    split at hx
    · unfold at_58 at hm
      dsimp only at hm
      rw [Bool.and_eq_true] at hm
      obtain ⟨rfl, rfl, rfl, h2⟩ := of_decide_eq_true hm.1
      exact sx_cs Cx.1 hg hSP hsp hd (am_ct hm.2) h2 hx hM hmo hR hR2 k
    · cases hx
  · have hx : ah_59 os c0 X S = am_ca mx as t' S' := hx
    have hm : at_59 LK ini ret z.2.1 Ms pc len ins os c0 = true := hm
    unfold ah_59 at hx
    split at hx
    · unfold at_59 at hm
      dsimp only at hm
      rw [Bool.and_eq_true] at hm
      obtain ⟨rfl, rfl, rfl, h2, h3⟩ := of_decide_eq_true hm.1
      exact sx_ci Cx.1 hg hSP hsp hd (am_ct hm.2) h2 h3 hx hM hmo hR hR2 k
    · cases hx
  · exact nomatch (@kk_60 S X os c0 _ hx)
  · exact nomatch (@kk_61 S X os c0 _ hx)
  · exact nomatch (@kk_62 S X os c0 _ hx)
  · exact nomatch (@kk_63 S X os c0 _ hx)
  · exact nomatch (@kk_64 S X os c0 _ hx)
  · exact nomatch (@kk_65 S X os c0 _ hx)
  · exact nomatch (@kk_66 S X os c0 _ hx)
  · exact nomatch (@kk_67 S X os c0 _ hx)
  · exact nomatch (@kk_68 S X os c0 _ hx)
  · exact nomatch (@kk_69 S X os c0 _ hx)
  · exact nomatch (@kk_70 S X os c0 _ hx)
  · exact nomatch (@kk_71 S X os c0 _ hx)
  · exact nomatch (@kk_72 S X os c0 _ hx)
  · exact nomatch (@kk_73 S X os c0 _ hx)
end
