/-! ===== static leaves of the class ===== -/
theorem s_bits (w : WD) (d c f : Int32) : Sem mX3_bits 1 0 0 [.int d, .int c, .int f] w (some (.long ((c + nI 16 * f).toInt64 <<< ((nI 6 * d).toInt64 &&& 63)))) w := by
  refine sem_of (by decide) (Nat.le_of_ble_eq_true rfl) rfl ?_
  refine r_iload_n dX3_bits_0 rfl ?_
  refine r_bipush (v := (nI 16)) dX3_bits_1 (by decide) ?_
  refine r_iload_n dX3_bits_3 rfl ?_
  refine r_imul dX3_bits_4 ?_
  refine r_iadd dX3_bits_5 ?_
  refine r_pc 6 rfl ?_
  refine r_i2l dX3_bits_6 ?_
  refine r_bipush (v := (nI 6)) dX3_bits_7 (by decide) ?_
  refine r_iload_n dX3_bits_9 rfl ?_
  refine r_imul dX3_bits_10 ?_
  refine r_lshl dX3_bits_11 ?_
  refine r_pc 12 rfl ?_
  exact r_lret dX3_bits_12 rfl rfl rfl
theorem s_cellOf (w : WD) (q : Int64) (d : Int32) : Sem mX3_cellOf 1 0 0 [.long q, .int d] w (some (.int ((q >>> ((nI 6 * d).toInt64 &&& 63)).toInt32 &&& nI 15))) w := by
  refine sem_of (by decide) (Nat.le_of_ble_eq_true rfl) rfl ?_
  refine r_lload_n dX3_cellOf_0 rfl ?_
  refine r_bipush (v := (nI 6)) dX3_cellOf_1 (by decide) ?_
  refine r_iload_n dX3_cellOf_3 rfl ?_
  refine r_imul dX3_cellOf_4 ?_
  refine r_lshr dX3_cellOf_5 ?_
  refine r_pc 6 rfl ?_
  refine r_l2i dX3_cellOf_6 ?_
  refine r_bipush (v := (nI 15)) dX3_cellOf_7 (by decide) ?_
  refine r_iand dX3_cellOf_9 ?_
  exact r_iret dX3_cellOf_10 rfl rfl rfl
theorem s_isIn (w : WD) (d b : Int32) : Sem mX2_isIn 1 0 0 [.int d, .int b] w (some (.int (if d = -1 then nI 0 else if b >>> (d &&& 31) &&& nI 1 = nI 1 then nI 1 else nI 0))) w := by
  refine sem_of (by decide) (Nat.le_of_ble_eq_true rfl) rfl ?_
  refine r_iload_n dX2_isIn_0 rfl ?_
  refine r_iconst (v := (-1)) dX2_isIn_1 (by decide) ?_
  refine r_pc 2 rfl ?_
  refine r_icmp_eq 18 dX2_isIn_2 (by decide) (fun h2 => ?_) (fun h2 => ?_)
  · rw [if_pos h2]
    refine r_iconst (v := (nI 0)) dX2_isIn_18 (by decide) ?_
    exact r_zret dX2_isIn_19 rfl rfl rfl rfl
  · rw [if_neg h2]
    refine r_iload_n dX2_isIn_5 rfl ?_
    refine r_iload_n dX2_isIn_6 rfl ?_
    refine r_ishr dX2_isIn_7 ?_
    refine r_iconst (v := (nI 1)) dX2_isIn_8 (by decide) ?_
    refine r_iand dX2_isIn_9 ?_
    refine r_pc 10 rfl ?_
    refine r_iconst (v := (nI 1)) dX2_isIn_10 (by decide) ?_
    refine r_pc 11 rfl ?_
    refine r_icmp_ne 18 dX2_isIn_11 (by decide) (fun h11 => ?_) (fun h11 => ?_)
    · rw [if_neg h11]
      refine r_iconst (v := (nI 0)) dX2_isIn_18 (by decide) ?_
      exact r_zret dX2_isIn_19 rfl rfl rfl rfl
    · rw [if_pos h11]
      refine r_iconst (v := (nI 1)) dX2_isIn_14 (by decide) ?_
      refine r_goto 19 dX2_isIn_15 (by decide) ?_
      exact r_zret dX2_isIn_19 rfl rfl rfl rfl
def nbX (f : Nat) : Int32 := ([0, 1, 0, -1] : List Int32).getD f 0
def nbY (f : Nat) : Int32 := ([1, 0, -1, 0] : List Int32).getD f 0
def nbI (c f : Nat) : Int32 := if nI (c % 4) + nbX f < 0 then -1 else if nI 4 ≤ nI (c % 4) + nbX f then -1 else if nI (c / 4) + nbY f < 0 then -1 else if nI 4 ≤ nI (c / 4) + nbY f then -1 else nI 4 * (nI (c / 4) + nbY f) + (nI (c % 4) + nbX f)
theorem s_neighbour (w : WD) (c f : Nat) (hc : c < 16) (hf : f < 8) : Sem mX2_neighbour 1 0 0 [.int (nI c), .int (nI f)] w (some (.int (nbI c (f % 4)))) w := by
  refine sem_of (by decide) (Nat.le_of_ble_eq_true rfl) rfl ?_
  have hm : f % 4 < 4 := Nat.mod_lt _ (by decide)
  have he : nI f &&& nI 3 = nI (f % 4) := pk_andN (by omega) 2 (by decide)
  unfold nbI
  refine r_iload_n dX2_neighbour_0 rfl ?_
  refine r_iconst (v := (nI 4)) dX2_neighbour_1 (by decide) ?_
  refine r_iremN dX2_neighbour_2 (by omega) (by decide) (by decide) ?_
  refine r_gets (a := 2) dX2_neighbour_3 rfl sX2_122 ?_
  refine r_iload_n dX2_neighbour_6 rfl ?_
  refine r_pc 7 rfl ?_
  refine r_iconst (v := (nI 3)) dX2_neighbour_7 (by decide) ?_
  refine r_iand dX2_neighbour_8 ?_
  refine r_pc 9 rfl ?_
  refine r_topi _ he ?_
  refine r_cald (v := nbX (f % 4)) 2 rfl (Or.inl ⟨dX2_neighbour_9, rfl⟩) rfl hm (by decide) rfl ?_
  refine r_iadd dX2_neighbour_10 ?_
  refine r_istore_n (ls' := [_, _, _, _, _]) dX2_neighbour_11 (by decide) rfl ?_
  refine r_iload_n dX2_neighbour_12 rfl ?_
  refine r_iconst (v := (nI 4)) dX2_neighbour_13 (by decide) ?_
  refine r_pc 14 rfl ?_
  refine r_idivN dX2_neighbour_14 (by omega) (by decide) (by decide) ?_
  refine r_gets (a := 3) dX2_neighbour_15 rfl sX2_125 ?_
  refine r_iload_n dX2_neighbour_18 rfl ?_
  refine r_iconst (v := (nI 3)) dX2_neighbour_19 (by decide) ?_
  refine r_iand dX2_neighbour_20 ?_
  refine r_pc 21 rfl ?_
  refine r_topi _ he ?_
  refine r_cald (v := nbY (f % 4)) 3 rfl (Or.inl ⟨dX2_neighbour_21, rfl⟩) rfl hm (by decide) rfl ?_
  refine r_iadd dX2_neighbour_22 ?_
  refine r_istore_n (ls' := [_, _, _, _, _]) dX2_neighbour_23 (by decide) rfl ?_
  refine r_iload_n dX2_neighbour_24 rfl ?_
  refine r_pc 25 rfl ?_
  refine r_if_lt 46 dX2_neighbour_25 (by decide) (fun h25 => ?_) (fun h25 => ?_)
  · rw [if_pos h25]
    refine r_iconst (v := (nI 0)) dX2_neighbour_46 (by decide) ?_
    refine r_istore (ls' := [_, _, _, _, _]) dX2_neighbour_47 (by decide) rfl ?_
    refine r_iload dX2_neighbour_49 rfl ?_
    refine r_pc 51 rfl ?_
    refine r_if_eq 62 dX2_neighbour_51 (by decide) (fun h51 => ?_) (fun h51 => ?_)
    · refine r_iconst (v := (-1)) dX2_neighbour_62 (by decide) ?_
      exact r_iret dX2_neighbour_63 rfl rfl rfl
    · exact absurd rfl h51
  · rw [if_neg h25]
    refine r_iload_n dX2_neighbour_28 rfl ?_
    refine r_iconst (v := (nI 4)) dX2_neighbour_29 (by decide) ?_
    refine r_pc 30 rfl ?_
    refine r_icmp_ge 46 dX2_neighbour_30 (by decide) (fun h30 => ?_) (fun h30 => ?_)
    · rw [if_pos h30]
      refine r_iconst (v := (nI 0)) dX2_neighbour_46 (by decide) ?_
      refine r_istore (ls' := [_, _, _, _, _]) dX2_neighbour_47 (by decide) rfl ?_
      refine r_iload dX2_neighbour_49 rfl ?_
      refine r_pc 51 rfl ?_
      refine r_if_eq 62 dX2_neighbour_51 (by decide) (fun h51 => ?_) (fun h51 => ?_)
      · refine r_iconst (v := (-1)) dX2_neighbour_62 (by decide) ?_
        exact r_iret dX2_neighbour_63 rfl rfl rfl
      · exact absurd rfl h51
    · rw [if_neg h30]
      refine r_iload_n dX2_neighbour_33 rfl ?_
      refine r_pc 34 rfl ?_
      refine r_if_lt 46 dX2_neighbour_34 (by decide) (fun h34 => ?_) (fun h34 => ?_)
      · rw [if_pos h34]
        refine r_iconst (v := (nI 0)) dX2_neighbour_46 (by decide) ?_
        refine r_istore (ls' := [_, _, _, _, _]) dX2_neighbour_47 (by decide) rfl ?_
        refine r_iload dX2_neighbour_49 rfl ?_
        refine r_pc 51 rfl ?_
        refine r_if_eq 62 dX2_neighbour_51 (by decide) (fun h51 => ?_) (fun h51 => ?_)
        · refine r_iconst (v := (-1)) dX2_neighbour_62 (by decide) ?_
          exact r_iret dX2_neighbour_63 rfl rfl rfl
        · exact absurd rfl h51
      · rw [if_neg h34]
        refine r_iload_n dX2_neighbour_37 rfl ?_
        refine r_iconst (v := (nI 4)) dX2_neighbour_38 (by decide) ?_
        refine r_pc 39 rfl ?_
        refine r_icmp_ge 46 dX2_neighbour_39 (by decide) (fun h39 => ?_) (fun h39 => ?_)
        · rw [if_pos h39]
          refine r_iconst (v := (nI 0)) dX2_neighbour_46 (by decide) ?_
          refine r_istore (ls' := [_, _, _, _, _]) dX2_neighbour_47 (by decide) rfl ?_
          refine r_iload dX2_neighbour_49 rfl ?_
          refine r_pc 51 rfl ?_
          refine r_if_eq 62 dX2_neighbour_51 (by decide) (fun h51 => ?_) (fun h51 => ?_)
          · refine r_iconst (v := (-1)) dX2_neighbour_62 (by decide) ?_
            exact r_iret dX2_neighbour_63 rfl rfl rfl
          · exact absurd rfl h51
        · rw [if_neg h39]
          refine r_iconst (v := (nI 1)) dX2_neighbour_42 (by decide) ?_
          refine r_goto 47 dX2_neighbour_43 (by decide) ?_
          refine r_istore (ls' := [_, _, _, _, _]) dX2_neighbour_47 (by decide) rfl ?_
          refine r_iload dX2_neighbour_49 rfl ?_
          refine r_pc 51 rfl ?_
          refine r_if_eq 62 dX2_neighbour_51 (by decide) (fun h51 => ?_) (fun h51 => ?_)
          · exact absurd h51 (by decide)
          · refine r_iconst (v := (nI 4)) dX2_neighbour_54 (by decide) ?_
            refine r_iload_n dX2_neighbour_55 rfl ?_
            refine r_imul dX2_neighbour_56 ?_
            refine r_iload_n dX2_neighbour_57 rfl ?_
            refine r_iadd dX2_neighbour_58 ?_
            refine r_pc 59 rfl ?_
            refine r_goto 63 dX2_neighbour_59 (by decide) ?_
            exact r_iret dX2_neighbour_63 rfl rfl rfl
